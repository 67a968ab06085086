/-! word, of both -/
theorem r_0_9 : eR e2 0 9 = some 354 := by decide +kernel
theorem r_355_3 : eR e2 355 3 = some 359 := by decide +kernel
theorem s_354 : eS e2 354 = .inr (.int, 8) := by decide +kernel
theorem s_359 : eS e2 359 = .inr (.int, 8) := by decide +kernel
def f_wordB (b0 b1 b2 b3 b4 b5 b6 b7 s : Int32) : Int32 := if (0 ≤ s.toInt ∧ s.toInt ≤ 9) ∧ (97 ≤ b0.toInt ∧ b0.toInt ≤ 122) ∧ ((b1.toInt = 0 ∧ b2.toInt = 0 ∧ b3.toInt = 0 ∧ b4.toInt = 0 ∧ b5.toInt = 0 ∧ b6.toInt = 0 ∧ b7.toInt = 0) ∨ (97 ≤ b1.toInt ∧ b1.toInt ≤ 122) ∧ ((b2.toInt = 0 ∧ b3.toInt = 0 ∧ b4.toInt = 0 ∧ b5.toInt = 0 ∧ b6.toInt = 0 ∧ b7.toInt = 0) ∨ (97 ≤ b2.toInt ∧ b2.toInt ≤ 122) ∧ ((b3.toInt = 0 ∧ b4.toInt = 0 ∧ b5.toInt = 0 ∧ b6.toInt = 0 ∧ b7.toInt = 0) ∨ (97 ≤ b3.toInt ∧ b3.toInt ≤ 122) ∧ ((b4.toInt = 0 ∧ b5.toInt = 0 ∧ b6.toInt = 0 ∧ b7.toInt = 0) ∨ (97 ≤ b4.toInt ∧ b4.toInt ≤ 122) ∧ ((b5.toInt = 0 ∧ b6.toInt = 0 ∧ b7.toInt = 0) ∨ (97 ≤ b5.toInt ∧ b5.toInt ≤ 122) ∧ ((b6.toInt = 0 ∧ b7.toInt = 0) ∨ (97 ≤ b6.toInt ∧ b6.toInt ≤ 122) ∧ (b7.toInt = 0 ∨ 97 ≤ b7.toInt ∧ b7.toInt ≤ 122))))))) then 0 else -1
set_option maxRecDepth 10000 in
set_option maxHeartbeats 40000000 in
theorem c_word {g : LH} (F : Fc g) (E : Fr g) (a c s b0 b1 b2 b3 b4 b5 b6 b7 : Int32) (hb0 : (((a).toUInt32 >>> (((0 : Int32)).toUInt32 &&& Int32.toUInt32 31)).toInt32 &&& (255 : Int32)) = b0) (hb1 : (((a).toUInt32 >>> (((8 : Int32)).toUInt32 &&& Int32.toUInt32 31)).toInt32 &&& (255 : Int32)) = b1) (hb2 : (((a).toUInt32 >>> (((16 : Int32)).toUInt32 &&& Int32.toUInt32 31)).toInt32 &&& (255 : Int32)) = b2) (hb3 : (((a).toUInt32 >>> (((24 : Int32)).toUInt32 &&& Int32.toUInt32 31)).toInt32 &&& (255 : Int32)) = b3) (hb4 : (((c).toUInt32 >>> (((0 : Int32)).toUInt32 &&& Int32.toUInt32 31)).toInt32 &&& (255 : Int32)) = b4) (hb5 : (((c).toUInt32 >>> (((8 : Int32)).toUInt32 &&& Int32.toUInt32 31)).toInt32 &&& (255 : Int32)) = b5) (hb6 : (((c).toUInt32 >>> (((16 : Int32)).toUInt32 &&& Int32.toUInt32 31)).toInt32 &&& (255 : Int32)) = b6) (hb7 : (((c).toUInt32 >>> (((24 : Int32)).toUInt32 &&& Int32.toUInt32 31)).toInt32 &&& (255 : Int32)) = b7) : LW 127 30 0 0 0 (lEnt (mL 127) [.ref 0, .int a, .int c, .int s]) [] g (fun v g' => v = some (.int (f_wordB b0 b1 b2 b3 b4 b5 b6 b7 s)) ∧ Fr g') := by
  refine LW_ls (ls' := [some (.ref 0), some (.int a), some (.int c), some (.int s), none, none, none, none]) rfl ?_
  refine X_iconst (v := (0 : Int32)) rfl rfl rfl ?_
  refine X_istore (i := 4) (ls' := [some (.ref 0), some (.int a), some (.int c), some (.int s), some (.int (0 : Int32)), none, none, none]) rfl rfl (Nat.le_of_ble_eq_true rfl) rfl ?_
  refine X_iconst (v := (0 : Int32)) rfl rfl rfl ?_
  refine X_istore (i := 5) (ls' := [some (.ref 0), some (.int a), some (.int c), some (.int s), some (.int (0 : Int32)), some (.int (0 : Int32)), none, none]) rfl rfl (Nat.le_of_ble_eq_true rfl) rfl ?_
  refine X_iconst (v := (0 : Int32)) rfl rfl rfl ?_
  refine X_istore (i := 6) (ls' := [some (.ref 0), some (.int a), some (.int c), some (.int s), some (.int (0 : Int32)), some (.int (0 : Int32)), some (.int (0 : Int32)), none]) rfl rfl (Nat.le_of_ble_eq_true rfl) rfl ?_
  refine X_iload rfl rfl rfl ?_
  refine X_bipush (v := (8 : Int32)) rfl rfl rfl ?_
  refine X_icmp_ge (tgt := 94) rfl rfl rfl (fun q => absurd q (by decide)) (fun _ => ?_)
  refine X_iload rfl rfl rfl ?_
  refine X_iconst (v := (4 : Int32)) rfl rfl rfl ?_
  refine X_icmp_ge (tgt := 26) rfl rfl rfl (fun q => absurd q (by decide)) (fun _ => ?_)
  refine X_iload_n rfl rfl rfl rfl ?_
  refine LW_goto (tgt := 27) rfl rfl ?_
  refine X_bipush (v := (8 : Int32)) rfl rfl rfl ?_
  refine X_iload rfl rfl rfl ?_
  refine X_iconst (v := (4 : Int32)) rfl rfl rfl ?_
  refine X_irem (v := (0 : Int32)) rfl rfl (by decide) rfl ?_
  refine X_imul (v := (0 : Int32)) rfl rfl rfl ?_
  refine X_iushr (v := ((a).toUInt32 >>> (((0 : Int32)).toUInt32 &&& Int32.toUInt32 31)).toInt32) rfl rfl rfl ?_
  refine X_sipush (v := (255 : Int32)) rfl rfl rfl ?_
  refine X_iand (v := b0) rfl rfl hb0 ?_
  refine X_istore (i := 7) (ls' := [some (.ref 0), some (.int a), some (.int c), some (.int s), some (.int (0 : Int32)), some (.int (0 : Int32)), some (.int (0 : Int32)), some (.int b0)]) rfl rfl (Nat.le_of_ble_eq_true rfl) rfl ?_
  refine X_iload rfl rfl rfl ?_
  refine X_if_ne (tgt := 52) rfl rfl rfl (fun h1 => ?_) (fun h1 => ?_)
  · refine X_iload rfl rfl rfl ?_
    refine X_if_ne (tgt := 71) rfl rfl rfl (fun q => absurd q (by decide)) (fun _ => ?_)
    refine X_iload rfl rfl rfl ?_
    refine X_bipush (v := (97 : Int32)) rfl rfl rfl ?_
    refine X_icmp_lt (tgt := 71) rfl rfl rfl (fun h2 => ?_) (fun h2 => ?_)
    · refine X_iconst (v := (-1 : Int32)) rfl rfl rfl ?_
      refine LW_ireturn (st := []) rfl rfl rfl ⟨congrArg (fun z => some (Value.int z)) ?_, E⟩
      simp only [Int32.lt_iff_toInt_lt, Int32.le_iff_toInt_le, ← Int32.toInt_inj, (show (0 : Int32).toInt = 0 from rfl), (show (97 : Int32).toInt = 97 from rfl)] at h1 h2
      unfold f_wordB
      rw [if_neg (by omega)]
    · refine X_iload rfl rfl rfl ?_
      refine X_bipush (v := (122 : Int32)) rfl rfl rfl ?_
      refine X_icmp_le (tgt := 73) rfl rfl rfl (fun h3 => ?_) (fun h3 => ?_)
      · refine X_aload_n rfl rfl rfl rfl ?_
        refine X_getR (a := 354) rfl rfl rfl ((congrFun F.1 0).trans s_0) rfl ((congrFun (F.2.1 0 (by decide)) 9).trans r_0_9) ?_
        refine X_iload rfl rfl rfl ?_
        refine X_iload rfl rfl rfl ?_
        refine X_bipush (v := (97 : Int32)) rfl rfl rfl ?_
        refine X_isub (v := (b0 - (97 : Int32))) rfl rfl rfl ?_
        refine X_iast (k0 := 0) rfl rfl ((congrFun F.1 354).trans s_354) (vp_in_d rfl) rfl ?_
        refine X_iinc (v := (1 : Int32)) (ls' := [some (.ref 0), some (.int a), some (.int c), some (.int s), some (.int (1 : Int32)), some (.int (0 : Int32)), some (.int (0 : Int32)), some (.int b0)]) rfl rfl rfl rfl rfl ?_
        refine X_iinc (v := (1 : Int32)) (ls' := [some (.ref 0), some (.int a), some (.int c), some (.int s), some (.int (1 : Int32)), some (.int (0 : Int32)), some (.int (1 : Int32)), some (.int b0)]) rfl rfl rfl rfl rfl ?_
        refine LW_goto (tgt := 9) rfl rfl ?_
        refine X_iload rfl rfl rfl ?_
        refine X_bipush (v := (8 : Int32)) rfl rfl rfl ?_
        refine X_icmp_ge (tgt := 94) rfl rfl rfl (fun q => absurd q (by decide)) (fun _ => ?_)
        refine X_iload rfl rfl rfl ?_
        refine X_iconst (v := (4 : Int32)) rfl rfl rfl ?_
        refine X_icmp_ge (tgt := 26) rfl rfl rfl (fun q => absurd q (by decide)) (fun _ => ?_)
        refine X_iload_n rfl rfl rfl rfl ?_
        refine LW_goto (tgt := 27) rfl rfl ?_
        refine X_bipush (v := (8 : Int32)) rfl rfl rfl ?_
        refine X_iload rfl rfl rfl ?_
        refine X_iconst (v := (4 : Int32)) rfl rfl rfl ?_
        refine X_irem (v := (1 : Int32)) rfl rfl (by decide) rfl ?_
        refine X_imul (v := (8 : Int32)) rfl rfl rfl ?_
        refine X_iushr (v := ((a).toUInt32 >>> (((8 : Int32)).toUInt32 &&& Int32.toUInt32 31)).toInt32) rfl rfl rfl ?_
        refine X_sipush (v := (255 : Int32)) rfl rfl rfl ?_
        refine X_iand (v := b1) rfl rfl hb1 ?_
        refine X_istore (i := 7) (ls' := [some (.ref 0), some (.int a), some (.int c), some (.int s), some (.int (1 : Int32)), some (.int (0 : Int32)), some (.int (1 : Int32)), some (.int b1)]) rfl rfl (Nat.le_of_ble_eq_true rfl) rfl ?_
        refine X_iload rfl rfl rfl ?_
        refine X_if_ne (tgt := 52) rfl rfl rfl (fun h4 => ?_) (fun h4 => ?_)
        · refine X_iload rfl rfl rfl ?_
          refine X_if_ne (tgt := 71) rfl rfl rfl (fun q => absurd q (by decide)) (fun _ => ?_)
          refine X_iload rfl rfl rfl ?_
          refine X_bipush (v := (97 : Int32)) rfl rfl rfl ?_
          refine X_icmp_lt (tgt := 71) rfl rfl rfl (fun h5 => ?_) (fun h5 => ?_)
          · refine X_iconst (v := (-1 : Int32)) rfl rfl rfl ?_
            refine LW_ireturn (st := []) rfl rfl rfl ⟨congrArg (fun z => some (Value.int z)) ?_, (Fr_putI E (by decide))⟩
            simp only [Int32.lt_iff_toInt_lt, Int32.le_iff_toInt_le, ← Int32.toInt_inj, (show (0 : Int32).toInt = 0 from rfl), (show (97 : Int32).toInt = 97 from rfl), (show (122 : Int32).toInt = 122 from rfl)] at h1 h2 h3 h4 h5
            unfold f_wordB
            rw [if_neg (by omega)]
          · refine X_iload rfl rfl rfl ?_
            refine X_bipush (v := (122 : Int32)) rfl rfl rfl ?_
            refine X_icmp_le (tgt := 73) rfl rfl rfl (fun h6 => ?_) (fun h6 => ?_)
            · refine X_aload_n rfl rfl rfl rfl ?_
              refine X_getR (a := 354) rfl rfl rfl ((congrFun F.1 0).trans s_0) rfl ((congrFun (F.2.1 0 (by decide)) 9).trans r_0_9) ?_
              refine X_iload rfl rfl rfl ?_
              refine X_iload rfl rfl rfl ?_
              refine X_bipush (v := (97 : Int32)) rfl rfl rfl ?_
              refine X_isub (v := (b1 - (97 : Int32))) rfl rfl rfl ?_
              refine X_iast (k0 := 1) rfl rfl ((congrFun F.1 354).trans s_354) (vp_in_d rfl) rfl ?_
              refine X_iinc (v := (2 : Int32)) (ls' := [some (.ref 0), some (.int a), some (.int c), some (.int s), some (.int (2 : Int32)), some (.int (0 : Int32)), some (.int (1 : Int32)), some (.int b1)]) rfl rfl rfl rfl rfl ?_
              refine X_iinc (v := (2 : Int32)) (ls' := [some (.ref 0), some (.int a), some (.int c), some (.int s), some (.int (2 : Int32)), some (.int (0 : Int32)), some (.int (2 : Int32)), some (.int b1)]) rfl rfl rfl rfl rfl ?_
              refine LW_goto (tgt := 9) rfl rfl ?_
              refine X_iload rfl rfl rfl ?_
              refine X_bipush (v := (8 : Int32)) rfl rfl rfl ?_
              refine X_icmp_ge (tgt := 94) rfl rfl rfl (fun q => absurd q (by decide)) (fun _ => ?_)
              refine X_iload rfl rfl rfl ?_
              refine X_iconst (v := (4 : Int32)) rfl rfl rfl ?_
              refine X_icmp_ge (tgt := 26) rfl rfl rfl (fun q => absurd q (by decide)) (fun _ => ?_)
              refine X_iload_n rfl rfl rfl rfl ?_
              refine LW_goto (tgt := 27) rfl rfl ?_
              refine X_bipush (v := (8 : Int32)) rfl rfl rfl ?_
              refine X_iload rfl rfl rfl ?_
              refine X_iconst (v := (4 : Int32)) rfl rfl rfl ?_
              refine X_irem (v := (2 : Int32)) rfl rfl (by decide) rfl ?_
              refine X_imul (v := (16 : Int32)) rfl rfl rfl ?_
              refine X_iushr (v := ((a).toUInt32 >>> (((16 : Int32)).toUInt32 &&& Int32.toUInt32 31)).toInt32) rfl rfl rfl ?_
              refine X_sipush (v := (255 : Int32)) rfl rfl rfl ?_
              refine X_iand (v := b2) rfl rfl hb2 ?_
              refine X_istore (i := 7) (ls' := [some (.ref 0), some (.int a), some (.int c), some (.int s), some (.int (2 : Int32)), some (.int (0 : Int32)), some (.int (2 : Int32)), some (.int b2)]) rfl rfl (Nat.le_of_ble_eq_true rfl) rfl ?_
              refine X_iload rfl rfl rfl ?_
              refine X_if_ne (tgt := 52) rfl rfl rfl (fun h7 => ?_) (fun h7 => ?_)
              · refine X_iload rfl rfl rfl ?_
                refine X_if_ne (tgt := 71) rfl rfl rfl (fun q => absurd q (by decide)) (fun _ => ?_)
                refine X_iload rfl rfl rfl ?_
                refine X_bipush (v := (97 : Int32)) rfl rfl rfl ?_
                refine X_icmp_lt (tgt := 71) rfl rfl rfl (fun h8 => ?_) (fun h8 => ?_)
                · refine X_iconst (v := (-1 : Int32)) rfl rfl rfl ?_
                  refine LW_ireturn (st := []) rfl rfl rfl ⟨congrArg (fun z => some (Value.int z)) ?_, (Fr_putI (Fr_putI E (by decide)) (by decide))⟩
                  simp only [Int32.lt_iff_toInt_lt, Int32.le_iff_toInt_le, ← Int32.toInt_inj, (show (0 : Int32).toInt = 0 from rfl), (show (97 : Int32).toInt = 97 from rfl), (show (122 : Int32).toInt = 122 from rfl)] at h1 h2 h3 h4 h5 h6 h7 h8
                  unfold f_wordB
                  rw [if_neg (by omega)]
                · refine X_iload rfl rfl rfl ?_
                  refine X_bipush (v := (122 : Int32)) rfl rfl rfl ?_
                  refine X_icmp_le (tgt := 73) rfl rfl rfl (fun h9 => ?_) (fun h9 => ?_)
                  · refine X_aload_n rfl rfl rfl rfl ?_
                    refine X_getR (a := 354) rfl rfl rfl ((congrFun F.1 0).trans s_0) rfl ((congrFun (F.2.1 0 (by decide)) 9).trans r_0_9) ?_
                    refine X_iload rfl rfl rfl ?_
                    refine X_iload rfl rfl rfl ?_
                    refine X_bipush (v := (97 : Int32)) rfl rfl rfl ?_
                    refine X_isub (v := (b2 - (97 : Int32))) rfl rfl rfl ?_
                    refine X_iast (k0 := 2) rfl rfl ((congrFun F.1 354).trans s_354) (vp_in_d rfl) rfl ?_
                    refine X_iinc (v := (3 : Int32)) (ls' := [some (.ref 0), some (.int a), some (.int c), some (.int s), some (.int (3 : Int32)), some (.int (0 : Int32)), some (.int (2 : Int32)), some (.int b2)]) rfl rfl rfl rfl rfl ?_
                    refine X_iinc (v := (3 : Int32)) (ls' := [some (.ref 0), some (.int a), some (.int c), some (.int s), some (.int (3 : Int32)), some (.int (0 : Int32)), some (.int (3 : Int32)), some (.int b2)]) rfl rfl rfl rfl rfl ?_
                    refine LW_goto (tgt := 9) rfl rfl ?_
                    refine X_iload rfl rfl rfl ?_
                    refine X_bipush (v := (8 : Int32)) rfl rfl rfl ?_
                    refine X_icmp_ge (tgt := 94) rfl rfl rfl (fun q => absurd q (by decide)) (fun _ => ?_)
                    refine X_iload rfl rfl rfl ?_
                    refine X_iconst (v := (4 : Int32)) rfl rfl rfl ?_
                    refine X_icmp_ge (tgt := 26) rfl rfl rfl (fun q => absurd q (by decide)) (fun _ => ?_)
                    refine X_iload_n rfl rfl rfl rfl ?_
                    refine LW_goto (tgt := 27) rfl rfl ?_
                    refine X_bipush (v := (8 : Int32)) rfl rfl rfl ?_
                    refine X_iload rfl rfl rfl ?_
                    refine X_iconst (v := (4 : Int32)) rfl rfl rfl ?_
                    refine X_irem (v := (3 : Int32)) rfl rfl (by decide) rfl ?_
                    refine X_imul (v := (24 : Int32)) rfl rfl rfl ?_
                    refine X_iushr (v := ((a).toUInt32 >>> (((24 : Int32)).toUInt32 &&& Int32.toUInt32 31)).toInt32) rfl rfl rfl ?_
                    refine X_sipush (v := (255 : Int32)) rfl rfl rfl ?_
                    refine X_iand (v := b3) rfl rfl hb3 ?_
                    refine X_istore (i := 7) (ls' := [some (.ref 0), some (.int a), some (.int c), some (.int s), some (.int (3 : Int32)), some (.int (0 : Int32)), some (.int (3 : Int32)), some (.int b3)]) rfl rfl (Nat.le_of_ble_eq_true rfl) rfl ?_
                    refine X_iload rfl rfl rfl ?_
                    refine X_if_ne (tgt := 52) rfl rfl rfl (fun h10 => ?_) (fun h10 => ?_)
                    · refine X_iload rfl rfl rfl ?_
                      refine X_if_ne (tgt := 71) rfl rfl rfl (fun q => absurd q (by decide)) (fun _ => ?_)
                      refine X_iload rfl rfl rfl ?_
                      refine X_bipush (v := (97 : Int32)) rfl rfl rfl ?_
                      refine X_icmp_lt (tgt := 71) rfl rfl rfl (fun h11 => ?_) (fun h11 => ?_)
                      · refine X_iconst (v := (-1 : Int32)) rfl rfl rfl ?_
                        refine LW_ireturn (st := []) rfl rfl rfl ⟨congrArg (fun z => some (Value.int z)) ?_, (Fr_putI (Fr_putI (Fr_putI E (by decide)) (by decide)) (by decide))⟩
                        simp only [Int32.lt_iff_toInt_lt, Int32.le_iff_toInt_le, ← Int32.toInt_inj, (show (0 : Int32).toInt = 0 from rfl), (show (97 : Int32).toInt = 97 from rfl), (show (122 : Int32).toInt = 122 from rfl)] at h1 h2 h3 h4 h5 h6 h7 h8 h9 h10 h11
                        unfold f_wordB
                        rw [if_neg (by omega)]
                      · refine X_iload rfl rfl rfl ?_
                        refine X_bipush (v := (122 : Int32)) rfl rfl rfl ?_
                        refine X_icmp_le (tgt := 73) rfl rfl rfl (fun h12 => ?_) (fun h12 => ?_)
                        · refine X_aload_n rfl rfl rfl rfl ?_
                          refine X_getR (a := 354) rfl rfl rfl ((congrFun F.1 0).trans s_0) rfl ((congrFun (F.2.1 0 (by decide)) 9).trans r_0_9) ?_
                          refine X_iload rfl rfl rfl ?_
                          refine X_iload rfl rfl rfl ?_
                          refine X_bipush (v := (97 : Int32)) rfl rfl rfl ?_
                          refine X_isub (v := (b3 - (97 : Int32))) rfl rfl rfl ?_
                          refine X_iast (k0 := 3) rfl rfl ((congrFun F.1 354).trans s_354) (vp_in_d rfl) rfl ?_
                          refine X_iinc (v := (4 : Int32)) (ls' := [some (.ref 0), some (.int a), some (.int c), some (.int s), some (.int (4 : Int32)), some (.int (0 : Int32)), some (.int (3 : Int32)), some (.int b3)]) rfl rfl rfl rfl rfl ?_
                          refine X_iinc (v := (4 : Int32)) (ls' := [some (.ref 0), some (.int a), some (.int c), some (.int s), some (.int (4 : Int32)), some (.int (0 : Int32)), some (.int (4 : Int32)), some (.int b3)]) rfl rfl rfl rfl rfl ?_
                          refine LW_goto (tgt := 9) rfl rfl ?_
                          refine X_iload rfl rfl rfl ?_
                          refine X_bipush (v := (8 : Int32)) rfl rfl rfl ?_
                          refine X_icmp_ge (tgt := 94) rfl rfl rfl (fun q => absurd q (by decide)) (fun _ => ?_)
                          refine X_iload rfl rfl rfl ?_
                          refine X_iconst (v := (4 : Int32)) rfl rfl rfl ?_
                          refine X_icmp_ge (tgt := 26) rfl rfl rfl (fun _ => ?_) (fun q => absurd q (by decide))
                          refine X_iload_n rfl rfl rfl rfl ?_
                          refine X_bipush (v := (8 : Int32)) rfl rfl rfl ?_
                          refine X_iload rfl rfl rfl ?_
                          refine X_iconst (v := (4 : Int32)) rfl rfl rfl ?_
                          refine X_irem (v := (0 : Int32)) rfl rfl (by decide) rfl ?_
                          refine X_imul (v := (0 : Int32)) rfl rfl rfl ?_
                          refine X_iushr (v := ((c).toUInt32 >>> (((0 : Int32)).toUInt32 &&& Int32.toUInt32 31)).toInt32) rfl rfl rfl ?_
                          refine X_sipush (v := (255 : Int32)) rfl rfl rfl ?_
                          refine X_iand (v := b4) rfl rfl hb4 ?_
                          refine X_istore (i := 7) (ls' := [some (.ref 0), some (.int a), some (.int c), some (.int s), some (.int (4 : Int32)), some (.int (0 : Int32)), some (.int (4 : Int32)), some (.int b4)]) rfl rfl (Nat.le_of_ble_eq_true rfl) rfl ?_
                          refine X_iload rfl rfl rfl ?_
                          refine X_if_ne (tgt := 52) rfl rfl rfl (fun h13 => ?_) (fun h13 => ?_)
                          · refine X_iload rfl rfl rfl ?_
                            refine X_if_ne (tgt := 71) rfl rfl rfl (fun q => absurd q (by decide)) (fun _ => ?_)
                            refine X_iload rfl rfl rfl ?_
                            refine X_bipush (v := (97 : Int32)) rfl rfl rfl ?_
                            refine X_icmp_lt (tgt := 71) rfl rfl rfl (fun h14 => ?_) (fun h14 => ?_)
                            · refine X_iconst (v := (-1 : Int32)) rfl rfl rfl ?_
                              refine LW_ireturn (st := []) rfl rfl rfl ⟨congrArg (fun z => some (Value.int z)) ?_, (Fr_putI (Fr_putI (Fr_putI (Fr_putI E (by decide)) (by decide)) (by decide)) (by decide))⟩
                              simp only [Int32.lt_iff_toInt_lt, Int32.le_iff_toInt_le, ← Int32.toInt_inj, (show (0 : Int32).toInt = 0 from rfl), (show (97 : Int32).toInt = 97 from rfl), (show (122 : Int32).toInt = 122 from rfl)] at h1 h2 h3 h4 h5 h6 h7 h8 h9 h10 h11 h12 h13 h14
                              unfold f_wordB
                              rw [if_neg (by omega)]
                            · refine X_iload rfl rfl rfl ?_
                              refine X_bipush (v := (122 : Int32)) rfl rfl rfl ?_
                              refine X_icmp_le (tgt := 73) rfl rfl rfl (fun h15 => ?_) (fun h15 => ?_)
                              · refine X_aload_n rfl rfl rfl rfl ?_
                                refine X_getR (a := 354) rfl rfl rfl ((congrFun F.1 0).trans s_0) rfl ((congrFun (F.2.1 0 (by decide)) 9).trans r_0_9) ?_
                                refine X_iload rfl rfl rfl ?_
                                refine X_iload rfl rfl rfl ?_
                                refine X_bipush (v := (97 : Int32)) rfl rfl rfl ?_
                                refine X_isub (v := (b4 - (97 : Int32))) rfl rfl rfl ?_
                                refine X_iast (k0 := 4) rfl rfl ((congrFun F.1 354).trans s_354) (vp_in_d rfl) rfl ?_
                                refine X_iinc (v := (5 : Int32)) (ls' := [some (.ref 0), some (.int a), some (.int c), some (.int s), some (.int (5 : Int32)), some (.int (0 : Int32)), some (.int (4 : Int32)), some (.int b4)]) rfl rfl rfl rfl rfl ?_
                                refine X_iinc (v := (5 : Int32)) (ls' := [some (.ref 0), some (.int a), some (.int c), some (.int s), some (.int (5 : Int32)), some (.int (0 : Int32)), some (.int (5 : Int32)), some (.int b4)]) rfl rfl rfl rfl rfl ?_
                                refine LW_goto (tgt := 9) rfl rfl ?_
                                refine X_iload rfl rfl rfl ?_
                                refine X_bipush (v := (8 : Int32)) rfl rfl rfl ?_
                                refine X_icmp_ge (tgt := 94) rfl rfl rfl (fun q => absurd q (by decide)) (fun _ => ?_)
                                refine X_iload rfl rfl rfl ?_
                                refine X_iconst (v := (4 : Int32)) rfl rfl rfl ?_
                                refine X_icmp_ge (tgt := 26) rfl rfl rfl (fun _ => ?_) (fun q => absurd q (by decide))
                                refine X_iload_n rfl rfl rfl rfl ?_
                                refine X_bipush (v := (8 : Int32)) rfl rfl rfl ?_
                                refine X_iload rfl rfl rfl ?_
                                refine X_iconst (v := (4 : Int32)) rfl rfl rfl ?_
                                refine X_irem (v := (1 : Int32)) rfl rfl (by decide) rfl ?_
                                refine X_imul (v := (8 : Int32)) rfl rfl rfl ?_
                                refine X_iushr (v := ((c).toUInt32 >>> (((8 : Int32)).toUInt32 &&& Int32.toUInt32 31)).toInt32) rfl rfl rfl ?_
                                refine X_sipush (v := (255 : Int32)) rfl rfl rfl ?_
                                refine X_iand (v := b5) rfl rfl hb5 ?_
                                refine X_istore (i := 7) (ls' := [some (.ref 0), some (.int a), some (.int c), some (.int s), some (.int (5 : Int32)), some (.int (0 : Int32)), some (.int (5 : Int32)), some (.int b5)]) rfl rfl (Nat.le_of_ble_eq_true rfl) rfl ?_
                                refine X_iload rfl rfl rfl ?_
                                refine X_if_ne (tgt := 52) rfl rfl rfl (fun h16 => ?_) (fun h16 => ?_)
                                · refine X_iload rfl rfl rfl ?_
                                  refine X_if_ne (tgt := 71) rfl rfl rfl (fun q => absurd q (by decide)) (fun _ => ?_)
                                  refine X_iload rfl rfl rfl ?_
                                  refine X_bipush (v := (97 : Int32)) rfl rfl rfl ?_
                                  refine X_icmp_lt (tgt := 71) rfl rfl rfl (fun h17 => ?_) (fun h17 => ?_)
                                  · refine X_iconst (v := (-1 : Int32)) rfl rfl rfl ?_
                                    refine LW_ireturn (st := []) rfl rfl rfl ⟨congrArg (fun z => some (Value.int z)) ?_, (Fr_putI (Fr_putI (Fr_putI (Fr_putI (Fr_putI E (by decide)) (by decide)) (by decide)) (by decide)) (by decide))⟩
                                    simp only [Int32.lt_iff_toInt_lt, Int32.le_iff_toInt_le, ← Int32.toInt_inj, (show (0 : Int32).toInt = 0 from rfl), (show (97 : Int32).toInt = 97 from rfl), (show (122 : Int32).toInt = 122 from rfl)] at h1 h2 h3 h4 h5 h6 h7 h8 h9 h10 h11 h12 h13 h14 h15 h16 h17
                                    unfold f_wordB
                                    rw [if_neg (by omega)]
                                  · refine X_iload rfl rfl rfl ?_
                                    refine X_bipush (v := (122 : Int32)) rfl rfl rfl ?_
                                    refine X_icmp_le (tgt := 73) rfl rfl rfl (fun h18 => ?_) (fun h18 => ?_)
                                    · refine X_aload_n rfl rfl rfl rfl ?_
                                      refine X_getR (a := 354) rfl rfl rfl ((congrFun F.1 0).trans s_0) rfl ((congrFun (F.2.1 0 (by decide)) 9).trans r_0_9) ?_
                                      refine X_iload rfl rfl rfl ?_
                                      refine X_iload rfl rfl rfl ?_
                                      refine X_bipush (v := (97 : Int32)) rfl rfl rfl ?_
                                      refine X_isub (v := (b5 - (97 : Int32))) rfl rfl rfl ?_
                                      refine X_iast (k0 := 5) rfl rfl ((congrFun F.1 354).trans s_354) (vp_in_d rfl) rfl ?_
                                      refine X_iinc (v := (6 : Int32)) (ls' := [some (.ref 0), some (.int a), some (.int c), some (.int s), some (.int (6 : Int32)), some (.int (0 : Int32)), some (.int (5 : Int32)), some (.int b5)]) rfl rfl rfl rfl rfl ?_
                                      refine X_iinc (v := (6 : Int32)) (ls' := [some (.ref 0), some (.int a), some (.int c), some (.int s), some (.int (6 : Int32)), some (.int (0 : Int32)), some (.int (6 : Int32)), some (.int b5)]) rfl rfl rfl rfl rfl ?_
                                      refine LW_goto (tgt := 9) rfl rfl ?_
                                      refine X_iload rfl rfl rfl ?_
                                      refine X_bipush (v := (8 : Int32)) rfl rfl rfl ?_
                                      refine X_icmp_ge (tgt := 94) rfl rfl rfl (fun q => absurd q (by decide)) (fun _ => ?_)
                                      refine X_iload rfl rfl rfl ?_
                                      refine X_iconst (v := (4 : Int32)) rfl rfl rfl ?_
                                      refine X_icmp_ge (tgt := 26) rfl rfl rfl (fun _ => ?_) (fun q => absurd q (by decide))
                                      refine X_iload_n rfl rfl rfl rfl ?_
                                      refine X_bipush (v := (8 : Int32)) rfl rfl rfl ?_
                                      refine X_iload rfl rfl rfl ?_
                                      refine X_iconst (v := (4 : Int32)) rfl rfl rfl ?_
                                      refine X_irem (v := (2 : Int32)) rfl rfl (by decide) rfl ?_
                                      refine X_imul (v := (16 : Int32)) rfl rfl rfl ?_
                                      refine X_iushr (v := ((c).toUInt32 >>> (((16 : Int32)).toUInt32 &&& Int32.toUInt32 31)).toInt32) rfl rfl rfl ?_
                                      refine X_sipush (v := (255 : Int32)) rfl rfl rfl ?_
                                      refine X_iand (v := b6) rfl rfl hb6 ?_
                                      refine X_istore (i := 7) (ls' := [some (.ref 0), some (.int a), some (.int c), some (.int s), some (.int (6 : Int32)), some (.int (0 : Int32)), some (.int (6 : Int32)), some (.int b6)]) rfl rfl (Nat.le_of_ble_eq_true rfl) rfl ?_
                                      refine X_iload rfl rfl rfl ?_
                                      refine X_if_ne (tgt := 52) rfl rfl rfl (fun h19 => ?_) (fun h19 => ?_)
                                      · refine X_iload rfl rfl rfl ?_
                                        refine X_if_ne (tgt := 71) rfl rfl rfl (fun q => absurd q (by decide)) (fun _ => ?_)
                                        refine X_iload rfl rfl rfl ?_
                                        refine X_bipush (v := (97 : Int32)) rfl rfl rfl ?_
                                        refine X_icmp_lt (tgt := 71) rfl rfl rfl (fun h20 => ?_) (fun h20 => ?_)
                                        · refine X_iconst (v := (-1 : Int32)) rfl rfl rfl ?_
                                          refine LW_ireturn (st := []) rfl rfl rfl ⟨congrArg (fun z => some (Value.int z)) ?_, (Fr_putI (Fr_putI (Fr_putI (Fr_putI (Fr_putI (Fr_putI E (by decide)) (by decide)) (by decide)) (by decide)) (by decide)) (by decide))⟩
                                          simp only [Int32.lt_iff_toInt_lt, Int32.le_iff_toInt_le, ← Int32.toInt_inj, (show (0 : Int32).toInt = 0 from rfl), (show (97 : Int32).toInt = 97 from rfl), (show (122 : Int32).toInt = 122 from rfl)] at h1 h2 h3 h4 h5 h6 h7 h8 h9 h10 h11 h12 h13 h14 h15 h16 h17 h18 h19 h20
                                          unfold f_wordB
                                          rw [if_neg (by omega)]
                                        · refine X_iload rfl rfl rfl ?_
                                          refine X_bipush (v := (122 : Int32)) rfl rfl rfl ?_
                                          refine X_icmp_le (tgt := 73) rfl rfl rfl (fun h21 => ?_) (fun h21 => ?_)
                                          · refine X_aload_n rfl rfl rfl rfl ?_
                                            refine X_getR (a := 354) rfl rfl rfl ((congrFun F.1 0).trans s_0) rfl ((congrFun (F.2.1 0 (by decide)) 9).trans r_0_9) ?_
                                            refine X_iload rfl rfl rfl ?_
                                            refine X_iload rfl rfl rfl ?_
                                            refine X_bipush (v := (97 : Int32)) rfl rfl rfl ?_
                                            refine X_isub (v := (b6 - (97 : Int32))) rfl rfl rfl ?_
                                            refine X_iast (k0 := 6) rfl rfl ((congrFun F.1 354).trans s_354) (vp_in_d rfl) rfl ?_
                                            refine X_iinc (v := (7 : Int32)) (ls' := [some (.ref 0), some (.int a), some (.int c), some (.int s), some (.int (7 : Int32)), some (.int (0 : Int32)), some (.int (6 : Int32)), some (.int b6)]) rfl rfl rfl rfl rfl ?_
                                            refine X_iinc (v := (7 : Int32)) (ls' := [some (.ref 0), some (.int a), some (.int c), some (.int s), some (.int (7 : Int32)), some (.int (0 : Int32)), some (.int (7 : Int32)), some (.int b6)]) rfl rfl rfl rfl rfl ?_
                                            refine LW_goto (tgt := 9) rfl rfl ?_
                                            refine X_iload rfl rfl rfl ?_
                                            refine X_bipush (v := (8 : Int32)) rfl rfl rfl ?_
                                            refine X_icmp_ge (tgt := 94) rfl rfl rfl (fun q => absurd q (by decide)) (fun _ => ?_)
                                            refine X_iload rfl rfl rfl ?_
                                            refine X_iconst (v := (4 : Int32)) rfl rfl rfl ?_
                                            refine X_icmp_ge (tgt := 26) rfl rfl rfl (fun _ => ?_) (fun q => absurd q (by decide))
                                            refine X_iload_n rfl rfl rfl rfl ?_
                                            refine X_bipush (v := (8 : Int32)) rfl rfl rfl ?_
                                            refine X_iload rfl rfl rfl ?_
                                            refine X_iconst (v := (4 : Int32)) rfl rfl rfl ?_
                                            refine X_irem (v := (3 : Int32)) rfl rfl (by decide) rfl ?_
                                            refine X_imul (v := (24 : Int32)) rfl rfl rfl ?_
                                            refine X_iushr (v := ((c).toUInt32 >>> (((24 : Int32)).toUInt32 &&& Int32.toUInt32 31)).toInt32) rfl rfl rfl ?_
                                            refine X_sipush (v := (255 : Int32)) rfl rfl rfl ?_
                                            refine X_iand (v := b7) rfl rfl hb7 ?_
                                            refine X_istore (i := 7) (ls' := [some (.ref 0), some (.int a), some (.int c), some (.int s), some (.int (7 : Int32)), some (.int (0 : Int32)), some (.int (7 : Int32)), some (.int b7)]) rfl rfl (Nat.le_of_ble_eq_true rfl) rfl ?_
                                            refine X_iload rfl rfl rfl ?_
                                            refine X_if_ne (tgt := 52) rfl rfl rfl (fun h22 => ?_) (fun h22 => ?_)
                                            · refine X_iload rfl rfl rfl ?_
                                              refine X_if_ne (tgt := 71) rfl rfl rfl (fun q => absurd q (by decide)) (fun _ => ?_)
                                              refine X_iload rfl rfl rfl ?_
                                              refine X_bipush (v := (97 : Int32)) rfl rfl rfl ?_
                                              refine X_icmp_lt (tgt := 71) rfl rfl rfl (fun h23 => ?_) (fun h23 => ?_)
                                              · refine X_iconst (v := (-1 : Int32)) rfl rfl rfl ?_
                                                refine LW_ireturn (st := []) rfl rfl rfl ⟨congrArg (fun z => some (Value.int z)) ?_, (Fr_putI (Fr_putI (Fr_putI (Fr_putI (Fr_putI (Fr_putI (Fr_putI E (by decide)) (by decide)) (by decide)) (by decide)) (by decide)) (by decide)) (by decide))⟩
                                                simp only [Int32.lt_iff_toInt_lt, Int32.le_iff_toInt_le, ← Int32.toInt_inj, (show (0 : Int32).toInt = 0 from rfl), (show (97 : Int32).toInt = 97 from rfl), (show (122 : Int32).toInt = 122 from rfl)] at h1 h2 h3 h4 h5 h6 h7 h8 h9 h10 h11 h12 h13 h14 h15 h16 h17 h18 h19 h20 h21 h22 h23
                                                unfold f_wordB
                                                rw [if_neg (by omega)]
                                              · refine X_iload rfl rfl rfl ?_
                                                refine X_bipush (v := (122 : Int32)) rfl rfl rfl ?_
                                                refine X_icmp_le (tgt := 73) rfl rfl rfl (fun h24 => ?_) (fun h24 => ?_)
                                                · refine X_aload_n rfl rfl rfl rfl ?_
                                                  refine X_getR (a := 354) rfl rfl rfl ((congrFun F.1 0).trans s_0) rfl ((congrFun (F.2.1 0 (by decide)) 9).trans r_0_9) ?_
                                                  refine X_iload rfl rfl rfl ?_
                                                  refine X_iload rfl rfl rfl ?_
                                                  refine X_bipush (v := (97 : Int32)) rfl rfl rfl ?_
                                                  refine X_isub (v := (b7 - (97 : Int32))) rfl rfl rfl ?_
                                                  refine X_iast (k0 := 7) rfl rfl ((congrFun F.1 354).trans s_354) (vp_in_d rfl) rfl ?_
                                                  refine X_iinc (v := (8 : Int32)) (ls' := [some (.ref 0), some (.int a), some (.int c), some (.int s), some (.int (8 : Int32)), some (.int (0 : Int32)), some (.int (7 : Int32)), some (.int b7)]) rfl rfl rfl rfl rfl ?_
                                                  refine X_iinc (v := (8 : Int32)) (ls' := [some (.ref 0), some (.int a), some (.int c), some (.int s), some (.int (8 : Int32)), some (.int (0 : Int32)), some (.int (8 : Int32)), some (.int b7)]) rfl rfl rfl rfl rfl ?_
                                                  refine LW_goto (tgt := 9) rfl rfl ?_
                                                  refine X_iload rfl rfl rfl ?_
                                                  refine X_bipush (v := (8 : Int32)) rfl rfl rfl ?_
                                                  refine X_icmp_ge (tgt := 94) rfl rfl rfl (fun _ => ?_) (fun q => absurd q (by decide))
                                                  refine X_aload_n rfl rfl rfl rfl ?_
                                                  refine X_getR (a := 1) rfl rfl rfl ((congrFun F.1 0).trans s_0) rfl ((congrFun (F.2.1 0 (by decide)) 0).trans r_0_0) ?_
                                                  refine X_getR (a := 2) rfl rfl rfl ((congrFun F.1 1).trans s_1) rfl ((congrFun (F.2.1 1 (by decide)) 0).trans r_1_0) ?_
                                                  refine X_aload_n rfl rfl rfl rfl ?_
                                                  refine X_getR (a := 354) rfl rfl rfl ((congrFun F.1 0).trans s_0) rfl ((congrFun (F.2.1 0 (by decide)) 9).trans r_0_9) ?_
                                                  refine X_iconst (v := (0 : Int32)) rfl rfl rfl ?_
                                                  refine X_iload rfl rfl rfl ?_
                                                  refine X_iload_n rfl rfl rfl rfl ?_
                                                  refine X_callV (as := [.ref 354, .int (0 : Int32), .int (8 : Int32), .int s]) (st := []) rfl rfl rfl (by decide) rfl (Nat.le_of_ble_eq_true rfl) (by decide) (Nat.le_of_ble_eq_true rfl) rfl ((congrFun F.1 2).trans s_2) (by decide) ?_
                                                  refine LW_ls (ls' := [some (.ref 2), some (.ref 354), some (.int (0 : Int32)), some (.int (8 : Int32)), some (.int s), none, none]) rfl ?_
                                                  refine X_iload_n rfl rfl rfl rfl ?_
                                                  refine X_iconst (v := (1 : Int32)) rfl rfl rfl ?_
                                                  refine X_icmp_lt (tgt := 23) rfl rfl rfl (fun q => absurd q (by decide)) (fun _ => ?_)
                                                  refine X_iload_n rfl rfl rfl rfl ?_
                                                  refine X_bipush (v := (8 : Int32)) rfl rfl rfl ?_
                                                  refine X_icmp_gt (tgt := 23) rfl rfl rfl (fun q => absurd q (by decide)) (fun _ => ?_)
                                                  refine X_iload_n rfl rfl rfl rfl ?_
                                                  refine X_if_lt (tgt := 23) rfl rfl rfl (fun q => absurd q (by decide)) (fun _ => ?_)
                                                  refine X_iload_n rfl rfl rfl rfl ?_
                                                  refine X_iload_n rfl rfl rfl rfl ?_
                                                  refine X_iadd (v := (8 : Int32)) rfl rfl rfl ?_
                                                  refine X_aload_n rfl rfl rfl rfl ?_
                                                  refine X_alen (t0 := 0) (v := (8 : Int32)) rfl rfl ((congrFun F.1 354).trans s_354) rfl rfl ?_
                                                  refine X_icmp_le (tgt := 25) rfl rfl rfl (fun _ => ?_) (fun q => absurd q (by decide))
                                                  refine X_iload rfl rfl rfl ?_
                                                  refine X_if_lt (tgt := 46) rfl rfl rfl (fun h25 => ?_) (fun h25 => ?_)
                                                  · refine X_iconst (v := (-1 : Int32)) rfl rfl rfl ?_
                                                    refine LW_ireturn (st := []) rfl rfl rfl ?_
                                                    refine LW_ireturn (st := []) rfl rfl rfl ⟨congrArg (fun z => some (Value.int z)) ?_, (Fr_putI (Fr_putI (Fr_putI (Fr_putI (Fr_putI (Fr_putI (Fr_putI (Fr_putI E (by decide)) (by decide)) (by decide)) (by decide)) (by decide)) (by decide)) (by decide)) (by decide))⟩
                                                    simp only [Int32.lt_iff_toInt_lt, Int32.le_iff_toInt_le, ← Int32.toInt_inj, (show (0 : Int32).toInt = 0 from rfl), (show (97 : Int32).toInt = 97 from rfl), (show (122 : Int32).toInt = 122 from rfl)] at h1 h2 h3 h4 h5 h6 h7 h8 h9 h10 h11 h12 h13 h14 h15 h16 h17 h18 h19 h20 h21 h22 h23 h24 h25
                                                    unfold f_wordB
                                                    rw [if_neg (by omega)]
                                                  · refine X_iload rfl rfl rfl ?_
                                                    refine X_bipush (v := (9 : Int32)) rfl rfl rfl ?_
                                                    refine X_icmp_gt (tgt := 46) rfl rfl rfl (fun h26 => ?_) (fun h26 => ?_)
                                                    · refine X_iconst (v := (-1 : Int32)) rfl rfl rfl ?_
                                                      refine LW_ireturn (st := []) rfl rfl rfl ?_
                                                      refine LW_ireturn (st := []) rfl rfl rfl ⟨congrArg (fun z => some (Value.int z)) ?_, (Fr_putI (Fr_putI (Fr_putI (Fr_putI (Fr_putI (Fr_putI (Fr_putI (Fr_putI E (by decide)) (by decide)) (by decide)) (by decide)) (by decide)) (by decide)) (by decide)) (by decide))⟩
                                                      simp only [Int32.lt_iff_toInt_lt, Int32.le_iff_toInt_le, ← Int32.toInt_inj, (show (0 : Int32).toInt = 0 from rfl), (show (9 : Int32).toInt = 9 from rfl), (show (97 : Int32).toInt = 97 from rfl), (show (122 : Int32).toInt = 122 from rfl)] at h1 h2 h3 h4 h5 h6 h7 h8 h9 h10 h11 h12 h13 h14 h15 h16 h17 h18 h19 h20 h21 h22 h23 h24 h25 h26
                                                      unfold f_wordB
                                                      rw [if_neg (by omega)]
                                                    · refine X_aload_n rfl rfl rfl rfl ?_
                                                      refine X_getI (v := (0 : Int32)) rfl rfl rfl ((congrFun F.1 2).trans s_2) rfl ((congrFun (F.2.2 2 (by decide)).1 0).trans i_2_0) ?_
                                                      refine X_bipush (v := (24 : Int32)) rfl rfl rfl ?_
                                                      refine X_icmp_lt (tgt := 48) rfl rfl rfl (fun _ => ?_) (fun q => absurd q (by decide))
                                                      refine X_aload_n rfl rfl rfl rfl ?_
                                                      refine X_aload_n rfl rfl rfl rfl ?_
                                                      refine X_iload_n rfl rfl rfl rfl ?_
                                                      refine X_iload_n rfl rfl rfl rfl ?_
                                                      refine X_callV (as := [.ref 354, .int (0 : Int32), .int (8 : Int32)]) (st := []) rfl rfl rfl (by decide) rfl (Nat.le_of_ble_eq_true rfl) (by decide) (Nat.le_of_ble_eq_true rfl) rfl ((congrFun F.1 2).trans s_2) (by decide) ?_
                                                      refine LW_ls (ls' := [some (.ref 2), some (.ref 354), some (.int (0 : Int32)), some (.int (8 : Int32)), none, none, none]) rfl ?_
                                                      refine X_iconst (v := (0 : Int32)) rfl rfl rfl ?_
                                                      refine X_istore (i := 4) (ls' := [some (.ref 2), some (.ref 354), some (.int (0 : Int32)), some (.int (8 : Int32)), some (.int (0 : Int32)), none, none]) rfl rfl (Nat.le_of_ble_eq_true rfl) rfl ?_
                                                      refine X_iload rfl rfl rfl ?_
                                                      refine X_aload_n rfl rfl rfl rfl ?_
                                                      refine X_getI (v := (0 : Int32)) rfl rfl rfl ((congrFun F.1 2).trans s_2) rfl ((congrFun (F.2.2 2 (by decide)).1 0).trans i_2_0) ?_
                                                      refine X_icmp_ge (tgt := 91) rfl rfl rfl (fun _ => ?_) (fun q => absurd q (by decide))
                                                      refine X_iconst (v := (0 : Int32)) rfl rfl rfl ?_
                                                      refine LW_ireturn (st := []) rfl rfl rfl ?_
                                                      refine X_if_eq (tgt := 60) rfl rfl rfl (fun _ => ?_) (fun q => absurd q (by decide))
                                                      refine X_iconst (v := (0 : Int32)) rfl rfl rfl ?_
                                                      refine X_istore (i := 5) (ls' := [some (.ref 2), some (.ref 354), some (.int (0 : Int32)), some (.int (8 : Int32)), some (.int s), some (.int (0 : Int32)), none]) rfl rfl (Nat.le_of_ble_eq_true rfl) rfl ?_
                                                      refine X_iconst (v := (0 : Int32)) rfl rfl rfl ?_
                                                      refine X_istore (i := 6) (ls' := [some (.ref 2), some (.ref 354), some (.int (0 : Int32)), some (.int (8 : Int32)), some (.int s), some (.int (0 : Int32)), some (.int (0 : Int32))]) rfl rfl (Nat.le_of_ble_eq_true rfl) rfl ?_
                                                      refine X_iload rfl rfl rfl ?_
                                                      refine X_iload_n rfl rfl rfl rfl ?_
                                                      refine X_icmp_ge (tgt := 112) rfl rfl rfl (fun q => absurd q (by decide)) (fun _ => ?_)
                                                      refine X_aload_n rfl rfl rfl rfl ?_
                                                      refine X_getR (a := 6) rfl rfl rfl ((congrFun F.1 2).trans s_2) rfl ((congrFun (F.2.1 2 (by decide)) 5).trans r_2_5) ?_
                                                      refine X_aload_n rfl rfl rfl rfl ?_
                                                      refine X_getI (v := (0 : Int32)) rfl rfl rfl ((congrFun F.1 2).trans s_2) rfl ((congrFun (F.2.2 2 (by decide)).1 0).trans i_2_0) ?_
                                                      refine X_bipush (v := (8 : Int32)) rfl rfl rfl ?_
                                                      refine X_imul (v := (0 : Int32)) rfl rfl rfl ?_
                                                      refine X_iload rfl rfl rfl ?_
                                                      refine X_iadd (v := (0 : Int32)) rfl rfl rfl ?_
                                                      refine X_aload_n rfl rfl rfl rfl ?_
                                                      refine X_iload_n rfl rfl rfl rfl ?_
                                                      refine X_iload rfl rfl rfl ?_
                                                      refine X_iadd (v := (0 : Int32)) rfl rfl rfl ?_
                                                      refine X_iald (v := (b0 - (97 : Int32))) rfl rfl ((congrFun F.1 354).trans s_354) (vp_in_d rfl) rfl ?_
                                                      refine X_iast (k0 := 0) rfl rfl ((congrFun F.1 6).trans s_6) (vp_in_d rfl) rfl ?_
                                                      refine X_iload rfl rfl rfl ?_
                                                      refine X_iconst (v := (1 : Int32)) rfl rfl rfl ?_
                                                      refine X_aload_n rfl rfl rfl rfl ?_
                                                      refine X_iload_n rfl rfl rfl rfl ?_
                                                      refine X_iload rfl rfl rfl ?_
                                                      refine X_iadd (v := (0 : Int32)) rfl rfl rfl ?_
                                                      refine X_iald (v := (b0 - (97 : Int32))) rfl rfl ((congrFun F.1 354).trans s_354) (vp_in_d rfl) rfl ?_
                                                      refine X_ishl (v := ((1 : Int32) <<< ((b0 - (97 : Int32)) &&& 31))) rfl rfl rfl ?_
                                                      refine X_ior (v := ((0 : Int32) ||| ((1 : Int32) <<< ((b0 - (97 : Int32)) &&& 31)))) rfl rfl rfl ?_
                                                      refine X_istore (i := 5) (ls' := [some (.ref 2), some (.ref 354), some (.int (0 : Int32)), some (.int (8 : Int32)), some (.int s), some (.int ((0 : Int32) ||| ((1 : Int32) <<< ((b0 - (97 : Int32)) &&& 31)))), some (.int (0 : Int32))]) rfl rfl (Nat.le_of_ble_eq_true rfl) rfl ?_
                                                      refine X_iinc (v := (1 : Int32)) (ls' := [some (.ref 2), some (.ref 354), some (.int (0 : Int32)), some (.int (8 : Int32)), some (.int s), some (.int ((0 : Int32) ||| ((1 : Int32) <<< ((b0 - (97 : Int32)) &&& 31)))), some (.int (1 : Int32))]) rfl rfl rfl rfl rfl ?_
                                                      refine LW_goto (tgt := 66) rfl rfl ?_
                                                      refine X_iload rfl rfl rfl ?_
                                                      refine X_iload_n rfl rfl rfl rfl ?_
                                                      refine X_icmp_ge (tgt := 112) rfl rfl rfl (fun q => absurd q (by decide)) (fun _ => ?_)
                                                      refine X_aload_n rfl rfl rfl rfl ?_
                                                      refine X_getR (a := 6) rfl rfl rfl ((congrFun F.1 2).trans s_2) rfl ((congrFun (F.2.1 2 (by decide)) 5).trans r_2_5) ?_
                                                      refine X_aload_n rfl rfl rfl rfl ?_
                                                      refine X_getI (v := (0 : Int32)) rfl rfl rfl ((congrFun F.1 2).trans s_2) rfl ((congrFun (F.2.2 2 (by decide)).1 0).trans i_2_0) ?_
                                                      refine X_bipush (v := (8 : Int32)) rfl rfl rfl ?_
                                                      refine X_imul (v := (0 : Int32)) rfl rfl rfl ?_
                                                      refine X_iload rfl rfl rfl ?_
                                                      refine X_iadd (v := (1 : Int32)) rfl rfl rfl ?_
                                                      refine X_aload_n rfl rfl rfl rfl ?_
                                                      refine X_iload_n rfl rfl rfl rfl ?_
                                                      refine X_iload rfl rfl rfl ?_
                                                      refine X_iadd (v := (1 : Int32)) rfl rfl rfl ?_
                                                      refine X_iald (v := (b1 - (97 : Int32))) rfl rfl ((congrFun F.1 354).trans s_354) (vp_in_d rfl) rfl ?_
                                                      refine X_iast (k0 := 1) rfl rfl ((congrFun F.1 6).trans s_6) (vp_in_d rfl) rfl ?_
                                                      refine X_iload rfl rfl rfl ?_
                                                      refine X_iconst (v := (1 : Int32)) rfl rfl rfl ?_
                                                      refine X_aload_n rfl rfl rfl rfl ?_
                                                      refine X_iload_n rfl rfl rfl rfl ?_
                                                      refine X_iload rfl rfl rfl ?_
                                                      refine X_iadd (v := (1 : Int32)) rfl rfl rfl ?_
                                                      refine X_iald (v := (b1 - (97 : Int32))) rfl rfl ((congrFun F.1 354).trans s_354) (vp_in_d rfl) rfl ?_
                                                      refine X_ishl (v := ((1 : Int32) <<< ((b1 - (97 : Int32)) &&& 31))) rfl rfl rfl ?_
                                                      refine X_ior (v := (((0 : Int32) ||| ((1 : Int32) <<< ((b0 - (97 : Int32)) &&& 31))) ||| ((1 : Int32) <<< ((b1 - (97 : Int32)) &&& 31)))) rfl rfl rfl ?_
                                                      refine X_istore (i := 5) (ls' := [some (.ref 2), some (.ref 354), some (.int (0 : Int32)), some (.int (8 : Int32)), some (.int s), some (.int (((0 : Int32) ||| ((1 : Int32) <<< ((b0 - (97 : Int32)) &&& 31))) ||| ((1 : Int32) <<< ((b1 - (97 : Int32)) &&& 31)))), some (.int (1 : Int32))]) rfl rfl (Nat.le_of_ble_eq_true rfl) rfl ?_
                                                      refine X_iinc (v := (2 : Int32)) (ls' := [some (.ref 2), some (.ref 354), some (.int (0 : Int32)), some (.int (8 : Int32)), some (.int s), some (.int (((0 : Int32) ||| ((1 : Int32) <<< ((b0 - (97 : Int32)) &&& 31))) ||| ((1 : Int32) <<< ((b1 - (97 : Int32)) &&& 31)))), some (.int (2 : Int32))]) rfl rfl rfl rfl rfl ?_
                                                      refine LW_goto (tgt := 66) rfl rfl ?_
                                                      refine X_iload rfl rfl rfl ?_
                                                      refine X_iload_n rfl rfl rfl rfl ?_
                                                      refine X_icmp_ge (tgt := 112) rfl rfl rfl (fun q => absurd q (by decide)) (fun _ => ?_)
                                                      refine X_aload_n rfl rfl rfl rfl ?_
                                                      refine X_getR (a := 6) rfl rfl rfl ((congrFun F.1 2).trans s_2) rfl ((congrFun (F.2.1 2 (by decide)) 5).trans r_2_5) ?_
                                                      refine X_aload_n rfl rfl rfl rfl ?_
                                                      refine X_getI (v := (0 : Int32)) rfl rfl rfl ((congrFun F.1 2).trans s_2) rfl ((congrFun (F.2.2 2 (by decide)).1 0).trans i_2_0) ?_
                                                      refine X_bipush (v := (8 : Int32)) rfl rfl rfl ?_
                                                      refine X_imul (v := (0 : Int32)) rfl rfl rfl ?_
                                                      refine X_iload rfl rfl rfl ?_
                                                      refine X_iadd (v := (2 : Int32)) rfl rfl rfl ?_
                                                      refine X_aload_n rfl rfl rfl rfl ?_
                                                      refine X_iload_n rfl rfl rfl rfl ?_
                                                      refine X_iload rfl rfl rfl ?_
                                                      refine X_iadd (v := (2 : Int32)) rfl rfl rfl ?_
                                                      refine X_iald (v := (b2 - (97 : Int32))) rfl rfl ((congrFun F.1 354).trans s_354) (vp_in_d rfl) rfl ?_
                                                      refine X_iast (k0 := 2) rfl rfl ((congrFun F.1 6).trans s_6) (vp_in_d rfl) rfl ?_
                                                      refine X_iload rfl rfl rfl ?_
                                                      refine X_iconst (v := (1 : Int32)) rfl rfl rfl ?_
                                                      refine X_aload_n rfl rfl rfl rfl ?_
                                                      refine X_iload_n rfl rfl rfl rfl ?_
                                                      refine X_iload rfl rfl rfl ?_
                                                      refine X_iadd (v := (2 : Int32)) rfl rfl rfl ?_
                                                      refine X_iald (v := (b2 - (97 : Int32))) rfl rfl ((congrFun F.1 354).trans s_354) (vp_in_d rfl) rfl ?_
                                                      refine X_ishl (v := ((1 : Int32) <<< ((b2 - (97 : Int32)) &&& 31))) rfl rfl rfl ?_
                                                      refine X_ior (v := ((((0 : Int32) ||| ((1 : Int32) <<< ((b0 - (97 : Int32)) &&& 31))) ||| ((1 : Int32) <<< ((b1 - (97 : Int32)) &&& 31))) ||| ((1 : Int32) <<< ((b2 - (97 : Int32)) &&& 31)))) rfl rfl rfl ?_
                                                      refine X_istore (i := 5) (ls' := [some (.ref 2), some (.ref 354), some (.int (0 : Int32)), some (.int (8 : Int32)), some (.int s), some (.int ((((0 : Int32) ||| ((1 : Int32) <<< ((b0 - (97 : Int32)) &&& 31))) ||| ((1 : Int32) <<< ((b1 - (97 : Int32)) &&& 31))) ||| ((1 : Int32) <<< ((b2 - (97 : Int32)) &&& 31)))), some (.int (2 : Int32))]) rfl rfl (Nat.le_of_ble_eq_true rfl) rfl ?_
                                                      refine X_iinc (v := (3 : Int32)) (ls' := [some (.ref 2), some (.ref 354), some (.int (0 : Int32)), some (.int (8 : Int32)), some (.int s), some (.int ((((0 : Int32) ||| ((1 : Int32) <<< ((b0 - (97 : Int32)) &&& 31))) ||| ((1 : Int32) <<< ((b1 - (97 : Int32)) &&& 31))) ||| ((1 : Int32) <<< ((b2 - (97 : Int32)) &&& 31)))), some (.int (3 : Int32))]) rfl rfl rfl rfl rfl ?_
                                                      refine LW_goto (tgt := 66) rfl rfl ?_
                                                      refine X_iload rfl rfl rfl ?_
                                                      refine X_iload_n rfl rfl rfl rfl ?_
                                                      refine X_icmp_ge (tgt := 112) rfl rfl rfl (fun q => absurd q (by decide)) (fun _ => ?_)
                                                      refine X_aload_n rfl rfl rfl rfl ?_
                                                      refine X_getR (a := 6) rfl rfl rfl ((congrFun F.1 2).trans s_2) rfl ((congrFun (F.2.1 2 (by decide)) 5).trans r_2_5) ?_
                                                      refine X_aload_n rfl rfl rfl rfl ?_
                                                      refine X_getI (v := (0 : Int32)) rfl rfl rfl ((congrFun F.1 2).trans s_2) rfl ((congrFun (F.2.2 2 (by decide)).1 0).trans i_2_0) ?_
                                                      refine X_bipush (v := (8 : Int32)) rfl rfl rfl ?_
                                                      refine X_imul (v := (0 : Int32)) rfl rfl rfl ?_
                                                      refine X_iload rfl rfl rfl ?_
                                                      refine X_iadd (v := (3 : Int32)) rfl rfl rfl ?_
                                                      refine X_aload_n rfl rfl rfl rfl ?_
                                                      refine X_iload_n rfl rfl rfl rfl ?_
                                                      refine X_iload rfl rfl rfl ?_
                                                      refine X_iadd (v := (3 : Int32)) rfl rfl rfl ?_
                                                      refine X_iald (v := (b3 - (97 : Int32))) rfl rfl ((congrFun F.1 354).trans s_354) (vp_in_d rfl) rfl ?_
                                                      refine X_iast (k0 := 3) rfl rfl ((congrFun F.1 6).trans s_6) (vp_in_d rfl) rfl ?_
                                                      refine X_iload rfl rfl rfl ?_
                                                      refine X_iconst (v := (1 : Int32)) rfl rfl rfl ?_
                                                      refine X_aload_n rfl rfl rfl rfl ?_
                                                      refine X_iload_n rfl rfl rfl rfl ?_
                                                      refine X_iload rfl rfl rfl ?_
                                                      refine X_iadd (v := (3 : Int32)) rfl rfl rfl ?_
                                                      refine X_iald (v := (b3 - (97 : Int32))) rfl rfl ((congrFun F.1 354).trans s_354) (vp_in_d rfl) rfl ?_
                                                      refine X_ishl (v := ((1 : Int32) <<< ((b3 - (97 : Int32)) &&& 31))) rfl rfl rfl ?_
                                                      refine X_ior (v := (((((0 : Int32) ||| ((1 : Int32) <<< ((b0 - (97 : Int32)) &&& 31))) ||| ((1 : Int32) <<< ((b1 - (97 : Int32)) &&& 31))) ||| ((1 : Int32) <<< ((b2 - (97 : Int32)) &&& 31))) ||| ((1 : Int32) <<< ((b3 - (97 : Int32)) &&& 31)))) rfl rfl rfl ?_
                                                      refine X_istore (i := 5) (ls' := [some (.ref 2), some (.ref 354), some (.int (0 : Int32)), some (.int (8 : Int32)), some (.int s), some (.int (((((0 : Int32) ||| ((1 : Int32) <<< ((b0 - (97 : Int32)) &&& 31))) ||| ((1 : Int32) <<< ((b1 - (97 : Int32)) &&& 31))) ||| ((1 : Int32) <<< ((b2 - (97 : Int32)) &&& 31))) ||| ((1 : Int32) <<< ((b3 - (97 : Int32)) &&& 31)))), some (.int (3 : Int32))]) rfl rfl (Nat.le_of_ble_eq_true rfl) rfl ?_
                                                      refine X_iinc (v := (4 : Int32)) (ls' := [some (.ref 2), some (.ref 354), some (.int (0 : Int32)), some (.int (8 : Int32)), some (.int s), some (.int (((((0 : Int32) ||| ((1 : Int32) <<< ((b0 - (97 : Int32)) &&& 31))) ||| ((1 : Int32) <<< ((b1 - (97 : Int32)) &&& 31))) ||| ((1 : Int32) <<< ((b2 - (97 : Int32)) &&& 31))) ||| ((1 : Int32) <<< ((b3 - (97 : Int32)) &&& 31)))), some (.int (4 : Int32))]) rfl rfl rfl rfl rfl ?_
                                                      refine LW_goto (tgt := 66) rfl rfl ?_
                                                      refine X_iload rfl rfl rfl ?_
                                                      refine X_iload_n rfl rfl rfl rfl ?_
                                                      refine X_icmp_ge (tgt := 112) rfl rfl rfl (fun q => absurd q (by decide)) (fun _ => ?_)
                                                      refine X_aload_n rfl rfl rfl rfl ?_
                                                      refine X_getR (a := 6) rfl rfl rfl ((congrFun F.1 2).trans s_2) rfl ((congrFun (F.2.1 2 (by decide)) 5).trans r_2_5) ?_
                                                      refine X_aload_n rfl rfl rfl rfl ?_
                                                      refine X_getI (v := (0 : Int32)) rfl rfl rfl ((congrFun F.1 2).trans s_2) rfl ((congrFun (F.2.2 2 (by decide)).1 0).trans i_2_0) ?_
                                                      refine X_bipush (v := (8 : Int32)) rfl rfl rfl ?_
                                                      refine X_imul (v := (0 : Int32)) rfl rfl rfl ?_
                                                      refine X_iload rfl rfl rfl ?_
                                                      refine X_iadd (v := (4 : Int32)) rfl rfl rfl ?_
                                                      refine X_aload_n rfl rfl rfl rfl ?_
                                                      refine X_iload_n rfl rfl rfl rfl ?_
                                                      refine X_iload rfl rfl rfl ?_
                                                      refine X_iadd (v := (4 : Int32)) rfl rfl rfl ?_
                                                      refine X_iald (v := (b4 - (97 : Int32))) rfl rfl ((congrFun F.1 354).trans s_354) (vp_in_d rfl) rfl ?_
                                                      refine X_iast (k0 := 4) rfl rfl ((congrFun F.1 6).trans s_6) (vp_in_d rfl) rfl ?_
                                                      refine X_iload rfl rfl rfl ?_
                                                      refine X_iconst (v := (1 : Int32)) rfl rfl rfl ?_
                                                      refine X_aload_n rfl rfl rfl rfl ?_
                                                      refine X_iload_n rfl rfl rfl rfl ?_
                                                      refine X_iload rfl rfl rfl ?_
                                                      refine X_iadd (v := (4 : Int32)) rfl rfl rfl ?_
                                                      refine X_iald (v := (b4 - (97 : Int32))) rfl rfl ((congrFun F.1 354).trans s_354) (vp_in_d rfl) rfl ?_
                                                      refine X_ishl (v := ((1 : Int32) <<< ((b4 - (97 : Int32)) &&& 31))) rfl rfl rfl ?_
                                                      refine X_ior (v := ((((((0 : Int32) ||| ((1 : Int32) <<< ((b0 - (97 : Int32)) &&& 31))) ||| ((1 : Int32) <<< ((b1 - (97 : Int32)) &&& 31))) ||| ((1 : Int32) <<< ((b2 - (97 : Int32)) &&& 31))) ||| ((1 : Int32) <<< ((b3 - (97 : Int32)) &&& 31))) ||| ((1 : Int32) <<< ((b4 - (97 : Int32)) &&& 31)))) rfl rfl rfl ?_
                                                      refine X_istore (i := 5) (ls' := [some (.ref 2), some (.ref 354), some (.int (0 : Int32)), some (.int (8 : Int32)), some (.int s), some (.int ((((((0 : Int32) ||| ((1 : Int32) <<< ((b0 - (97 : Int32)) &&& 31))) ||| ((1 : Int32) <<< ((b1 - (97 : Int32)) &&& 31))) ||| ((1 : Int32) <<< ((b2 - (97 : Int32)) &&& 31))) ||| ((1 : Int32) <<< ((b3 - (97 : Int32)) &&& 31))) ||| ((1 : Int32) <<< ((b4 - (97 : Int32)) &&& 31)))), some (.int (4 : Int32))]) rfl rfl (Nat.le_of_ble_eq_true rfl) rfl ?_
                                                      refine X_iinc (v := (5 : Int32)) (ls' := [some (.ref 2), some (.ref 354), some (.int (0 : Int32)), some (.int (8 : Int32)), some (.int s), some (.int ((((((0 : Int32) ||| ((1 : Int32) <<< ((b0 - (97 : Int32)) &&& 31))) ||| ((1 : Int32) <<< ((b1 - (97 : Int32)) &&& 31))) ||| ((1 : Int32) <<< ((b2 - (97 : Int32)) &&& 31))) ||| ((1 : Int32) <<< ((b3 - (97 : Int32)) &&& 31))) ||| ((1 : Int32) <<< ((b4 - (97 : Int32)) &&& 31)))), some (.int (5 : Int32))]) rfl rfl rfl rfl rfl ?_
                                                      refine LW_goto (tgt := 66) rfl rfl ?_
                                                      refine X_iload rfl rfl rfl ?_
                                                      refine X_iload_n rfl rfl rfl rfl ?_
                                                      refine X_icmp_ge (tgt := 112) rfl rfl rfl (fun q => absurd q (by decide)) (fun _ => ?_)
                                                      refine X_aload_n rfl rfl rfl rfl ?_
                                                      refine X_getR (a := 6) rfl rfl rfl ((congrFun F.1 2).trans s_2) rfl ((congrFun (F.2.1 2 (by decide)) 5).trans r_2_5) ?_
                                                      refine X_aload_n rfl rfl rfl rfl ?_
                                                      refine X_getI (v := (0 : Int32)) rfl rfl rfl ((congrFun F.1 2).trans s_2) rfl ((congrFun (F.2.2 2 (by decide)).1 0).trans i_2_0) ?_
                                                      refine X_bipush (v := (8 : Int32)) rfl rfl rfl ?_
                                                      refine X_imul (v := (0 : Int32)) rfl rfl rfl ?_
                                                      refine X_iload rfl rfl rfl ?_
                                                      refine X_iadd (v := (5 : Int32)) rfl rfl rfl ?_
                                                      refine X_aload_n rfl rfl rfl rfl ?_
                                                      refine X_iload_n rfl rfl rfl rfl ?_
                                                      refine X_iload rfl rfl rfl ?_
                                                      refine X_iadd (v := (5 : Int32)) rfl rfl rfl ?_
                                                      refine X_iald (v := (b5 - (97 : Int32))) rfl rfl ((congrFun F.1 354).trans s_354) (vp_in_d rfl) rfl ?_
                                                      refine X_iast (k0 := 5) rfl rfl ((congrFun F.1 6).trans s_6) (vp_in_d rfl) rfl ?_
                                                      refine X_iload rfl rfl rfl ?_
                                                      refine X_iconst (v := (1 : Int32)) rfl rfl rfl ?_
                                                      refine X_aload_n rfl rfl rfl rfl ?_
                                                      refine X_iload_n rfl rfl rfl rfl ?_
                                                      refine X_iload rfl rfl rfl ?_
                                                      refine X_iadd (v := (5 : Int32)) rfl rfl rfl ?_
                                                      refine X_iald (v := (b5 - (97 : Int32))) rfl rfl ((congrFun F.1 354).trans s_354) (vp_in_d rfl) rfl ?_
                                                      refine X_ishl (v := ((1 : Int32) <<< ((b5 - (97 : Int32)) &&& 31))) rfl rfl rfl ?_
                                                      refine X_ior (v := (((((((0 : Int32) ||| ((1 : Int32) <<< ((b0 - (97 : Int32)) &&& 31))) ||| ((1 : Int32) <<< ((b1 - (97 : Int32)) &&& 31))) ||| ((1 : Int32) <<< ((b2 - (97 : Int32)) &&& 31))) ||| ((1 : Int32) <<< ((b3 - (97 : Int32)) &&& 31))) ||| ((1 : Int32) <<< ((b4 - (97 : Int32)) &&& 31))) ||| ((1 : Int32) <<< ((b5 - (97 : Int32)) &&& 31)))) rfl rfl rfl ?_
                                                      refine X_istore (i := 5) (ls' := [some (.ref 2), some (.ref 354), some (.int (0 : Int32)), some (.int (8 : Int32)), some (.int s), some (.int (((((((0 : Int32) ||| ((1 : Int32) <<< ((b0 - (97 : Int32)) &&& 31))) ||| ((1 : Int32) <<< ((b1 - (97 : Int32)) &&& 31))) ||| ((1 : Int32) <<< ((b2 - (97 : Int32)) &&& 31))) ||| ((1 : Int32) <<< ((b3 - (97 : Int32)) &&& 31))) ||| ((1 : Int32) <<< ((b4 - (97 : Int32)) &&& 31))) ||| ((1 : Int32) <<< ((b5 - (97 : Int32)) &&& 31)))), some (.int (5 : Int32))]) rfl rfl (Nat.le_of_ble_eq_true rfl) rfl ?_
                                                      refine X_iinc (v := (6 : Int32)) (ls' := [some (.ref 2), some (.ref 354), some (.int (0 : Int32)), some (.int (8 : Int32)), some (.int s), some (.int (((((((0 : Int32) ||| ((1 : Int32) <<< ((b0 - (97 : Int32)) &&& 31))) ||| ((1 : Int32) <<< ((b1 - (97 : Int32)) &&& 31))) ||| ((1 : Int32) <<< ((b2 - (97 : Int32)) &&& 31))) ||| ((1 : Int32) <<< ((b3 - (97 : Int32)) &&& 31))) ||| ((1 : Int32) <<< ((b4 - (97 : Int32)) &&& 31))) ||| ((1 : Int32) <<< ((b5 - (97 : Int32)) &&& 31)))), some (.int (6 : Int32))]) rfl rfl rfl rfl rfl ?_
                                                      refine LW_goto (tgt := 66) rfl rfl ?_
                                                      refine X_iload rfl rfl rfl ?_
                                                      refine X_iload_n rfl rfl rfl rfl ?_
                                                      refine X_icmp_ge (tgt := 112) rfl rfl rfl (fun q => absurd q (by decide)) (fun _ => ?_)
                                                      refine X_aload_n rfl rfl rfl rfl ?_
                                                      refine X_getR (a := 6) rfl rfl rfl ((congrFun F.1 2).trans s_2) rfl ((congrFun (F.2.1 2 (by decide)) 5).trans r_2_5) ?_
                                                      refine X_aload_n rfl rfl rfl rfl ?_
                                                      refine X_getI (v := (0 : Int32)) rfl rfl rfl ((congrFun F.1 2).trans s_2) rfl ((congrFun (F.2.2 2 (by decide)).1 0).trans i_2_0) ?_
                                                      refine X_bipush (v := (8 : Int32)) rfl rfl rfl ?_
                                                      refine X_imul (v := (0 : Int32)) rfl rfl rfl ?_
                                                      refine X_iload rfl rfl rfl ?_
                                                      refine X_iadd (v := (6 : Int32)) rfl rfl rfl ?_
                                                      refine X_aload_n rfl rfl rfl rfl ?_
                                                      refine X_iload_n rfl rfl rfl rfl ?_
                                                      refine X_iload rfl rfl rfl ?_
                                                      refine X_iadd (v := (6 : Int32)) rfl rfl rfl ?_
                                                      refine X_iald (v := (b6 - (97 : Int32))) rfl rfl ((congrFun F.1 354).trans s_354) (vp_in_d rfl) rfl ?_
                                                      refine X_iast (k0 := 6) rfl rfl ((congrFun F.1 6).trans s_6) (vp_in_d rfl) rfl ?_
                                                      refine X_iload rfl rfl rfl ?_
                                                      refine X_iconst (v := (1 : Int32)) rfl rfl rfl ?_
                                                      refine X_aload_n rfl rfl rfl rfl ?_
                                                      refine X_iload_n rfl rfl rfl rfl ?_
                                                      refine X_iload rfl rfl rfl ?_
                                                      refine X_iadd (v := (6 : Int32)) rfl rfl rfl ?_
                                                      refine X_iald (v := (b6 - (97 : Int32))) rfl rfl ((congrFun F.1 354).trans s_354) (vp_in_d rfl) rfl ?_
                                                      refine X_ishl (v := ((1 : Int32) <<< ((b6 - (97 : Int32)) &&& 31))) rfl rfl rfl ?_
                                                      refine X_ior (v := ((((((((0 : Int32) ||| ((1 : Int32) <<< ((b0 - (97 : Int32)) &&& 31))) ||| ((1 : Int32) <<< ((b1 - (97 : Int32)) &&& 31))) ||| ((1 : Int32) <<< ((b2 - (97 : Int32)) &&& 31))) ||| ((1 : Int32) <<< ((b3 - (97 : Int32)) &&& 31))) ||| ((1 : Int32) <<< ((b4 - (97 : Int32)) &&& 31))) ||| ((1 : Int32) <<< ((b5 - (97 : Int32)) &&& 31))) ||| ((1 : Int32) <<< ((b6 - (97 : Int32)) &&& 31)))) rfl rfl rfl ?_
                                                      refine X_istore (i := 5) (ls' := [some (.ref 2), some (.ref 354), some (.int (0 : Int32)), some (.int (8 : Int32)), some (.int s), some (.int ((((((((0 : Int32) ||| ((1 : Int32) <<< ((b0 - (97 : Int32)) &&& 31))) ||| ((1 : Int32) <<< ((b1 - (97 : Int32)) &&& 31))) ||| ((1 : Int32) <<< ((b2 - (97 : Int32)) &&& 31))) ||| ((1 : Int32) <<< ((b3 - (97 : Int32)) &&& 31))) ||| ((1 : Int32) <<< ((b4 - (97 : Int32)) &&& 31))) ||| ((1 : Int32) <<< ((b5 - (97 : Int32)) &&& 31))) ||| ((1 : Int32) <<< ((b6 - (97 : Int32)) &&& 31)))), some (.int (6 : Int32))]) rfl rfl (Nat.le_of_ble_eq_true rfl) rfl ?_
                                                      refine X_iinc (v := (7 : Int32)) (ls' := [some (.ref 2), some (.ref 354), some (.int (0 : Int32)), some (.int (8 : Int32)), some (.int s), some (.int ((((((((0 : Int32) ||| ((1 : Int32) <<< ((b0 - (97 : Int32)) &&& 31))) ||| ((1 : Int32) <<< ((b1 - (97 : Int32)) &&& 31))) ||| ((1 : Int32) <<< ((b2 - (97 : Int32)) &&& 31))) ||| ((1 : Int32) <<< ((b3 - (97 : Int32)) &&& 31))) ||| ((1 : Int32) <<< ((b4 - (97 : Int32)) &&& 31))) ||| ((1 : Int32) <<< ((b5 - (97 : Int32)) &&& 31))) ||| ((1 : Int32) <<< ((b6 - (97 : Int32)) &&& 31)))), some (.int (7 : Int32))]) rfl rfl rfl rfl rfl ?_
                                                      refine LW_goto (tgt := 66) rfl rfl ?_
                                                      refine X_iload rfl rfl rfl ?_
                                                      refine X_iload_n rfl rfl rfl rfl ?_
                                                      refine X_icmp_ge (tgt := 112) rfl rfl rfl (fun q => absurd q (by decide)) (fun _ => ?_)
                                                      refine X_aload_n rfl rfl rfl rfl ?_
                                                      refine X_getR (a := 6) rfl rfl rfl ((congrFun F.1 2).trans s_2) rfl ((congrFun (F.2.1 2 (by decide)) 5).trans r_2_5) ?_
                                                      refine X_aload_n rfl rfl rfl rfl ?_
                                                      refine X_getI (v := (0 : Int32)) rfl rfl rfl ((congrFun F.1 2).trans s_2) rfl ((congrFun (F.2.2 2 (by decide)).1 0).trans i_2_0) ?_
                                                      refine X_bipush (v := (8 : Int32)) rfl rfl rfl ?_
                                                      refine X_imul (v := (0 : Int32)) rfl rfl rfl ?_
                                                      refine X_iload rfl rfl rfl ?_
                                                      refine X_iadd (v := (7 : Int32)) rfl rfl rfl ?_
                                                      refine X_aload_n rfl rfl rfl rfl ?_
                                                      refine X_iload_n rfl rfl rfl rfl ?_
                                                      refine X_iload rfl rfl rfl ?_
                                                      refine X_iadd (v := (7 : Int32)) rfl rfl rfl ?_
                                                      refine X_iald (v := (b7 - (97 : Int32))) rfl rfl ((congrFun F.1 354).trans s_354) (vp_in_d rfl) rfl ?_
                                                      refine X_iast (k0 := 7) rfl rfl ((congrFun F.1 6).trans s_6) (vp_in_d rfl) rfl ?_
                                                      refine X_iload rfl rfl rfl ?_
                                                      refine X_iconst (v := (1 : Int32)) rfl rfl rfl ?_
                                                      refine X_aload_n rfl rfl rfl rfl ?_
                                                      refine X_iload_n rfl rfl rfl rfl ?_
                                                      refine X_iload rfl rfl rfl ?_
                                                      refine X_iadd (v := (7 : Int32)) rfl rfl rfl ?_
                                                      refine X_iald (v := (b7 - (97 : Int32))) rfl rfl ((congrFun F.1 354).trans s_354) (vp_in_d rfl) rfl ?_
                                                      refine X_ishl (v := ((1 : Int32) <<< ((b7 - (97 : Int32)) &&& 31))) rfl rfl rfl ?_
                                                      refine X_ior (v := (((((((((0 : Int32) ||| ((1 : Int32) <<< ((b0 - (97 : Int32)) &&& 31))) ||| ((1 : Int32) <<< ((b1 - (97 : Int32)) &&& 31))) ||| ((1 : Int32) <<< ((b2 - (97 : Int32)) &&& 31))) ||| ((1 : Int32) <<< ((b3 - (97 : Int32)) &&& 31))) ||| ((1 : Int32) <<< ((b4 - (97 : Int32)) &&& 31))) ||| ((1 : Int32) <<< ((b5 - (97 : Int32)) &&& 31))) ||| ((1 : Int32) <<< ((b6 - (97 : Int32)) &&& 31))) ||| ((1 : Int32) <<< ((b7 - (97 : Int32)) &&& 31)))) rfl rfl rfl ?_
                                                      refine X_istore (i := 5) (ls' := [some (.ref 2), some (.ref 354), some (.int (0 : Int32)), some (.int (8 : Int32)), some (.int s), some (.int (((((((((0 : Int32) ||| ((1 : Int32) <<< ((b0 - (97 : Int32)) &&& 31))) ||| ((1 : Int32) <<< ((b1 - (97 : Int32)) &&& 31))) ||| ((1 : Int32) <<< ((b2 - (97 : Int32)) &&& 31))) ||| ((1 : Int32) <<< ((b3 - (97 : Int32)) &&& 31))) ||| ((1 : Int32) <<< ((b4 - (97 : Int32)) &&& 31))) ||| ((1 : Int32) <<< ((b5 - (97 : Int32)) &&& 31))) ||| ((1 : Int32) <<< ((b6 - (97 : Int32)) &&& 31))) ||| ((1 : Int32) <<< ((b7 - (97 : Int32)) &&& 31)))), some (.int (7 : Int32))]) rfl rfl (Nat.le_of_ble_eq_true rfl) rfl ?_
                                                      refine X_iinc (v := (8 : Int32)) (ls' := [some (.ref 2), some (.ref 354), some (.int (0 : Int32)), some (.int (8 : Int32)), some (.int s), some (.int (((((((((0 : Int32) ||| ((1 : Int32) <<< ((b0 - (97 : Int32)) &&& 31))) ||| ((1 : Int32) <<< ((b1 - (97 : Int32)) &&& 31))) ||| ((1 : Int32) <<< ((b2 - (97 : Int32)) &&& 31))) ||| ((1 : Int32) <<< ((b3 - (97 : Int32)) &&& 31))) ||| ((1 : Int32) <<< ((b4 - (97 : Int32)) &&& 31))) ||| ((1 : Int32) <<< ((b5 - (97 : Int32)) &&& 31))) ||| ((1 : Int32) <<< ((b6 - (97 : Int32)) &&& 31))) ||| ((1 : Int32) <<< ((b7 - (97 : Int32)) &&& 31)))), some (.int (8 : Int32))]) rfl rfl rfl rfl rfl ?_
                                                      refine LW_goto (tgt := 66) rfl rfl ?_
                                                      refine X_iload rfl rfl rfl ?_
                                                      refine X_iload_n rfl rfl rfl rfl ?_
                                                      refine X_icmp_ge (tgt := 112) rfl rfl rfl (fun _ => ?_) (fun q => absurd q (by decide))
                                                      refine X_aload_n rfl rfl rfl rfl ?_
                                                      refine X_getR (a := 3) rfl rfl rfl ((congrFun F.1 2).trans s_2) rfl ((congrFun (F.2.1 2 (by decide)) 2).trans r_2_2) ?_
                                                      refine X_aload_n rfl rfl rfl rfl ?_
                                                      refine X_getI (v := (0 : Int32)) rfl rfl rfl ((congrFun F.1 2).trans s_2) rfl ((congrFun (F.2.2 2 (by decide)).1 0).trans i_2_0) ?_
                                                      refine X_iload_n rfl rfl rfl rfl ?_
                                                      refine X_iast (k0 := 0) rfl rfl ((congrFun F.1 3).trans s_3) (vp_in_d rfl) rfl ?_
                                                      refine X_aload_n rfl rfl rfl rfl ?_
                                                      refine X_getR (a := 4) rfl rfl rfl ((congrFun F.1 2).trans s_2) rfl ((congrFun (F.2.1 2 (by decide)) 3).trans r_2_3) ?_
                                                      refine X_aload_n rfl rfl rfl rfl ?_
                                                      refine X_getI (v := (0 : Int32)) rfl rfl rfl ((congrFun F.1 2).trans s_2) rfl ((congrFun (F.2.2 2 (by decide)).1 0).trans i_2_0) ?_
                                                      refine X_iload rfl rfl rfl ?_
                                                      refine X_iast (k0 := 0) rfl rfl ((congrFun F.1 4).trans s_4) (vp_in_d rfl) rfl ?_
                                                      refine X_aload_n rfl rfl rfl rfl ?_
                                                      refine X_getR (a := 5) rfl rfl rfl ((congrFun F.1 2).trans s_2) rfl ((congrFun (F.2.1 2 (by decide)) 4).trans r_2_4) ?_
                                                      refine X_aload_n rfl rfl rfl rfl ?_
                                                      refine X_getI (v := (0 : Int32)) rfl rfl rfl ((congrFun F.1 2).trans s_2) rfl ((congrFun (F.2.2 2 (by decide)).1 0).trans i_2_0) ?_
                                                      refine X_iload rfl rfl rfl ?_
                                                      refine X_iast (k0 := 0) rfl rfl ((congrFun F.1 5).trans s_5) (vp_in_d rfl) rfl ?_
                                                      refine X_aload_n rfl rfl rfl rfl ?_
                                                      refine X_dup rfl rfl rfl ?_
                                                      refine X_getI (v := (0 : Int32)) rfl rfl rfl ((congrFun F.1 2).trans s_2) rfl ((congrFun (F.2.2 2 (by decide)).1 0).trans i_2_0) ?_
                                                      refine X_iconst (v := (1 : Int32)) rfl rfl rfl ?_
                                                      refine X_iadd (v := (1 : Int32)) rfl rfl rfl ?_
                                                      refine X_putI rfl rfl rfl ((congrFun F.1 2).trans s_2) rfl rfl rfl rfl ?_
                                                      refine X_aload_n rfl rfl rfl rfl ?_
                                                      refine X_getI (v := (1 : Int32)) rfl rfl rfl ((congrFun F.1 2).trans s_2) rfl rfl ?_
                                                      refine X_iconst (v := (1 : Int32)) rfl rfl rfl ?_
                                                      refine X_isub (v := (0 : Int32)) rfl rfl rfl ?_
                                                      refine LW_ireturn (st := []) rfl rfl rfl ?_
                                                      refine LW_ireturn (st := []) rfl rfl rfl ⟨congrArg (fun z => some (Value.int z)) ?_, (Fr_putI (Fr_putI (Fr_putI (Fr_putI (Fr_putI (Fr_putI (Fr_putI (Fr_putI (Fr_putI (Fr_putI (Fr_putI (Fr_putI (Fr_putI (Fr_putI (Fr_putI (Fr_putI (Fr_putI (Fr_putI (Fr_putI (Fr_putI E (by decide)) (by decide)) (by decide)) (by decide)) (by decide)) (by decide)) (by decide)) (by decide)) (by decide)) (by decide)) (by decide)) (by decide)) (by decide)) (by decide)) (by decide)) (by decide)) (by decide)) (by decide)) (by decide)) (by decide))⟩
                                                      simp only [Int32.lt_iff_toInt_lt, Int32.le_iff_toInt_le, ← Int32.toInt_inj, (show (0 : Int32).toInt = 0 from rfl), (show (9 : Int32).toInt = 9 from rfl), (show (97 : Int32).toInt = 97 from rfl), (show (122 : Int32).toInt = 122 from rfl)] at h1 h2 h3 h4 h5 h6 h7 h8 h9 h10 h11 h12 h13 h14 h15 h16 h17 h18 h19 h20 h21 h22 h23 h24 h25 h26
                                                      unfold f_wordB
                                                      rw [if_pos (by omega)]
                                                · refine X_iconst (v := (-1 : Int32)) rfl rfl rfl ?_
                                                  refine LW_ireturn (st := []) rfl rfl rfl ⟨congrArg (fun z => some (Value.int z)) ?_, (Fr_putI (Fr_putI (Fr_putI (Fr_putI (Fr_putI (Fr_putI (Fr_putI E (by decide)) (by decide)) (by decide)) (by decide)) (by decide)) (by decide)) (by decide))⟩
                                                  simp only [Int32.lt_iff_toInt_lt, Int32.le_iff_toInt_le, ← Int32.toInt_inj, (show (0 : Int32).toInt = 0 from rfl), (show (97 : Int32).toInt = 97 from rfl), (show (122 : Int32).toInt = 122 from rfl)] at h1 h2 h3 h4 h5 h6 h7 h8 h9 h10 h11 h12 h13 h14 h15 h16 h17 h18 h19 h20 h21 h22 h23 h24
                                                  unfold f_wordB
                                                  rw [if_neg (by omega)]
                                            · refine X_iconst (v := (1 : Int32)) rfl rfl rfl ?_
                                              refine X_istore (i := 5) (ls' := [some (.ref 0), some (.int a), some (.int c), some (.int s), some (.int (7 : Int32)), some (.int (1 : Int32)), some (.int (7 : Int32)), some (.int b7)]) rfl rfl (Nat.le_of_ble_eq_true rfl) rfl ?_
                                              refine LW_goto (tgt := 88) rfl rfl ?_
                                              refine X_iinc (v := (8 : Int32)) (ls' := [some (.ref 0), some (.int a), some (.int c), some (.int s), some (.int (7 : Int32)), some (.int (1 : Int32)), some (.int (8 : Int32)), some (.int b7)]) rfl rfl rfl rfl rfl ?_
                                              refine LW_goto (tgt := 9) rfl rfl ?_
                                              refine X_iload rfl rfl rfl ?_
                                              refine X_bipush (v := (8 : Int32)) rfl rfl rfl ?_
                                              refine X_icmp_ge (tgt := 94) rfl rfl rfl (fun _ => ?_) (fun q => absurd q (by decide))
                                              refine X_aload_n rfl rfl rfl rfl ?_
                                              refine X_getR (a := 1) rfl rfl rfl ((congrFun F.1 0).trans s_0) rfl ((congrFun (F.2.1 0 (by decide)) 0).trans r_0_0) ?_
                                              refine X_getR (a := 2) rfl rfl rfl ((congrFun F.1 1).trans s_1) rfl ((congrFun (F.2.1 1 (by decide)) 0).trans r_1_0) ?_
                                              refine X_aload_n rfl rfl rfl rfl ?_
                                              refine X_getR (a := 354) rfl rfl rfl ((congrFun F.1 0).trans s_0) rfl ((congrFun (F.2.1 0 (by decide)) 9).trans r_0_9) ?_
                                              refine X_iconst (v := (0 : Int32)) rfl rfl rfl ?_
                                              refine X_iload rfl rfl rfl ?_
                                              refine X_iload_n rfl rfl rfl rfl ?_
                                              refine X_callV (as := [.ref 354, .int (0 : Int32), .int (7 : Int32), .int s]) (st := []) rfl rfl rfl (by decide) rfl (Nat.le_of_ble_eq_true rfl) (by decide) (Nat.le_of_ble_eq_true rfl) rfl ((congrFun F.1 2).trans s_2) (by decide) ?_
                                              refine LW_ls (ls' := [some (.ref 2), some (.ref 354), some (.int (0 : Int32)), some (.int (7 : Int32)), some (.int s), none, none]) rfl ?_
                                              refine X_iload_n rfl rfl rfl rfl ?_
                                              refine X_iconst (v := (1 : Int32)) rfl rfl rfl ?_
                                              refine X_icmp_lt (tgt := 23) rfl rfl rfl (fun q => absurd q (by decide)) (fun _ => ?_)
                                              refine X_iload_n rfl rfl rfl rfl ?_
                                              refine X_bipush (v := (8 : Int32)) rfl rfl rfl ?_
                                              refine X_icmp_gt (tgt := 23) rfl rfl rfl (fun q => absurd q (by decide)) (fun _ => ?_)
                                              refine X_iload_n rfl rfl rfl rfl ?_
                                              refine X_if_lt (tgt := 23) rfl rfl rfl (fun q => absurd q (by decide)) (fun _ => ?_)
                                              refine X_iload_n rfl rfl rfl rfl ?_
                                              refine X_iload_n rfl rfl rfl rfl ?_
                                              refine X_iadd (v := (7 : Int32)) rfl rfl rfl ?_
                                              refine X_aload_n rfl rfl rfl rfl ?_
                                              refine X_alen (t0 := 0) (v := (8 : Int32)) rfl rfl ((congrFun F.1 354).trans s_354) rfl rfl ?_
                                              refine X_icmp_le (tgt := 25) rfl rfl rfl (fun _ => ?_) (fun q => absurd q (by decide))
                                              refine X_iload rfl rfl rfl ?_
                                              refine X_if_lt (tgt := 46) rfl rfl rfl (fun h27 => ?_) (fun h27 => ?_)
                                              · refine X_iconst (v := (-1 : Int32)) rfl rfl rfl ?_
                                                refine LW_ireturn (st := []) rfl rfl rfl ?_
                                                refine LW_ireturn (st := []) rfl rfl rfl ⟨congrArg (fun z => some (Value.int z)) ?_, (Fr_putI (Fr_putI (Fr_putI (Fr_putI (Fr_putI (Fr_putI (Fr_putI E (by decide)) (by decide)) (by decide)) (by decide)) (by decide)) (by decide)) (by decide))⟩
                                                simp only [Int32.lt_iff_toInt_lt, Int32.le_iff_toInt_le, ← Int32.toInt_inj, (show (0 : Int32).toInt = 0 from rfl), (show (97 : Int32).toInt = 97 from rfl), (show (122 : Int32).toInt = 122 from rfl)] at h1 h2 h3 h4 h5 h6 h7 h8 h9 h10 h11 h12 h13 h14 h15 h16 h17 h18 h19 h20 h21 h22 h27
                                                unfold f_wordB
                                                rw [if_neg (by omega)]
                                              · refine X_iload rfl rfl rfl ?_
                                                refine X_bipush (v := (9 : Int32)) rfl rfl rfl ?_
                                                refine X_icmp_gt (tgt := 46) rfl rfl rfl (fun h28 => ?_) (fun h28 => ?_)
                                                · refine X_iconst (v := (-1 : Int32)) rfl rfl rfl ?_
                                                  refine LW_ireturn (st := []) rfl rfl rfl ?_
                                                  refine LW_ireturn (st := []) rfl rfl rfl ⟨congrArg (fun z => some (Value.int z)) ?_, (Fr_putI (Fr_putI (Fr_putI (Fr_putI (Fr_putI (Fr_putI (Fr_putI E (by decide)) (by decide)) (by decide)) (by decide)) (by decide)) (by decide)) (by decide))⟩
                                                  simp only [Int32.lt_iff_toInt_lt, Int32.le_iff_toInt_le, ← Int32.toInt_inj, (show (0 : Int32).toInt = 0 from rfl), (show (9 : Int32).toInt = 9 from rfl), (show (97 : Int32).toInt = 97 from rfl), (show (122 : Int32).toInt = 122 from rfl)] at h1 h2 h3 h4 h5 h6 h7 h8 h9 h10 h11 h12 h13 h14 h15 h16 h17 h18 h19 h20 h21 h22 h27 h28
                                                  unfold f_wordB
                                                  rw [if_neg (by omega)]
                                                · refine X_aload_n rfl rfl rfl rfl ?_
                                                  refine X_getI (v := (0 : Int32)) rfl rfl rfl ((congrFun F.1 2).trans s_2) rfl ((congrFun (F.2.2 2 (by decide)).1 0).trans i_2_0) ?_
                                                  refine X_bipush (v := (24 : Int32)) rfl rfl rfl ?_
                                                  refine X_icmp_lt (tgt := 48) rfl rfl rfl (fun _ => ?_) (fun q => absurd q (by decide))
                                                  refine X_aload_n rfl rfl rfl rfl ?_
                                                  refine X_aload_n rfl rfl rfl rfl ?_
                                                  refine X_iload_n rfl rfl rfl rfl ?_
                                                  refine X_iload_n rfl rfl rfl rfl ?_
                                                  refine X_callV (as := [.ref 354, .int (0 : Int32), .int (7 : Int32)]) (st := []) rfl rfl rfl (by decide) rfl (Nat.le_of_ble_eq_true rfl) (by decide) (Nat.le_of_ble_eq_true rfl) rfl ((congrFun F.1 2).trans s_2) (by decide) ?_
                                                  refine LW_ls (ls' := [some (.ref 2), some (.ref 354), some (.int (0 : Int32)), some (.int (7 : Int32)), none, none, none]) rfl ?_
                                                  refine X_iconst (v := (0 : Int32)) rfl rfl rfl ?_
                                                  refine X_istore (i := 4) (ls' := [some (.ref 2), some (.ref 354), some (.int (0 : Int32)), some (.int (7 : Int32)), some (.int (0 : Int32)), none, none]) rfl rfl (Nat.le_of_ble_eq_true rfl) rfl ?_
                                                  refine X_iload rfl rfl rfl ?_
                                                  refine X_aload_n rfl rfl rfl rfl ?_
                                                  refine X_getI (v := (0 : Int32)) rfl rfl rfl ((congrFun F.1 2).trans s_2) rfl ((congrFun (F.2.2 2 (by decide)).1 0).trans i_2_0) ?_
                                                  refine X_icmp_ge (tgt := 91) rfl rfl rfl (fun _ => ?_) (fun q => absurd q (by decide))
                                                  refine X_iconst (v := (0 : Int32)) rfl rfl rfl ?_
                                                  refine LW_ireturn (st := []) rfl rfl rfl ?_
                                                  refine X_if_eq (tgt := 60) rfl rfl rfl (fun _ => ?_) (fun q => absurd q (by decide))
                                                  refine X_iconst (v := (0 : Int32)) rfl rfl rfl ?_
                                                  refine X_istore (i := 5) (ls' := [some (.ref 2), some (.ref 354), some (.int (0 : Int32)), some (.int (7 : Int32)), some (.int s), some (.int (0 : Int32)), none]) rfl rfl (Nat.le_of_ble_eq_true rfl) rfl ?_
                                                  refine X_iconst (v := (0 : Int32)) rfl rfl rfl ?_
                                                  refine X_istore (i := 6) (ls' := [some (.ref 2), some (.ref 354), some (.int (0 : Int32)), some (.int (7 : Int32)), some (.int s), some (.int (0 : Int32)), some (.int (0 : Int32))]) rfl rfl (Nat.le_of_ble_eq_true rfl) rfl ?_
                                                  refine X_iload rfl rfl rfl ?_
                                                  refine X_iload_n rfl rfl rfl rfl ?_
                                                  refine X_icmp_ge (tgt := 112) rfl rfl rfl (fun q => absurd q (by decide)) (fun _ => ?_)
                                                  refine X_aload_n rfl rfl rfl rfl ?_
                                                  refine X_getR (a := 6) rfl rfl rfl ((congrFun F.1 2).trans s_2) rfl ((congrFun (F.2.1 2 (by decide)) 5).trans r_2_5) ?_
                                                  refine X_aload_n rfl rfl rfl rfl ?_
                                                  refine X_getI (v := (0 : Int32)) rfl rfl rfl ((congrFun F.1 2).trans s_2) rfl ((congrFun (F.2.2 2 (by decide)).1 0).trans i_2_0) ?_
                                                  refine X_bipush (v := (8 : Int32)) rfl rfl rfl ?_
                                                  refine X_imul (v := (0 : Int32)) rfl rfl rfl ?_
                                                  refine X_iload rfl rfl rfl ?_
                                                  refine X_iadd (v := (0 : Int32)) rfl rfl rfl ?_
                                                  refine X_aload_n rfl rfl rfl rfl ?_
                                                  refine X_iload_n rfl rfl rfl rfl ?_
                                                  refine X_iload rfl rfl rfl ?_
                                                  refine X_iadd (v := (0 : Int32)) rfl rfl rfl ?_
                                                  refine X_iald (v := (b0 - (97 : Int32))) rfl rfl ((congrFun F.1 354).trans s_354) (vp_in_d rfl) rfl ?_
                                                  refine X_iast (k0 := 0) rfl rfl ((congrFun F.1 6).trans s_6) (vp_in_d rfl) rfl ?_
                                                  refine X_iload rfl rfl rfl ?_
                                                  refine X_iconst (v := (1 : Int32)) rfl rfl rfl ?_
                                                  refine X_aload_n rfl rfl rfl rfl ?_
                                                  refine X_iload_n rfl rfl rfl rfl ?_
                                                  refine X_iload rfl rfl rfl ?_
                                                  refine X_iadd (v := (0 : Int32)) rfl rfl rfl ?_
                                                  refine X_iald (v := (b0 - (97 : Int32))) rfl rfl ((congrFun F.1 354).trans s_354) (vp_in_d rfl) rfl ?_
                                                  refine X_ishl (v := ((1 : Int32) <<< ((b0 - (97 : Int32)) &&& 31))) rfl rfl rfl ?_
                                                  refine X_ior (v := ((0 : Int32) ||| ((1 : Int32) <<< ((b0 - (97 : Int32)) &&& 31)))) rfl rfl rfl ?_
                                                  refine X_istore (i := 5) (ls' := [some (.ref 2), some (.ref 354), some (.int (0 : Int32)), some (.int (7 : Int32)), some (.int s), some (.int ((0 : Int32) ||| ((1 : Int32) <<< ((b0 - (97 : Int32)) &&& 31)))), some (.int (0 : Int32))]) rfl rfl (Nat.le_of_ble_eq_true rfl) rfl ?_
                                                  refine X_iinc (v := (1 : Int32)) (ls' := [some (.ref 2), some (.ref 354), some (.int (0 : Int32)), some (.int (7 : Int32)), some (.int s), some (.int ((0 : Int32) ||| ((1 : Int32) <<< ((b0 - (97 : Int32)) &&& 31)))), some (.int (1 : Int32))]) rfl rfl rfl rfl rfl ?_
                                                  refine LW_goto (tgt := 66) rfl rfl ?_
                                                  refine X_iload rfl rfl rfl ?_
                                                  refine X_iload_n rfl rfl rfl rfl ?_
                                                  refine X_icmp_ge (tgt := 112) rfl rfl rfl (fun q => absurd q (by decide)) (fun _ => ?_)
                                                  refine X_aload_n rfl rfl rfl rfl ?_
                                                  refine X_getR (a := 6) rfl rfl rfl ((congrFun F.1 2).trans s_2) rfl ((congrFun (F.2.1 2 (by decide)) 5).trans r_2_5) ?_
                                                  refine X_aload_n rfl rfl rfl rfl ?_
                                                  refine X_getI (v := (0 : Int32)) rfl rfl rfl ((congrFun F.1 2).trans s_2) rfl ((congrFun (F.2.2 2 (by decide)).1 0).trans i_2_0) ?_
                                                  refine X_bipush (v := (8 : Int32)) rfl rfl rfl ?_
                                                  refine X_imul (v := (0 : Int32)) rfl rfl rfl ?_
                                                  refine X_iload rfl rfl rfl ?_
                                                  refine X_iadd (v := (1 : Int32)) rfl rfl rfl ?_
                                                  refine X_aload_n rfl rfl rfl rfl ?_
                                                  refine X_iload_n rfl rfl rfl rfl ?_
                                                  refine X_iload rfl rfl rfl ?_
                                                  refine X_iadd (v := (1 : Int32)) rfl rfl rfl ?_
                                                  refine X_iald (v := (b1 - (97 : Int32))) rfl rfl ((congrFun F.1 354).trans s_354) (vp_in_d rfl) rfl ?_
                                                  refine X_iast (k0 := 1) rfl rfl ((congrFun F.1 6).trans s_6) (vp_in_d rfl) rfl ?_
                                                  refine X_iload rfl rfl rfl ?_
                                                  refine X_iconst (v := (1 : Int32)) rfl rfl rfl ?_
                                                  refine X_aload_n rfl rfl rfl rfl ?_
                                                  refine X_iload_n rfl rfl rfl rfl ?_
                                                  refine X_iload rfl rfl rfl ?_
                                                  refine X_iadd (v := (1 : Int32)) rfl rfl rfl ?_
                                                  refine X_iald (v := (b1 - (97 : Int32))) rfl rfl ((congrFun F.1 354).trans s_354) (vp_in_d rfl) rfl ?_
                                                  refine X_ishl (v := ((1 : Int32) <<< ((b1 - (97 : Int32)) &&& 31))) rfl rfl rfl ?_
                                                  refine X_ior (v := (((0 : Int32) ||| ((1 : Int32) <<< ((b0 - (97 : Int32)) &&& 31))) ||| ((1 : Int32) <<< ((b1 - (97 : Int32)) &&& 31)))) rfl rfl rfl ?_
                                                  refine X_istore (i := 5) (ls' := [some (.ref 2), some (.ref 354), some (.int (0 : Int32)), some (.int (7 : Int32)), some (.int s), some (.int (((0 : Int32) ||| ((1 : Int32) <<< ((b0 - (97 : Int32)) &&& 31))) ||| ((1 : Int32) <<< ((b1 - (97 : Int32)) &&& 31)))), some (.int (1 : Int32))]) rfl rfl (Nat.le_of_ble_eq_true rfl) rfl ?_
                                                  refine X_iinc (v := (2 : Int32)) (ls' := [some (.ref 2), some (.ref 354), some (.int (0 : Int32)), some (.int (7 : Int32)), some (.int s), some (.int (((0 : Int32) ||| ((1 : Int32) <<< ((b0 - (97 : Int32)) &&& 31))) ||| ((1 : Int32) <<< ((b1 - (97 : Int32)) &&& 31)))), some (.int (2 : Int32))]) rfl rfl rfl rfl rfl ?_
                                                  refine LW_goto (tgt := 66) rfl rfl ?_
                                                  refine X_iload rfl rfl rfl ?_
                                                  refine X_iload_n rfl rfl rfl rfl ?_
                                                  refine X_icmp_ge (tgt := 112) rfl rfl rfl (fun q => absurd q (by decide)) (fun _ => ?_)
                                                  refine X_aload_n rfl rfl rfl rfl ?_
                                                  refine X_getR (a := 6) rfl rfl rfl ((congrFun F.1 2).trans s_2) rfl ((congrFun (F.2.1 2 (by decide)) 5).trans r_2_5) ?_
                                                  refine X_aload_n rfl rfl rfl rfl ?_
                                                  refine X_getI (v := (0 : Int32)) rfl rfl rfl ((congrFun F.1 2).trans s_2) rfl ((congrFun (F.2.2 2 (by decide)).1 0).trans i_2_0) ?_
                                                  refine X_bipush (v := (8 : Int32)) rfl rfl rfl ?_
                                                  refine X_imul (v := (0 : Int32)) rfl rfl rfl ?_
                                                  refine X_iload rfl rfl rfl ?_
                                                  refine X_iadd (v := (2 : Int32)) rfl rfl rfl ?_
                                                  refine X_aload_n rfl rfl rfl rfl ?_
                                                  refine X_iload_n rfl rfl rfl rfl ?_
                                                  refine X_iload rfl rfl rfl ?_
                                                  refine X_iadd (v := (2 : Int32)) rfl rfl rfl ?_
                                                  refine X_iald (v := (b2 - (97 : Int32))) rfl rfl ((congrFun F.1 354).trans s_354) (vp_in_d rfl) rfl ?_
                                                  refine X_iast (k0 := 2) rfl rfl ((congrFun F.1 6).trans s_6) (vp_in_d rfl) rfl ?_
                                                  refine X_iload rfl rfl rfl ?_
                                                  refine X_iconst (v := (1 : Int32)) rfl rfl rfl ?_
                                                  refine X_aload_n rfl rfl rfl rfl ?_
                                                  refine X_iload_n rfl rfl rfl rfl ?_
                                                  refine X_iload rfl rfl rfl ?_
                                                  refine X_iadd (v := (2 : Int32)) rfl rfl rfl ?_
                                                  refine X_iald (v := (b2 - (97 : Int32))) rfl rfl ((congrFun F.1 354).trans s_354) (vp_in_d rfl) rfl ?_
                                                  refine X_ishl (v := ((1 : Int32) <<< ((b2 - (97 : Int32)) &&& 31))) rfl rfl rfl ?_
                                                  refine X_ior (v := ((((0 : Int32) ||| ((1 : Int32) <<< ((b0 - (97 : Int32)) &&& 31))) ||| ((1 : Int32) <<< ((b1 - (97 : Int32)) &&& 31))) ||| ((1 : Int32) <<< ((b2 - (97 : Int32)) &&& 31)))) rfl rfl rfl ?_
                                                  refine X_istore (i := 5) (ls' := [some (.ref 2), some (.ref 354), some (.int (0 : Int32)), some (.int (7 : Int32)), some (.int s), some (.int ((((0 : Int32) ||| ((1 : Int32) <<< ((b0 - (97 : Int32)) &&& 31))) ||| ((1 : Int32) <<< ((b1 - (97 : Int32)) &&& 31))) ||| ((1 : Int32) <<< ((b2 - (97 : Int32)) &&& 31)))), some (.int (2 : Int32))]) rfl rfl (Nat.le_of_ble_eq_true rfl) rfl ?_
                                                  refine X_iinc (v := (3 : Int32)) (ls' := [some (.ref 2), some (.ref 354), some (.int (0 : Int32)), some (.int (7 : Int32)), some (.int s), some (.int ((((0 : Int32) ||| ((1 : Int32) <<< ((b0 - (97 : Int32)) &&& 31))) ||| ((1 : Int32) <<< ((b1 - (97 : Int32)) &&& 31))) ||| ((1 : Int32) <<< ((b2 - (97 : Int32)) &&& 31)))), some (.int (3 : Int32))]) rfl rfl rfl rfl rfl ?_
                                                  refine LW_goto (tgt := 66) rfl rfl ?_
                                                  refine X_iload rfl rfl rfl ?_
                                                  refine X_iload_n rfl rfl rfl rfl ?_
                                                  refine X_icmp_ge (tgt := 112) rfl rfl rfl (fun q => absurd q (by decide)) (fun _ => ?_)
                                                  refine X_aload_n rfl rfl rfl rfl ?_
                                                  refine X_getR (a := 6) rfl rfl rfl ((congrFun F.1 2).trans s_2) rfl ((congrFun (F.2.1 2 (by decide)) 5).trans r_2_5) ?_
                                                  refine X_aload_n rfl rfl rfl rfl ?_
                                                  refine X_getI (v := (0 : Int32)) rfl rfl rfl ((congrFun F.1 2).trans s_2) rfl ((congrFun (F.2.2 2 (by decide)).1 0).trans i_2_0) ?_
                                                  refine X_bipush (v := (8 : Int32)) rfl rfl rfl ?_
                                                  refine X_imul (v := (0 : Int32)) rfl rfl rfl ?_
                                                  refine X_iload rfl rfl rfl ?_
                                                  refine X_iadd (v := (3 : Int32)) rfl rfl rfl ?_
                                                  refine X_aload_n rfl rfl rfl rfl ?_
                                                  refine X_iload_n rfl rfl rfl rfl ?_
                                                  refine X_iload rfl rfl rfl ?_
                                                  refine X_iadd (v := (3 : Int32)) rfl rfl rfl ?_
                                                  refine X_iald (v := (b3 - (97 : Int32))) rfl rfl ((congrFun F.1 354).trans s_354) (vp_in_d rfl) rfl ?_
                                                  refine X_iast (k0 := 3) rfl rfl ((congrFun F.1 6).trans s_6) (vp_in_d rfl) rfl ?_
                                                  refine X_iload rfl rfl rfl ?_
                                                  refine X_iconst (v := (1 : Int32)) rfl rfl rfl ?_
                                                  refine X_aload_n rfl rfl rfl rfl ?_
                                                  refine X_iload_n rfl rfl rfl rfl ?_
                                                  refine X_iload rfl rfl rfl ?_
                                                  refine X_iadd (v := (3 : Int32)) rfl rfl rfl ?_
                                                  refine X_iald (v := (b3 - (97 : Int32))) rfl rfl ((congrFun F.1 354).trans s_354) (vp_in_d rfl) rfl ?_
                                                  refine X_ishl (v := ((1 : Int32) <<< ((b3 - (97 : Int32)) &&& 31))) rfl rfl rfl ?_
                                                  refine X_ior (v := (((((0 : Int32) ||| ((1 : Int32) <<< ((b0 - (97 : Int32)) &&& 31))) ||| ((1 : Int32) <<< ((b1 - (97 : Int32)) &&& 31))) ||| ((1 : Int32) <<< ((b2 - (97 : Int32)) &&& 31))) ||| ((1 : Int32) <<< ((b3 - (97 : Int32)) &&& 31)))) rfl rfl rfl ?_
                                                  refine X_istore (i := 5) (ls' := [some (.ref 2), some (.ref 354), some (.int (0 : Int32)), some (.int (7 : Int32)), some (.int s), some (.int (((((0 : Int32) ||| ((1 : Int32) <<< ((b0 - (97 : Int32)) &&& 31))) ||| ((1 : Int32) <<< ((b1 - (97 : Int32)) &&& 31))) ||| ((1 : Int32) <<< ((b2 - (97 : Int32)) &&& 31))) ||| ((1 : Int32) <<< ((b3 - (97 : Int32)) &&& 31)))), some (.int (3 : Int32))]) rfl rfl (Nat.le_of_ble_eq_true rfl) rfl ?_
                                                  refine X_iinc (v := (4 : Int32)) (ls' := [some (.ref 2), some (.ref 354), some (.int (0 : Int32)), some (.int (7 : Int32)), some (.int s), some (.int (((((0 : Int32) ||| ((1 : Int32) <<< ((b0 - (97 : Int32)) &&& 31))) ||| ((1 : Int32) <<< ((b1 - (97 : Int32)) &&& 31))) ||| ((1 : Int32) <<< ((b2 - (97 : Int32)) &&& 31))) ||| ((1 : Int32) <<< ((b3 - (97 : Int32)) &&& 31)))), some (.int (4 : Int32))]) rfl rfl rfl rfl rfl ?_
                                                  refine LW_goto (tgt := 66) rfl rfl ?_
                                                  refine X_iload rfl rfl rfl ?_
                                                  refine X_iload_n rfl rfl rfl rfl ?_
                                                  refine X_icmp_ge (tgt := 112) rfl rfl rfl (fun q => absurd q (by decide)) (fun _ => ?_)
                                                  refine X_aload_n rfl rfl rfl rfl ?_
                                                  refine X_getR (a := 6) rfl rfl rfl ((congrFun F.1 2).trans s_2) rfl ((congrFun (F.2.1 2 (by decide)) 5).trans r_2_5) ?_
                                                  refine X_aload_n rfl rfl rfl rfl ?_
                                                  refine X_getI (v := (0 : Int32)) rfl rfl rfl ((congrFun F.1 2).trans s_2) rfl ((congrFun (F.2.2 2 (by decide)).1 0).trans i_2_0) ?_
                                                  refine X_bipush (v := (8 : Int32)) rfl rfl rfl ?_
                                                  refine X_imul (v := (0 : Int32)) rfl rfl rfl ?_
                                                  refine X_iload rfl rfl rfl ?_
                                                  refine X_iadd (v := (4 : Int32)) rfl rfl rfl ?_
                                                  refine X_aload_n rfl rfl rfl rfl ?_
                                                  refine X_iload_n rfl rfl rfl rfl ?_
                                                  refine X_iload rfl rfl rfl ?_
                                                  refine X_iadd (v := (4 : Int32)) rfl rfl rfl ?_
                                                  refine X_iald (v := (b4 - (97 : Int32))) rfl rfl ((congrFun F.1 354).trans s_354) (vp_in_d rfl) rfl ?_
                                                  refine X_iast (k0 := 4) rfl rfl ((congrFun F.1 6).trans s_6) (vp_in_d rfl) rfl ?_
                                                  refine X_iload rfl rfl rfl ?_
                                                  refine X_iconst (v := (1 : Int32)) rfl rfl rfl ?_
                                                  refine X_aload_n rfl rfl rfl rfl ?_
                                                  refine X_iload_n rfl rfl rfl rfl ?_
                                                  refine X_iload rfl rfl rfl ?_
                                                  refine X_iadd (v := (4 : Int32)) rfl rfl rfl ?_
                                                  refine X_iald (v := (b4 - (97 : Int32))) rfl rfl ((congrFun F.1 354).trans s_354) (vp_in_d rfl) rfl ?_
                                                  refine X_ishl (v := ((1 : Int32) <<< ((b4 - (97 : Int32)) &&& 31))) rfl rfl rfl ?_
                                                  refine X_ior (v := ((((((0 : Int32) ||| ((1 : Int32) <<< ((b0 - (97 : Int32)) &&& 31))) ||| ((1 : Int32) <<< ((b1 - (97 : Int32)) &&& 31))) ||| ((1 : Int32) <<< ((b2 - (97 : Int32)) &&& 31))) ||| ((1 : Int32) <<< ((b3 - (97 : Int32)) &&& 31))) ||| ((1 : Int32) <<< ((b4 - (97 : Int32)) &&& 31)))) rfl rfl rfl ?_
                                                  refine X_istore (i := 5) (ls' := [some (.ref 2), some (.ref 354), some (.int (0 : Int32)), some (.int (7 : Int32)), some (.int s), some (.int ((((((0 : Int32) ||| ((1 : Int32) <<< ((b0 - (97 : Int32)) &&& 31))) ||| ((1 : Int32) <<< ((b1 - (97 : Int32)) &&& 31))) ||| ((1 : Int32) <<< ((b2 - (97 : Int32)) &&& 31))) ||| ((1 : Int32) <<< ((b3 - (97 : Int32)) &&& 31))) ||| ((1 : Int32) <<< ((b4 - (97 : Int32)) &&& 31)))), some (.int (4 : Int32))]) rfl rfl (Nat.le_of_ble_eq_true rfl) rfl ?_
                                                  refine X_iinc (v := (5 : Int32)) (ls' := [some (.ref 2), some (.ref 354), some (.int (0 : Int32)), some (.int (7 : Int32)), some (.int s), some (.int ((((((0 : Int32) ||| ((1 : Int32) <<< ((b0 - (97 : Int32)) &&& 31))) ||| ((1 : Int32) <<< ((b1 - (97 : Int32)) &&& 31))) ||| ((1 : Int32) <<< ((b2 - (97 : Int32)) &&& 31))) ||| ((1 : Int32) <<< ((b3 - (97 : Int32)) &&& 31))) ||| ((1 : Int32) <<< ((b4 - (97 : Int32)) &&& 31)))), some (.int (5 : Int32))]) rfl rfl rfl rfl rfl ?_
                                                  refine LW_goto (tgt := 66) rfl rfl ?_
                                                  refine X_iload rfl rfl rfl ?_
                                                  refine X_iload_n rfl rfl rfl rfl ?_
                                                  refine X_icmp_ge (tgt := 112) rfl rfl rfl (fun q => absurd q (by decide)) (fun _ => ?_)
                                                  refine X_aload_n rfl rfl rfl rfl ?_
                                                  refine X_getR (a := 6) rfl rfl rfl ((congrFun F.1 2).trans s_2) rfl ((congrFun (F.2.1 2 (by decide)) 5).trans r_2_5) ?_
                                                  refine X_aload_n rfl rfl rfl rfl ?_
                                                  refine X_getI (v := (0 : Int32)) rfl rfl rfl ((congrFun F.1 2).trans s_2) rfl ((congrFun (F.2.2 2 (by decide)).1 0).trans i_2_0) ?_
                                                  refine X_bipush (v := (8 : Int32)) rfl rfl rfl ?_
                                                  refine X_imul (v := (0 : Int32)) rfl rfl rfl ?_
                                                  refine X_iload rfl rfl rfl ?_
                                                  refine X_iadd (v := (5 : Int32)) rfl rfl rfl ?_
                                                  refine X_aload_n rfl rfl rfl rfl ?_
                                                  refine X_iload_n rfl rfl rfl rfl ?_
                                                  refine X_iload rfl rfl rfl ?_
                                                  refine X_iadd (v := (5 : Int32)) rfl rfl rfl ?_
                                                  refine X_iald (v := (b5 - (97 : Int32))) rfl rfl ((congrFun F.1 354).trans s_354) (vp_in_d rfl) rfl ?_
                                                  refine X_iast (k0 := 5) rfl rfl ((congrFun F.1 6).trans s_6) (vp_in_d rfl) rfl ?_
                                                  refine X_iload rfl rfl rfl ?_
                                                  refine X_iconst (v := (1 : Int32)) rfl rfl rfl ?_
                                                  refine X_aload_n rfl rfl rfl rfl ?_
                                                  refine X_iload_n rfl rfl rfl rfl ?_
                                                  refine X_iload rfl rfl rfl ?_
                                                  refine X_iadd (v := (5 : Int32)) rfl rfl rfl ?_
                                                  refine X_iald (v := (b5 - (97 : Int32))) rfl rfl ((congrFun F.1 354).trans s_354) (vp_in_d rfl) rfl ?_
                                                  refine X_ishl (v := ((1 : Int32) <<< ((b5 - (97 : Int32)) &&& 31))) rfl rfl rfl ?_
                                                  refine X_ior (v := (((((((0 : Int32) ||| ((1 : Int32) <<< ((b0 - (97 : Int32)) &&& 31))) ||| ((1 : Int32) <<< ((b1 - (97 : Int32)) &&& 31))) ||| ((1 : Int32) <<< ((b2 - (97 : Int32)) &&& 31))) ||| ((1 : Int32) <<< ((b3 - (97 : Int32)) &&& 31))) ||| ((1 : Int32) <<< ((b4 - (97 : Int32)) &&& 31))) ||| ((1 : Int32) <<< ((b5 - (97 : Int32)) &&& 31)))) rfl rfl rfl ?_
                                                  refine X_istore (i := 5) (ls' := [some (.ref 2), some (.ref 354), some (.int (0 : Int32)), some (.int (7 : Int32)), some (.int s), some (.int (((((((0 : Int32) ||| ((1 : Int32) <<< ((b0 - (97 : Int32)) &&& 31))) ||| ((1 : Int32) <<< ((b1 - (97 : Int32)) &&& 31))) ||| ((1 : Int32) <<< ((b2 - (97 : Int32)) &&& 31))) ||| ((1 : Int32) <<< ((b3 - (97 : Int32)) &&& 31))) ||| ((1 : Int32) <<< ((b4 - (97 : Int32)) &&& 31))) ||| ((1 : Int32) <<< ((b5 - (97 : Int32)) &&& 31)))), some (.int (5 : Int32))]) rfl rfl (Nat.le_of_ble_eq_true rfl) rfl ?_
                                                  refine X_iinc (v := (6 : Int32)) (ls' := [some (.ref 2), some (.ref 354), some (.int (0 : Int32)), some (.int (7 : Int32)), some (.int s), some (.int (((((((0 : Int32) ||| ((1 : Int32) <<< ((b0 - (97 : Int32)) &&& 31))) ||| ((1 : Int32) <<< ((b1 - (97 : Int32)) &&& 31))) ||| ((1 : Int32) <<< ((b2 - (97 : Int32)) &&& 31))) ||| ((1 : Int32) <<< ((b3 - (97 : Int32)) &&& 31))) ||| ((1 : Int32) <<< ((b4 - (97 : Int32)) &&& 31))) ||| ((1 : Int32) <<< ((b5 - (97 : Int32)) &&& 31)))), some (.int (6 : Int32))]) rfl rfl rfl rfl rfl ?_
                                                  refine LW_goto (tgt := 66) rfl rfl ?_
                                                  refine X_iload rfl rfl rfl ?_
                                                  refine X_iload_n rfl rfl rfl rfl ?_
                                                  refine X_icmp_ge (tgt := 112) rfl rfl rfl (fun q => absurd q (by decide)) (fun _ => ?_)
                                                  refine X_aload_n rfl rfl rfl rfl ?_
                                                  refine X_getR (a := 6) rfl rfl rfl ((congrFun F.1 2).trans s_2) rfl ((congrFun (F.2.1 2 (by decide)) 5).trans r_2_5) ?_
                                                  refine X_aload_n rfl rfl rfl rfl ?_
                                                  refine X_getI (v := (0 : Int32)) rfl rfl rfl ((congrFun F.1 2).trans s_2) rfl ((congrFun (F.2.2 2 (by decide)).1 0).trans i_2_0) ?_
                                                  refine X_bipush (v := (8 : Int32)) rfl rfl rfl ?_
                                                  refine X_imul (v := (0 : Int32)) rfl rfl rfl ?_
                                                  refine X_iload rfl rfl rfl ?_
                                                  refine X_iadd (v := (6 : Int32)) rfl rfl rfl ?_
                                                  refine X_aload_n rfl rfl rfl rfl ?_
                                                  refine X_iload_n rfl rfl rfl rfl ?_
                                                  refine X_iload rfl rfl rfl ?_
                                                  refine X_iadd (v := (6 : Int32)) rfl rfl rfl ?_
                                                  refine X_iald (v := (b6 - (97 : Int32))) rfl rfl ((congrFun F.1 354).trans s_354) (vp_in_d rfl) rfl ?_
                                                  refine X_iast (k0 := 6) rfl rfl ((congrFun F.1 6).trans s_6) (vp_in_d rfl) rfl ?_
                                                  refine X_iload rfl rfl rfl ?_
                                                  refine X_iconst (v := (1 : Int32)) rfl rfl rfl ?_
                                                  refine X_aload_n rfl rfl rfl rfl ?_
                                                  refine X_iload_n rfl rfl rfl rfl ?_
                                                  refine X_iload rfl rfl rfl ?_
                                                  refine X_iadd (v := (6 : Int32)) rfl rfl rfl ?_
                                                  refine X_iald (v := (b6 - (97 : Int32))) rfl rfl ((congrFun F.1 354).trans s_354) (vp_in_d rfl) rfl ?_
                                                  refine X_ishl (v := ((1 : Int32) <<< ((b6 - (97 : Int32)) &&& 31))) rfl rfl rfl ?_
                                                  refine X_ior (v := ((((((((0 : Int32) ||| ((1 : Int32) <<< ((b0 - (97 : Int32)) &&& 31))) ||| ((1 : Int32) <<< ((b1 - (97 : Int32)) &&& 31))) ||| ((1 : Int32) <<< ((b2 - (97 : Int32)) &&& 31))) ||| ((1 : Int32) <<< ((b3 - (97 : Int32)) &&& 31))) ||| ((1 : Int32) <<< ((b4 - (97 : Int32)) &&& 31))) ||| ((1 : Int32) <<< ((b5 - (97 : Int32)) &&& 31))) ||| ((1 : Int32) <<< ((b6 - (97 : Int32)) &&& 31)))) rfl rfl rfl ?_
                                                  refine X_istore (i := 5) (ls' := [some (.ref 2), some (.ref 354), some (.int (0 : Int32)), some (.int (7 : Int32)), some (.int s), some (.int ((((((((0 : Int32) ||| ((1 : Int32) <<< ((b0 - (97 : Int32)) &&& 31))) ||| ((1 : Int32) <<< ((b1 - (97 : Int32)) &&& 31))) ||| ((1 : Int32) <<< ((b2 - (97 : Int32)) &&& 31))) ||| ((1 : Int32) <<< ((b3 - (97 : Int32)) &&& 31))) ||| ((1 : Int32) <<< ((b4 - (97 : Int32)) &&& 31))) ||| ((1 : Int32) <<< ((b5 - (97 : Int32)) &&& 31))) ||| ((1 : Int32) <<< ((b6 - (97 : Int32)) &&& 31)))), some (.int (6 : Int32))]) rfl rfl (Nat.le_of_ble_eq_true rfl) rfl ?_
                                                  refine X_iinc (v := (7 : Int32)) (ls' := [some (.ref 2), some (.ref 354), some (.int (0 : Int32)), some (.int (7 : Int32)), some (.int s), some (.int ((((((((0 : Int32) ||| ((1 : Int32) <<< ((b0 - (97 : Int32)) &&& 31))) ||| ((1 : Int32) <<< ((b1 - (97 : Int32)) &&& 31))) ||| ((1 : Int32) <<< ((b2 - (97 : Int32)) &&& 31))) ||| ((1 : Int32) <<< ((b3 - (97 : Int32)) &&& 31))) ||| ((1 : Int32) <<< ((b4 - (97 : Int32)) &&& 31))) ||| ((1 : Int32) <<< ((b5 - (97 : Int32)) &&& 31))) ||| ((1 : Int32) <<< ((b6 - (97 : Int32)) &&& 31)))), some (.int (7 : Int32))]) rfl rfl rfl rfl rfl ?_
                                                  refine LW_goto (tgt := 66) rfl rfl ?_
                                                  refine X_iload rfl rfl rfl ?_
                                                  refine X_iload_n rfl rfl rfl rfl ?_
                                                  refine X_icmp_ge (tgt := 112) rfl rfl rfl (fun _ => ?_) (fun q => absurd q (by decide))
                                                  refine X_aload_n rfl rfl rfl rfl ?_
                                                  refine X_getR (a := 3) rfl rfl rfl ((congrFun F.1 2).trans s_2) rfl ((congrFun (F.2.1 2 (by decide)) 2).trans r_2_2) ?_
                                                  refine X_aload_n rfl rfl rfl rfl ?_
                                                  refine X_getI (v := (0 : Int32)) rfl rfl rfl ((congrFun F.1 2).trans s_2) rfl ((congrFun (F.2.2 2 (by decide)).1 0).trans i_2_0) ?_
                                                  refine X_iload_n rfl rfl rfl rfl ?_
                                                  refine X_iast (k0 := 0) rfl rfl ((congrFun F.1 3).trans s_3) (vp_in_d rfl) rfl ?_
                                                  refine X_aload_n rfl rfl rfl rfl ?_
                                                  refine X_getR (a := 4) rfl rfl rfl ((congrFun F.1 2).trans s_2) rfl ((congrFun (F.2.1 2 (by decide)) 3).trans r_2_3) ?_
                                                  refine X_aload_n rfl rfl rfl rfl ?_
                                                  refine X_getI (v := (0 : Int32)) rfl rfl rfl ((congrFun F.1 2).trans s_2) rfl ((congrFun (F.2.2 2 (by decide)).1 0).trans i_2_0) ?_
                                                  refine X_iload rfl rfl rfl ?_
                                                  refine X_iast (k0 := 0) rfl rfl ((congrFun F.1 4).trans s_4) (vp_in_d rfl) rfl ?_
                                                  refine X_aload_n rfl rfl rfl rfl ?_
                                                  refine X_getR (a := 5) rfl rfl rfl ((congrFun F.1 2).trans s_2) rfl ((congrFun (F.2.1 2 (by decide)) 4).trans r_2_4) ?_
                                                  refine X_aload_n rfl rfl rfl rfl ?_
                                                  refine X_getI (v := (0 : Int32)) rfl rfl rfl ((congrFun F.1 2).trans s_2) rfl ((congrFun (F.2.2 2 (by decide)).1 0).trans i_2_0) ?_
                                                  refine X_iload rfl rfl rfl ?_
                                                  refine X_iast (k0 := 0) rfl rfl ((congrFun F.1 5).trans s_5) (vp_in_d rfl) rfl ?_
                                                  refine X_aload_n rfl rfl rfl rfl ?_
                                                  refine X_dup rfl rfl rfl ?_
                                                  refine X_getI (v := (0 : Int32)) rfl rfl rfl ((congrFun F.1 2).trans s_2) rfl ((congrFun (F.2.2 2 (by decide)).1 0).trans i_2_0) ?_
                                                  refine X_iconst (v := (1 : Int32)) rfl rfl rfl ?_
                                                  refine X_iadd (v := (1 : Int32)) rfl rfl rfl ?_
                                                  refine X_putI rfl rfl rfl ((congrFun F.1 2).trans s_2) rfl rfl rfl rfl ?_
                                                  refine X_aload_n rfl rfl rfl rfl ?_
                                                  refine X_getI (v := (1 : Int32)) rfl rfl rfl ((congrFun F.1 2).trans s_2) rfl rfl ?_
                                                  refine X_iconst (v := (1 : Int32)) rfl rfl rfl ?_
                                                  refine X_isub (v := (0 : Int32)) rfl rfl rfl ?_
                                                  refine LW_ireturn (st := []) rfl rfl rfl ?_
                                                  refine LW_ireturn (st := []) rfl rfl rfl ⟨congrArg (fun z => some (Value.int z)) ?_, (Fr_putI (Fr_putI (Fr_putI (Fr_putI (Fr_putI (Fr_putI (Fr_putI (Fr_putI (Fr_putI (Fr_putI (Fr_putI (Fr_putI (Fr_putI (Fr_putI (Fr_putI (Fr_putI (Fr_putI (Fr_putI E (by decide)) (by decide)) (by decide)) (by decide)) (by decide)) (by decide)) (by decide)) (by decide)) (by decide)) (by decide)) (by decide)) (by decide)) (by decide)) (by decide)) (by decide)) (by decide)) (by decide)) (by decide))⟩
                                                  simp only [Int32.lt_iff_toInt_lt, Int32.le_iff_toInt_le, ← Int32.toInt_inj, (show (0 : Int32).toInt = 0 from rfl), (show (9 : Int32).toInt = 9 from rfl), (show (97 : Int32).toInt = 97 from rfl), (show (122 : Int32).toInt = 122 from rfl)] at h1 h2 h3 h4 h5 h6 h7 h8 h9 h10 h11 h12 h13 h14 h15 h16 h17 h18 h19 h20 h21 h22 h27 h28
                                                  unfold f_wordB
                                                  rw [if_pos (by omega)]
                                          · refine X_iconst (v := (-1 : Int32)) rfl rfl rfl ?_
                                            refine LW_ireturn (st := []) rfl rfl rfl ⟨congrArg (fun z => some (Value.int z)) ?_, (Fr_putI (Fr_putI (Fr_putI (Fr_putI (Fr_putI (Fr_putI E (by decide)) (by decide)) (by decide)) (by decide)) (by decide)) (by decide))⟩
                                            simp only [Int32.lt_iff_toInt_lt, Int32.le_iff_toInt_le, ← Int32.toInt_inj, (show (0 : Int32).toInt = 0 from rfl), (show (97 : Int32).toInt = 97 from rfl), (show (122 : Int32).toInt = 122 from rfl)] at h1 h2 h3 h4 h5 h6 h7 h8 h9 h10 h11 h12 h13 h14 h15 h16 h17 h18 h19 h20 h21
                                            unfold f_wordB
                                            rw [if_neg (by omega)]
                                      · refine X_iconst (v := (1 : Int32)) rfl rfl rfl ?_
                                        refine X_istore (i := 5) (ls' := [some (.ref 0), some (.int a), some (.int c), some (.int s), some (.int (6 : Int32)), some (.int (1 : Int32)), some (.int (6 : Int32)), some (.int b6)]) rfl rfl (Nat.le_of_ble_eq_true rfl) rfl ?_
                                        refine LW_goto (tgt := 88) rfl rfl ?_
                                        refine X_iinc (v := (7 : Int32)) (ls' := [some (.ref 0), some (.int a), some (.int c), some (.int s), some (.int (6 : Int32)), some (.int (1 : Int32)), some (.int (7 : Int32)), some (.int b6)]) rfl rfl rfl rfl rfl ?_
                                        refine LW_goto (tgt := 9) rfl rfl ?_
                                        refine X_iload rfl rfl rfl ?_
                                        refine X_bipush (v := (8 : Int32)) rfl rfl rfl ?_
                                        refine X_icmp_ge (tgt := 94) rfl rfl rfl (fun q => absurd q (by decide)) (fun _ => ?_)
                                        refine X_iload rfl rfl rfl ?_
                                        refine X_iconst (v := (4 : Int32)) rfl rfl rfl ?_
                                        refine X_icmp_ge (tgt := 26) rfl rfl rfl (fun _ => ?_) (fun q => absurd q (by decide))
                                        refine X_iload_n rfl rfl rfl rfl ?_
                                        refine X_bipush (v := (8 : Int32)) rfl rfl rfl ?_
                                        refine X_iload rfl rfl rfl ?_
                                        refine X_iconst (v := (4 : Int32)) rfl rfl rfl ?_
                                        refine X_irem (v := (3 : Int32)) rfl rfl (by decide) rfl ?_
                                        refine X_imul (v := (24 : Int32)) rfl rfl rfl ?_
                                        refine X_iushr (v := ((c).toUInt32 >>> (((24 : Int32)).toUInt32 &&& Int32.toUInt32 31)).toInt32) rfl rfl rfl ?_
                                        refine X_sipush (v := (255 : Int32)) rfl rfl rfl ?_
                                        refine X_iand (v := b7) rfl rfl hb7 ?_
                                        refine X_istore (i := 7) (ls' := [some (.ref 0), some (.int a), some (.int c), some (.int s), some (.int (6 : Int32)), some (.int (1 : Int32)), some (.int (7 : Int32)), some (.int b7)]) rfl rfl (Nat.le_of_ble_eq_true rfl) rfl ?_
                                        refine X_iload rfl rfl rfl ?_
                                        refine X_if_ne (tgt := 52) rfl rfl rfl (fun h29 => ?_) (fun h29 => ?_)
                                        · refine X_iload rfl rfl rfl ?_
                                          refine X_if_ne (tgt := 71) rfl rfl rfl (fun _ => ?_) (fun q => absurd q (by decide))
                                          refine X_iconst (v := (-1 : Int32)) rfl rfl rfl ?_
                                          refine LW_ireturn (st := []) rfl rfl rfl ⟨congrArg (fun z => some (Value.int z)) ?_, (Fr_putI (Fr_putI (Fr_putI (Fr_putI (Fr_putI (Fr_putI E (by decide)) (by decide)) (by decide)) (by decide)) (by decide)) (by decide))⟩
                                          simp only [Int32.lt_iff_toInt_lt, Int32.le_iff_toInt_le, ← Int32.toInt_inj, (show (0 : Int32).toInt = 0 from rfl), (show (97 : Int32).toInt = 97 from rfl), (show (122 : Int32).toInt = 122 from rfl)] at h1 h2 h3 h4 h5 h6 h7 h8 h9 h10 h11 h12 h13 h14 h15 h16 h17 h18 h19 h29
                                          unfold f_wordB
                                          rw [if_neg (by omega)]
                                        · refine X_iconst (v := (1 : Int32)) rfl rfl rfl ?_
                                          refine X_istore (i := 5) (ls' := [some (.ref 0), some (.int a), some (.int c), some (.int s), some (.int (6 : Int32)), some (.int (1 : Int32)), some (.int (7 : Int32)), some (.int b7)]) rfl rfl (Nat.le_of_ble_eq_true rfl) rfl ?_
                                          refine LW_goto (tgt := 88) rfl rfl ?_
                                          refine X_iinc (v := (8 : Int32)) (ls' := [some (.ref 0), some (.int a), some (.int c), some (.int s), some (.int (6 : Int32)), some (.int (1 : Int32)), some (.int (8 : Int32)), some (.int b7)]) rfl rfl rfl rfl rfl ?_
                                          refine LW_goto (tgt := 9) rfl rfl ?_
                                          refine X_iload rfl rfl rfl ?_
                                          refine X_bipush (v := (8 : Int32)) rfl rfl rfl ?_
                                          refine X_icmp_ge (tgt := 94) rfl rfl rfl (fun _ => ?_) (fun q => absurd q (by decide))
                                          refine X_aload_n rfl rfl rfl rfl ?_
                                          refine X_getR (a := 1) rfl rfl rfl ((congrFun F.1 0).trans s_0) rfl ((congrFun (F.2.1 0 (by decide)) 0).trans r_0_0) ?_
                                          refine X_getR (a := 2) rfl rfl rfl ((congrFun F.1 1).trans s_1) rfl ((congrFun (F.2.1 1 (by decide)) 0).trans r_1_0) ?_
                                          refine X_aload_n rfl rfl rfl rfl ?_
                                          refine X_getR (a := 354) rfl rfl rfl ((congrFun F.1 0).trans s_0) rfl ((congrFun (F.2.1 0 (by decide)) 9).trans r_0_9) ?_
                                          refine X_iconst (v := (0 : Int32)) rfl rfl rfl ?_
                                          refine X_iload rfl rfl rfl ?_
                                          refine X_iload_n rfl rfl rfl rfl ?_
                                          refine X_callV (as := [.ref 354, .int (0 : Int32), .int (6 : Int32), .int s]) (st := []) rfl rfl rfl (by decide) rfl (Nat.le_of_ble_eq_true rfl) (by decide) (Nat.le_of_ble_eq_true rfl) rfl ((congrFun F.1 2).trans s_2) (by decide) ?_
                                          refine LW_ls (ls' := [some (.ref 2), some (.ref 354), some (.int (0 : Int32)), some (.int (6 : Int32)), some (.int s), none, none]) rfl ?_
                                          refine X_iload_n rfl rfl rfl rfl ?_
                                          refine X_iconst (v := (1 : Int32)) rfl rfl rfl ?_
                                          refine X_icmp_lt (tgt := 23) rfl rfl rfl (fun q => absurd q (by decide)) (fun _ => ?_)
                                          refine X_iload_n rfl rfl rfl rfl ?_
                                          refine X_bipush (v := (8 : Int32)) rfl rfl rfl ?_
                                          refine X_icmp_gt (tgt := 23) rfl rfl rfl (fun q => absurd q (by decide)) (fun _ => ?_)
                                          refine X_iload_n rfl rfl rfl rfl ?_
                                          refine X_if_lt (tgt := 23) rfl rfl rfl (fun q => absurd q (by decide)) (fun _ => ?_)
                                          refine X_iload_n rfl rfl rfl rfl ?_
                                          refine X_iload_n rfl rfl rfl rfl ?_
                                          refine X_iadd (v := (6 : Int32)) rfl rfl rfl ?_
                                          refine X_aload_n rfl rfl rfl rfl ?_
                                          refine X_alen (t0 := 0) (v := (8 : Int32)) rfl rfl ((congrFun F.1 354).trans s_354) rfl rfl ?_
                                          refine X_icmp_le (tgt := 25) rfl rfl rfl (fun _ => ?_) (fun q => absurd q (by decide))
                                          refine X_iload rfl rfl rfl ?_
                                          refine X_if_lt (tgt := 46) rfl rfl rfl (fun h30 => ?_) (fun h30 => ?_)
                                          · refine X_iconst (v := (-1 : Int32)) rfl rfl rfl ?_
                                            refine LW_ireturn (st := []) rfl rfl rfl ?_
                                            refine LW_ireturn (st := []) rfl rfl rfl ⟨congrArg (fun z => some (Value.int z)) ?_, (Fr_putI (Fr_putI (Fr_putI (Fr_putI (Fr_putI (Fr_putI E (by decide)) (by decide)) (by decide)) (by decide)) (by decide)) (by decide))⟩
                                            simp only [Int32.lt_iff_toInt_lt, Int32.le_iff_toInt_le, ← Int32.toInt_inj, (show (0 : Int32).toInt = 0 from rfl), (show (97 : Int32).toInt = 97 from rfl), (show (122 : Int32).toInt = 122 from rfl)] at h1 h2 h3 h4 h5 h6 h7 h8 h9 h10 h11 h12 h13 h14 h15 h16 h17 h18 h19 h29 h30
                                            unfold f_wordB
                                            rw [if_neg (by omega)]
                                          · refine X_iload rfl rfl rfl ?_
                                            refine X_bipush (v := (9 : Int32)) rfl rfl rfl ?_
                                            refine X_icmp_gt (tgt := 46) rfl rfl rfl (fun h31 => ?_) (fun h31 => ?_)
                                            · refine X_iconst (v := (-1 : Int32)) rfl rfl rfl ?_
                                              refine LW_ireturn (st := []) rfl rfl rfl ?_
                                              refine LW_ireturn (st := []) rfl rfl rfl ⟨congrArg (fun z => some (Value.int z)) ?_, (Fr_putI (Fr_putI (Fr_putI (Fr_putI (Fr_putI (Fr_putI E (by decide)) (by decide)) (by decide)) (by decide)) (by decide)) (by decide))⟩
                                              simp only [Int32.lt_iff_toInt_lt, Int32.le_iff_toInt_le, ← Int32.toInt_inj, (show (0 : Int32).toInt = 0 from rfl), (show (9 : Int32).toInt = 9 from rfl), (show (97 : Int32).toInt = 97 from rfl), (show (122 : Int32).toInt = 122 from rfl)] at h1 h2 h3 h4 h5 h6 h7 h8 h9 h10 h11 h12 h13 h14 h15 h16 h17 h18 h19 h29 h30 h31
                                              unfold f_wordB
                                              rw [if_neg (by omega)]
                                            · refine X_aload_n rfl rfl rfl rfl ?_
                                              refine X_getI (v := (0 : Int32)) rfl rfl rfl ((congrFun F.1 2).trans s_2) rfl ((congrFun (F.2.2 2 (by decide)).1 0).trans i_2_0) ?_
                                              refine X_bipush (v := (24 : Int32)) rfl rfl rfl ?_
                                              refine X_icmp_lt (tgt := 48) rfl rfl rfl (fun _ => ?_) (fun q => absurd q (by decide))
                                              refine X_aload_n rfl rfl rfl rfl ?_
                                              refine X_aload_n rfl rfl rfl rfl ?_
                                              refine X_iload_n rfl rfl rfl rfl ?_
                                              refine X_iload_n rfl rfl rfl rfl ?_
                                              refine X_callV (as := [.ref 354, .int (0 : Int32), .int (6 : Int32)]) (st := []) rfl rfl rfl (by decide) rfl (Nat.le_of_ble_eq_true rfl) (by decide) (Nat.le_of_ble_eq_true rfl) rfl ((congrFun F.1 2).trans s_2) (by decide) ?_
                                              refine LW_ls (ls' := [some (.ref 2), some (.ref 354), some (.int (0 : Int32)), some (.int (6 : Int32)), none, none, none]) rfl ?_
                                              refine X_iconst (v := (0 : Int32)) rfl rfl rfl ?_
                                              refine X_istore (i := 4) (ls' := [some (.ref 2), some (.ref 354), some (.int (0 : Int32)), some (.int (6 : Int32)), some (.int (0 : Int32)), none, none]) rfl rfl (Nat.le_of_ble_eq_true rfl) rfl ?_
                                              refine X_iload rfl rfl rfl ?_
                                              refine X_aload_n rfl rfl rfl rfl ?_
                                              refine X_getI (v := (0 : Int32)) rfl rfl rfl ((congrFun F.1 2).trans s_2) rfl ((congrFun (F.2.2 2 (by decide)).1 0).trans i_2_0) ?_
                                              refine X_icmp_ge (tgt := 91) rfl rfl rfl (fun _ => ?_) (fun q => absurd q (by decide))
                                              refine X_iconst (v := (0 : Int32)) rfl rfl rfl ?_
                                              refine LW_ireturn (st := []) rfl rfl rfl ?_
                                              refine X_if_eq (tgt := 60) rfl rfl rfl (fun _ => ?_) (fun q => absurd q (by decide))
                                              refine X_iconst (v := (0 : Int32)) rfl rfl rfl ?_
                                              refine X_istore (i := 5) (ls' := [some (.ref 2), some (.ref 354), some (.int (0 : Int32)), some (.int (6 : Int32)), some (.int s), some (.int (0 : Int32)), none]) rfl rfl (Nat.le_of_ble_eq_true rfl) rfl ?_
                                              refine X_iconst (v := (0 : Int32)) rfl rfl rfl ?_
                                              refine X_istore (i := 6) (ls' := [some (.ref 2), some (.ref 354), some (.int (0 : Int32)), some (.int (6 : Int32)), some (.int s), some (.int (0 : Int32)), some (.int (0 : Int32))]) rfl rfl (Nat.le_of_ble_eq_true rfl) rfl ?_
                                              refine X_iload rfl rfl rfl ?_
                                              refine X_iload_n rfl rfl rfl rfl ?_
                                              refine X_icmp_ge (tgt := 112) rfl rfl rfl (fun q => absurd q (by decide)) (fun _ => ?_)
                                              refine X_aload_n rfl rfl rfl rfl ?_
                                              refine X_getR (a := 6) rfl rfl rfl ((congrFun F.1 2).trans s_2) rfl ((congrFun (F.2.1 2 (by decide)) 5).trans r_2_5) ?_
                                              refine X_aload_n rfl rfl rfl rfl ?_
                                              refine X_getI (v := (0 : Int32)) rfl rfl rfl ((congrFun F.1 2).trans s_2) rfl ((congrFun (F.2.2 2 (by decide)).1 0).trans i_2_0) ?_
                                              refine X_bipush (v := (8 : Int32)) rfl rfl rfl ?_
                                              refine X_imul (v := (0 : Int32)) rfl rfl rfl ?_
                                              refine X_iload rfl rfl rfl ?_
                                              refine X_iadd (v := (0 : Int32)) rfl rfl rfl ?_
                                              refine X_aload_n rfl rfl rfl rfl ?_
                                              refine X_iload_n rfl rfl rfl rfl ?_
                                              refine X_iload rfl rfl rfl ?_
                                              refine X_iadd (v := (0 : Int32)) rfl rfl rfl ?_
                                              refine X_iald (v := (b0 - (97 : Int32))) rfl rfl ((congrFun F.1 354).trans s_354) (vp_in_d rfl) rfl ?_
                                              refine X_iast (k0 := 0) rfl rfl ((congrFun F.1 6).trans s_6) (vp_in_d rfl) rfl ?_
                                              refine X_iload rfl rfl rfl ?_
                                              refine X_iconst (v := (1 : Int32)) rfl rfl rfl ?_
                                              refine X_aload_n rfl rfl rfl rfl ?_
                                              refine X_iload_n rfl rfl rfl rfl ?_
                                              refine X_iload rfl rfl rfl ?_
                                              refine X_iadd (v := (0 : Int32)) rfl rfl rfl ?_
                                              refine X_iald (v := (b0 - (97 : Int32))) rfl rfl ((congrFun F.1 354).trans s_354) (vp_in_d rfl) rfl ?_
                                              refine X_ishl (v := ((1 : Int32) <<< ((b0 - (97 : Int32)) &&& 31))) rfl rfl rfl ?_
                                              refine X_ior (v := ((0 : Int32) ||| ((1 : Int32) <<< ((b0 - (97 : Int32)) &&& 31)))) rfl rfl rfl ?_
                                              refine X_istore (i := 5) (ls' := [some (.ref 2), some (.ref 354), some (.int (0 : Int32)), some (.int (6 : Int32)), some (.int s), some (.int ((0 : Int32) ||| ((1 : Int32) <<< ((b0 - (97 : Int32)) &&& 31)))), some (.int (0 : Int32))]) rfl rfl (Nat.le_of_ble_eq_true rfl) rfl ?_
                                              refine X_iinc (v := (1 : Int32)) (ls' := [some (.ref 2), some (.ref 354), some (.int (0 : Int32)), some (.int (6 : Int32)), some (.int s), some (.int ((0 : Int32) ||| ((1 : Int32) <<< ((b0 - (97 : Int32)) &&& 31)))), some (.int (1 : Int32))]) rfl rfl rfl rfl rfl ?_
                                              refine LW_goto (tgt := 66) rfl rfl ?_
                                              refine X_iload rfl rfl rfl ?_
                                              refine X_iload_n rfl rfl rfl rfl ?_
                                              refine X_icmp_ge (tgt := 112) rfl rfl rfl (fun q => absurd q (by decide)) (fun _ => ?_)
                                              refine X_aload_n rfl rfl rfl rfl ?_
                                              refine X_getR (a := 6) rfl rfl rfl ((congrFun F.1 2).trans s_2) rfl ((congrFun (F.2.1 2 (by decide)) 5).trans r_2_5) ?_
                                              refine X_aload_n rfl rfl rfl rfl ?_
                                              refine X_getI (v := (0 : Int32)) rfl rfl rfl ((congrFun F.1 2).trans s_2) rfl ((congrFun (F.2.2 2 (by decide)).1 0).trans i_2_0) ?_
                                              refine X_bipush (v := (8 : Int32)) rfl rfl rfl ?_
                                              refine X_imul (v := (0 : Int32)) rfl rfl rfl ?_
                                              refine X_iload rfl rfl rfl ?_
                                              refine X_iadd (v := (1 : Int32)) rfl rfl rfl ?_
                                              refine X_aload_n rfl rfl rfl rfl ?_
                                              refine X_iload_n rfl rfl rfl rfl ?_
                                              refine X_iload rfl rfl rfl ?_
                                              refine X_iadd (v := (1 : Int32)) rfl rfl rfl ?_
                                              refine X_iald (v := (b1 - (97 : Int32))) rfl rfl ((congrFun F.1 354).trans s_354) (vp_in_d rfl) rfl ?_
                                              refine X_iast (k0 := 1) rfl rfl ((congrFun F.1 6).trans s_6) (vp_in_d rfl) rfl ?_
                                              refine X_iload rfl rfl rfl ?_
                                              refine X_iconst (v := (1 : Int32)) rfl rfl rfl ?_
                                              refine X_aload_n rfl rfl rfl rfl ?_
                                              refine X_iload_n rfl rfl rfl rfl ?_
                                              refine X_iload rfl rfl rfl ?_
                                              refine X_iadd (v := (1 : Int32)) rfl rfl rfl ?_
                                              refine X_iald (v := (b1 - (97 : Int32))) rfl rfl ((congrFun F.1 354).trans s_354) (vp_in_d rfl) rfl ?_
                                              refine X_ishl (v := ((1 : Int32) <<< ((b1 - (97 : Int32)) &&& 31))) rfl rfl rfl ?_
                                              refine X_ior (v := (((0 : Int32) ||| ((1 : Int32) <<< ((b0 - (97 : Int32)) &&& 31))) ||| ((1 : Int32) <<< ((b1 - (97 : Int32)) &&& 31)))) rfl rfl rfl ?_
                                              refine X_istore (i := 5) (ls' := [some (.ref 2), some (.ref 354), some (.int (0 : Int32)), some (.int (6 : Int32)), some (.int s), some (.int (((0 : Int32) ||| ((1 : Int32) <<< ((b0 - (97 : Int32)) &&& 31))) ||| ((1 : Int32) <<< ((b1 - (97 : Int32)) &&& 31)))), some (.int (1 : Int32))]) rfl rfl (Nat.le_of_ble_eq_true rfl) rfl ?_
                                              refine X_iinc (v := (2 : Int32)) (ls' := [some (.ref 2), some (.ref 354), some (.int (0 : Int32)), some (.int (6 : Int32)), some (.int s), some (.int (((0 : Int32) ||| ((1 : Int32) <<< ((b0 - (97 : Int32)) &&& 31))) ||| ((1 : Int32) <<< ((b1 - (97 : Int32)) &&& 31)))), some (.int (2 : Int32))]) rfl rfl rfl rfl rfl ?_
                                              refine LW_goto (tgt := 66) rfl rfl ?_
                                              refine X_iload rfl rfl rfl ?_
                                              refine X_iload_n rfl rfl rfl rfl ?_
                                              refine X_icmp_ge (tgt := 112) rfl rfl rfl (fun q => absurd q (by decide)) (fun _ => ?_)
                                              refine X_aload_n rfl rfl rfl rfl ?_
                                              refine X_getR (a := 6) rfl rfl rfl ((congrFun F.1 2).trans s_2) rfl ((congrFun (F.2.1 2 (by decide)) 5).trans r_2_5) ?_
                                              refine X_aload_n rfl rfl rfl rfl ?_
                                              refine X_getI (v := (0 : Int32)) rfl rfl rfl ((congrFun F.1 2).trans s_2) rfl ((congrFun (F.2.2 2 (by decide)).1 0).trans i_2_0) ?_
                                              refine X_bipush (v := (8 : Int32)) rfl rfl rfl ?_
                                              refine X_imul (v := (0 : Int32)) rfl rfl rfl ?_
                                              refine X_iload rfl rfl rfl ?_
                                              refine X_iadd (v := (2 : Int32)) rfl rfl rfl ?_
                                              refine X_aload_n rfl rfl rfl rfl ?_
                                              refine X_iload_n rfl rfl rfl rfl ?_
                                              refine X_iload rfl rfl rfl ?_
                                              refine X_iadd (v := (2 : Int32)) rfl rfl rfl ?_
                                              refine X_iald (v := (b2 - (97 : Int32))) rfl rfl ((congrFun F.1 354).trans s_354) (vp_in_d rfl) rfl ?_
                                              refine X_iast (k0 := 2) rfl rfl ((congrFun F.1 6).trans s_6) (vp_in_d rfl) rfl ?_
                                              refine X_iload rfl rfl rfl ?_
                                              refine X_iconst (v := (1 : Int32)) rfl rfl rfl ?_
                                              refine X_aload_n rfl rfl rfl rfl ?_
                                              refine X_iload_n rfl rfl rfl rfl ?_
                                              refine X_iload rfl rfl rfl ?_
                                              refine X_iadd (v := (2 : Int32)) rfl rfl rfl ?_
                                              refine X_iald (v := (b2 - (97 : Int32))) rfl rfl ((congrFun F.1 354).trans s_354) (vp_in_d rfl) rfl ?_
                                              refine X_ishl (v := ((1 : Int32) <<< ((b2 - (97 : Int32)) &&& 31))) rfl rfl rfl ?_
                                              refine X_ior (v := ((((0 : Int32) ||| ((1 : Int32) <<< ((b0 - (97 : Int32)) &&& 31))) ||| ((1 : Int32) <<< ((b1 - (97 : Int32)) &&& 31))) ||| ((1 : Int32) <<< ((b2 - (97 : Int32)) &&& 31)))) rfl rfl rfl ?_
                                              refine X_istore (i := 5) (ls' := [some (.ref 2), some (.ref 354), some (.int (0 : Int32)), some (.int (6 : Int32)), some (.int s), some (.int ((((0 : Int32) ||| ((1 : Int32) <<< ((b0 - (97 : Int32)) &&& 31))) ||| ((1 : Int32) <<< ((b1 - (97 : Int32)) &&& 31))) ||| ((1 : Int32) <<< ((b2 - (97 : Int32)) &&& 31)))), some (.int (2 : Int32))]) rfl rfl (Nat.le_of_ble_eq_true rfl) rfl ?_
                                              refine X_iinc (v := (3 : Int32)) (ls' := [some (.ref 2), some (.ref 354), some (.int (0 : Int32)), some (.int (6 : Int32)), some (.int s), some (.int ((((0 : Int32) ||| ((1 : Int32) <<< ((b0 - (97 : Int32)) &&& 31))) ||| ((1 : Int32) <<< ((b1 - (97 : Int32)) &&& 31))) ||| ((1 : Int32) <<< ((b2 - (97 : Int32)) &&& 31)))), some (.int (3 : Int32))]) rfl rfl rfl rfl rfl ?_
                                              refine LW_goto (tgt := 66) rfl rfl ?_
                                              refine X_iload rfl rfl rfl ?_
                                              refine X_iload_n rfl rfl rfl rfl ?_
                                              refine X_icmp_ge (tgt := 112) rfl rfl rfl (fun q => absurd q (by decide)) (fun _ => ?_)
                                              refine X_aload_n rfl rfl rfl rfl ?_
                                              refine X_getR (a := 6) rfl rfl rfl ((congrFun F.1 2).trans s_2) rfl ((congrFun (F.2.1 2 (by decide)) 5).trans r_2_5) ?_
                                              refine X_aload_n rfl rfl rfl rfl ?_
                                              refine X_getI (v := (0 : Int32)) rfl rfl rfl ((congrFun F.1 2).trans s_2) rfl ((congrFun (F.2.2 2 (by decide)).1 0).trans i_2_0) ?_
                                              refine X_bipush (v := (8 : Int32)) rfl rfl rfl ?_
                                              refine X_imul (v := (0 : Int32)) rfl rfl rfl ?_
                                              refine X_iload rfl rfl rfl ?_
                                              refine X_iadd (v := (3 : Int32)) rfl rfl rfl ?_
                                              refine X_aload_n rfl rfl rfl rfl ?_
                                              refine X_iload_n rfl rfl rfl rfl ?_
                                              refine X_iload rfl rfl rfl ?_
                                              refine X_iadd (v := (3 : Int32)) rfl rfl rfl ?_
                                              refine X_iald (v := (b3 - (97 : Int32))) rfl rfl ((congrFun F.1 354).trans s_354) (vp_in_d rfl) rfl ?_
                                              refine X_iast (k0 := 3) rfl rfl ((congrFun F.1 6).trans s_6) (vp_in_d rfl) rfl ?_
                                              refine X_iload rfl rfl rfl ?_
                                              refine X_iconst (v := (1 : Int32)) rfl rfl rfl ?_
                                              refine X_aload_n rfl rfl rfl rfl ?_
                                              refine X_iload_n rfl rfl rfl rfl ?_
                                              refine X_iload rfl rfl rfl ?_
                                              refine X_iadd (v := (3 : Int32)) rfl rfl rfl ?_
                                              refine X_iald (v := (b3 - (97 : Int32))) rfl rfl ((congrFun F.1 354).trans s_354) (vp_in_d rfl) rfl ?_
                                              refine X_ishl (v := ((1 : Int32) <<< ((b3 - (97 : Int32)) &&& 31))) rfl rfl rfl ?_
                                              refine X_ior (v := (((((0 : Int32) ||| ((1 : Int32) <<< ((b0 - (97 : Int32)) &&& 31))) ||| ((1 : Int32) <<< ((b1 - (97 : Int32)) &&& 31))) ||| ((1 : Int32) <<< ((b2 - (97 : Int32)) &&& 31))) ||| ((1 : Int32) <<< ((b3 - (97 : Int32)) &&& 31)))) rfl rfl rfl ?_
                                              refine X_istore (i := 5) (ls' := [some (.ref 2), some (.ref 354), some (.int (0 : Int32)), some (.int (6 : Int32)), some (.int s), some (.int (((((0 : Int32) ||| ((1 : Int32) <<< ((b0 - (97 : Int32)) &&& 31))) ||| ((1 : Int32) <<< ((b1 - (97 : Int32)) &&& 31))) ||| ((1 : Int32) <<< ((b2 - (97 : Int32)) &&& 31))) ||| ((1 : Int32) <<< ((b3 - (97 : Int32)) &&& 31)))), some (.int (3 : Int32))]) rfl rfl (Nat.le_of_ble_eq_true rfl) rfl ?_
                                              refine X_iinc (v := (4 : Int32)) (ls' := [some (.ref 2), some (.ref 354), some (.int (0 : Int32)), some (.int (6 : Int32)), some (.int s), some (.int (((((0 : Int32) ||| ((1 : Int32) <<< ((b0 - (97 : Int32)) &&& 31))) ||| ((1 : Int32) <<< ((b1 - (97 : Int32)) &&& 31))) ||| ((1 : Int32) <<< ((b2 - (97 : Int32)) &&& 31))) ||| ((1 : Int32) <<< ((b3 - (97 : Int32)) &&& 31)))), some (.int (4 : Int32))]) rfl rfl rfl rfl rfl ?_
                                              refine LW_goto (tgt := 66) rfl rfl ?_
                                              refine X_iload rfl rfl rfl ?_
                                              refine X_iload_n rfl rfl rfl rfl ?_
                                              refine X_icmp_ge (tgt := 112) rfl rfl rfl (fun q => absurd q (by decide)) (fun _ => ?_)
                                              refine X_aload_n rfl rfl rfl rfl ?_
                                              refine X_getR (a := 6) rfl rfl rfl ((congrFun F.1 2).trans s_2) rfl ((congrFun (F.2.1 2 (by decide)) 5).trans r_2_5) ?_
                                              refine X_aload_n rfl rfl rfl rfl ?_
                                              refine X_getI (v := (0 : Int32)) rfl rfl rfl ((congrFun F.1 2).trans s_2) rfl ((congrFun (F.2.2 2 (by decide)).1 0).trans i_2_0) ?_
                                              refine X_bipush (v := (8 : Int32)) rfl rfl rfl ?_
                                              refine X_imul (v := (0 : Int32)) rfl rfl rfl ?_
                                              refine X_iload rfl rfl rfl ?_
                                              refine X_iadd (v := (4 : Int32)) rfl rfl rfl ?_
                                              refine X_aload_n rfl rfl rfl rfl ?_
                                              refine X_iload_n rfl rfl rfl rfl ?_
                                              refine X_iload rfl rfl rfl ?_
                                              refine X_iadd (v := (4 : Int32)) rfl rfl rfl ?_
                                              refine X_iald (v := (b4 - (97 : Int32))) rfl rfl ((congrFun F.1 354).trans s_354) (vp_in_d rfl) rfl ?_
                                              refine X_iast (k0 := 4) rfl rfl ((congrFun F.1 6).trans s_6) (vp_in_d rfl) rfl ?_
                                              refine X_iload rfl rfl rfl ?_
                                              refine X_iconst (v := (1 : Int32)) rfl rfl rfl ?_
                                              refine X_aload_n rfl rfl rfl rfl ?_
                                              refine X_iload_n rfl rfl rfl rfl ?_
                                              refine X_iload rfl rfl rfl ?_
                                              refine X_iadd (v := (4 : Int32)) rfl rfl rfl ?_
                                              refine X_iald (v := (b4 - (97 : Int32))) rfl rfl ((congrFun F.1 354).trans s_354) (vp_in_d rfl) rfl ?_
                                              refine X_ishl (v := ((1 : Int32) <<< ((b4 - (97 : Int32)) &&& 31))) rfl rfl rfl ?_
                                              refine X_ior (v := ((((((0 : Int32) ||| ((1 : Int32) <<< ((b0 - (97 : Int32)) &&& 31))) ||| ((1 : Int32) <<< ((b1 - (97 : Int32)) &&& 31))) ||| ((1 : Int32) <<< ((b2 - (97 : Int32)) &&& 31))) ||| ((1 : Int32) <<< ((b3 - (97 : Int32)) &&& 31))) ||| ((1 : Int32) <<< ((b4 - (97 : Int32)) &&& 31)))) rfl rfl rfl ?_
                                              refine X_istore (i := 5) (ls' := [some (.ref 2), some (.ref 354), some (.int (0 : Int32)), some (.int (6 : Int32)), some (.int s), some (.int ((((((0 : Int32) ||| ((1 : Int32) <<< ((b0 - (97 : Int32)) &&& 31))) ||| ((1 : Int32) <<< ((b1 - (97 : Int32)) &&& 31))) ||| ((1 : Int32) <<< ((b2 - (97 : Int32)) &&& 31))) ||| ((1 : Int32) <<< ((b3 - (97 : Int32)) &&& 31))) ||| ((1 : Int32) <<< ((b4 - (97 : Int32)) &&& 31)))), some (.int (4 : Int32))]) rfl rfl (Nat.le_of_ble_eq_true rfl) rfl ?_
                                              refine X_iinc (v := (5 : Int32)) (ls' := [some (.ref 2), some (.ref 354), some (.int (0 : Int32)), some (.int (6 : Int32)), some (.int s), some (.int ((((((0 : Int32) ||| ((1 : Int32) <<< ((b0 - (97 : Int32)) &&& 31))) ||| ((1 : Int32) <<< ((b1 - (97 : Int32)) &&& 31))) ||| ((1 : Int32) <<< ((b2 - (97 : Int32)) &&& 31))) ||| ((1 : Int32) <<< ((b3 - (97 : Int32)) &&& 31))) ||| ((1 : Int32) <<< ((b4 - (97 : Int32)) &&& 31)))), some (.int (5 : Int32))]) rfl rfl rfl rfl rfl ?_
                                              refine LW_goto (tgt := 66) rfl rfl ?_
                                              refine X_iload rfl rfl rfl ?_
                                              refine X_iload_n rfl rfl rfl rfl ?_
                                              refine X_icmp_ge (tgt := 112) rfl rfl rfl (fun q => absurd q (by decide)) (fun _ => ?_)
                                              refine X_aload_n rfl rfl rfl rfl ?_
                                              refine X_getR (a := 6) rfl rfl rfl ((congrFun F.1 2).trans s_2) rfl ((congrFun (F.2.1 2 (by decide)) 5).trans r_2_5) ?_
                                              refine X_aload_n rfl rfl rfl rfl ?_
                                              refine X_getI (v := (0 : Int32)) rfl rfl rfl ((congrFun F.1 2).trans s_2) rfl ((congrFun (F.2.2 2 (by decide)).1 0).trans i_2_0) ?_
                                              refine X_bipush (v := (8 : Int32)) rfl rfl rfl ?_
                                              refine X_imul (v := (0 : Int32)) rfl rfl rfl ?_
                                              refine X_iload rfl rfl rfl ?_
                                              refine X_iadd (v := (5 : Int32)) rfl rfl rfl ?_
                                              refine X_aload_n rfl rfl rfl rfl ?_
                                              refine X_iload_n rfl rfl rfl rfl ?_
                                              refine X_iload rfl rfl rfl ?_
                                              refine X_iadd (v := (5 : Int32)) rfl rfl rfl ?_
                                              refine X_iald (v := (b5 - (97 : Int32))) rfl rfl ((congrFun F.1 354).trans s_354) (vp_in_d rfl) rfl ?_
                                              refine X_iast (k0 := 5) rfl rfl ((congrFun F.1 6).trans s_6) (vp_in_d rfl) rfl ?_
                                              refine X_iload rfl rfl rfl ?_
                                              refine X_iconst (v := (1 : Int32)) rfl rfl rfl ?_
                                              refine X_aload_n rfl rfl rfl rfl ?_
                                              refine X_iload_n rfl rfl rfl rfl ?_
                                              refine X_iload rfl rfl rfl ?_
                                              refine X_iadd (v := (5 : Int32)) rfl rfl rfl ?_
                                              refine X_iald (v := (b5 - (97 : Int32))) rfl rfl ((congrFun F.1 354).trans s_354) (vp_in_d rfl) rfl ?_
                                              refine X_ishl (v := ((1 : Int32) <<< ((b5 - (97 : Int32)) &&& 31))) rfl rfl rfl ?_
                                              refine X_ior (v := (((((((0 : Int32) ||| ((1 : Int32) <<< ((b0 - (97 : Int32)) &&& 31))) ||| ((1 : Int32) <<< ((b1 - (97 : Int32)) &&& 31))) ||| ((1 : Int32) <<< ((b2 - (97 : Int32)) &&& 31))) ||| ((1 : Int32) <<< ((b3 - (97 : Int32)) &&& 31))) ||| ((1 : Int32) <<< ((b4 - (97 : Int32)) &&& 31))) ||| ((1 : Int32) <<< ((b5 - (97 : Int32)) &&& 31)))) rfl rfl rfl ?_
                                              refine X_istore (i := 5) (ls' := [some (.ref 2), some (.ref 354), some (.int (0 : Int32)), some (.int (6 : Int32)), some (.int s), some (.int (((((((0 : Int32) ||| ((1 : Int32) <<< ((b0 - (97 : Int32)) &&& 31))) ||| ((1 : Int32) <<< ((b1 - (97 : Int32)) &&& 31))) ||| ((1 : Int32) <<< ((b2 - (97 : Int32)) &&& 31))) ||| ((1 : Int32) <<< ((b3 - (97 : Int32)) &&& 31))) ||| ((1 : Int32) <<< ((b4 - (97 : Int32)) &&& 31))) ||| ((1 : Int32) <<< ((b5 - (97 : Int32)) &&& 31)))), some (.int (5 : Int32))]) rfl rfl (Nat.le_of_ble_eq_true rfl) rfl ?_
                                              refine X_iinc (v := (6 : Int32)) (ls' := [some (.ref 2), some (.ref 354), some (.int (0 : Int32)), some (.int (6 : Int32)), some (.int s), some (.int (((((((0 : Int32) ||| ((1 : Int32) <<< ((b0 - (97 : Int32)) &&& 31))) ||| ((1 : Int32) <<< ((b1 - (97 : Int32)) &&& 31))) ||| ((1 : Int32) <<< ((b2 - (97 : Int32)) &&& 31))) ||| ((1 : Int32) <<< ((b3 - (97 : Int32)) &&& 31))) ||| ((1 : Int32) <<< ((b4 - (97 : Int32)) &&& 31))) ||| ((1 : Int32) <<< ((b5 - (97 : Int32)) &&& 31)))), some (.int (6 : Int32))]) rfl rfl rfl rfl rfl ?_
                                              refine LW_goto (tgt := 66) rfl rfl ?_
                                              refine X_iload rfl rfl rfl ?_
                                              refine X_iload_n rfl rfl rfl rfl ?_
                                              refine X_icmp_ge (tgt := 112) rfl rfl rfl (fun _ => ?_) (fun q => absurd q (by decide))
                                              refine X_aload_n rfl rfl rfl rfl ?_
                                              refine X_getR (a := 3) rfl rfl rfl ((congrFun F.1 2).trans s_2) rfl ((congrFun (F.2.1 2 (by decide)) 2).trans r_2_2) ?_
                                              refine X_aload_n rfl rfl rfl rfl ?_
                                              refine X_getI (v := (0 : Int32)) rfl rfl rfl ((congrFun F.1 2).trans s_2) rfl ((congrFun (F.2.2 2 (by decide)).1 0).trans i_2_0) ?_
                                              refine X_iload_n rfl rfl rfl rfl ?_
                                              refine X_iast (k0 := 0) rfl rfl ((congrFun F.1 3).trans s_3) (vp_in_d rfl) rfl ?_
                                              refine X_aload_n rfl rfl rfl rfl ?_
                                              refine X_getR (a := 4) rfl rfl rfl ((congrFun F.1 2).trans s_2) rfl ((congrFun (F.2.1 2 (by decide)) 3).trans r_2_3) ?_
                                              refine X_aload_n rfl rfl rfl rfl ?_
                                              refine X_getI (v := (0 : Int32)) rfl rfl rfl ((congrFun F.1 2).trans s_2) rfl ((congrFun (F.2.2 2 (by decide)).1 0).trans i_2_0) ?_
                                              refine X_iload rfl rfl rfl ?_
                                              refine X_iast (k0 := 0) rfl rfl ((congrFun F.1 4).trans s_4) (vp_in_d rfl) rfl ?_
                                              refine X_aload_n rfl rfl rfl rfl ?_
                                              refine X_getR (a := 5) rfl rfl rfl ((congrFun F.1 2).trans s_2) rfl ((congrFun (F.2.1 2 (by decide)) 4).trans r_2_4) ?_
                                              refine X_aload_n rfl rfl rfl rfl ?_
                                              refine X_getI (v := (0 : Int32)) rfl rfl rfl ((congrFun F.1 2).trans s_2) rfl ((congrFun (F.2.2 2 (by decide)).1 0).trans i_2_0) ?_
                                              refine X_iload rfl rfl rfl ?_
                                              refine X_iast (k0 := 0) rfl rfl ((congrFun F.1 5).trans s_5) (vp_in_d rfl) rfl ?_
                                              refine X_aload_n rfl rfl rfl rfl ?_
                                              refine X_dup rfl rfl rfl ?_
                                              refine X_getI (v := (0 : Int32)) rfl rfl rfl ((congrFun F.1 2).trans s_2) rfl ((congrFun (F.2.2 2 (by decide)).1 0).trans i_2_0) ?_
                                              refine X_iconst (v := (1 : Int32)) rfl rfl rfl ?_
                                              refine X_iadd (v := (1 : Int32)) rfl rfl rfl ?_
                                              refine X_putI rfl rfl rfl ((congrFun F.1 2).trans s_2) rfl rfl rfl rfl ?_
                                              refine X_aload_n rfl rfl rfl rfl ?_
                                              refine X_getI (v := (1 : Int32)) rfl rfl rfl ((congrFun F.1 2).trans s_2) rfl rfl ?_
                                              refine X_iconst (v := (1 : Int32)) rfl rfl rfl ?_
                                              refine X_isub (v := (0 : Int32)) rfl rfl rfl ?_
                                              refine LW_ireturn (st := []) rfl rfl rfl ?_
                                              refine LW_ireturn (st := []) rfl rfl rfl ⟨congrArg (fun z => some (Value.int z)) ?_, (Fr_putI (Fr_putI (Fr_putI (Fr_putI (Fr_putI (Fr_putI (Fr_putI (Fr_putI (Fr_putI (Fr_putI (Fr_putI (Fr_putI (Fr_putI (Fr_putI (Fr_putI (Fr_putI E (by decide)) (by decide)) (by decide)) (by decide)) (by decide)) (by decide)) (by decide)) (by decide)) (by decide)) (by decide)) (by decide)) (by decide)) (by decide)) (by decide)) (by decide)) (by decide))⟩
                                              simp only [Int32.lt_iff_toInt_lt, Int32.le_iff_toInt_le, ← Int32.toInt_inj, (show (0 : Int32).toInt = 0 from rfl), (show (9 : Int32).toInt = 9 from rfl), (show (97 : Int32).toInt = 97 from rfl), (show (122 : Int32).toInt = 122 from rfl)] at h1 h2 h3 h4 h5 h6 h7 h8 h9 h10 h11 h12 h13 h14 h15 h16 h17 h18 h19 h29 h30 h31
                                              unfold f_wordB
                                              rw [if_pos (by omega)]
                                    · refine X_iconst (v := (-1 : Int32)) rfl rfl rfl ?_
                                      refine LW_ireturn (st := []) rfl rfl rfl ⟨congrArg (fun z => some (Value.int z)) ?_, (Fr_putI (Fr_putI (Fr_putI (Fr_putI (Fr_putI E (by decide)) (by decide)) (by decide)) (by decide)) (by decide))⟩
                                      simp only [Int32.lt_iff_toInt_lt, Int32.le_iff_toInt_le, ← Int32.toInt_inj, (show (0 : Int32).toInt = 0 from rfl), (show (97 : Int32).toInt = 97 from rfl), (show (122 : Int32).toInt = 122 from rfl)] at h1 h2 h3 h4 h5 h6 h7 h8 h9 h10 h11 h12 h13 h14 h15 h16 h17 h18
                                      unfold f_wordB
                                      rw [if_neg (by omega)]
                                · refine X_iconst (v := (1 : Int32)) rfl rfl rfl ?_
                                  refine X_istore (i := 5) (ls' := [some (.ref 0), some (.int a), some (.int c), some (.int s), some (.int (5 : Int32)), some (.int (1 : Int32)), some (.int (5 : Int32)), some (.int b5)]) rfl rfl (Nat.le_of_ble_eq_true rfl) rfl ?_
                                  refine LW_goto (tgt := 88) rfl rfl ?_
                                  refine X_iinc (v := (6 : Int32)) (ls' := [some (.ref 0), some (.int a), some (.int c), some (.int s), some (.int (5 : Int32)), some (.int (1 : Int32)), some (.int (6 : Int32)), some (.int b5)]) rfl rfl rfl rfl rfl ?_
                                  refine LW_goto (tgt := 9) rfl rfl ?_
                                  refine X_iload rfl rfl rfl ?_
                                  refine X_bipush (v := (8 : Int32)) rfl rfl rfl ?_
                                  refine X_icmp_ge (tgt := 94) rfl rfl rfl (fun q => absurd q (by decide)) (fun _ => ?_)
                                  refine X_iload rfl rfl rfl ?_
                                  refine X_iconst (v := (4 : Int32)) rfl rfl rfl ?_
                                  refine X_icmp_ge (tgt := 26) rfl rfl rfl (fun _ => ?_) (fun q => absurd q (by decide))
                                  refine X_iload_n rfl rfl rfl rfl ?_
                                  refine X_bipush (v := (8 : Int32)) rfl rfl rfl ?_
                                  refine X_iload rfl rfl rfl ?_
                                  refine X_iconst (v := (4 : Int32)) rfl rfl rfl ?_
                                  refine X_irem (v := (2 : Int32)) rfl rfl (by decide) rfl ?_
                                  refine X_imul (v := (16 : Int32)) rfl rfl rfl ?_
                                  refine X_iushr (v := ((c).toUInt32 >>> (((16 : Int32)).toUInt32 &&& Int32.toUInt32 31)).toInt32) rfl rfl rfl ?_
                                  refine X_sipush (v := (255 : Int32)) rfl rfl rfl ?_
                                  refine X_iand (v := b6) rfl rfl hb6 ?_
                                  refine X_istore (i := 7) (ls' := [some (.ref 0), some (.int a), some (.int c), some (.int s), some (.int (5 : Int32)), some (.int (1 : Int32)), some (.int (6 : Int32)), some (.int b6)]) rfl rfl (Nat.le_of_ble_eq_true rfl) rfl ?_
                                  refine X_iload rfl rfl rfl ?_
                                  refine X_if_ne (tgt := 52) rfl rfl rfl (fun h32 => ?_) (fun h32 => ?_)
                                  · refine X_iload rfl rfl rfl ?_
                                    refine X_if_ne (tgt := 71) rfl rfl rfl (fun _ => ?_) (fun q => absurd q (by decide))
                                    refine X_iconst (v := (-1 : Int32)) rfl rfl rfl ?_
                                    refine LW_ireturn (st := []) rfl rfl rfl ⟨congrArg (fun z => some (Value.int z)) ?_, (Fr_putI (Fr_putI (Fr_putI (Fr_putI (Fr_putI E (by decide)) (by decide)) (by decide)) (by decide)) (by decide))⟩
                                    simp only [Int32.lt_iff_toInt_lt, Int32.le_iff_toInt_le, ← Int32.toInt_inj, (show (0 : Int32).toInt = 0 from rfl), (show (97 : Int32).toInt = 97 from rfl), (show (122 : Int32).toInt = 122 from rfl)] at h1 h2 h3 h4 h5 h6 h7 h8 h9 h10 h11 h12 h13 h14 h15 h16 h32
                                    unfold f_wordB
                                    rw [if_neg (by omega)]
                                  · refine X_iconst (v := (1 : Int32)) rfl rfl rfl ?_
                                    refine X_istore (i := 5) (ls' := [some (.ref 0), some (.int a), some (.int c), some (.int s), some (.int (5 : Int32)), some (.int (1 : Int32)), some (.int (6 : Int32)), some (.int b6)]) rfl rfl (Nat.le_of_ble_eq_true rfl) rfl ?_
                                    refine LW_goto (tgt := 88) rfl rfl ?_
                                    refine X_iinc (v := (7 : Int32)) (ls' := [some (.ref 0), some (.int a), some (.int c), some (.int s), some (.int (5 : Int32)), some (.int (1 : Int32)), some (.int (7 : Int32)), some (.int b6)]) rfl rfl rfl rfl rfl ?_
                                    refine LW_goto (tgt := 9) rfl rfl ?_
                                    refine X_iload rfl rfl rfl ?_
                                    refine X_bipush (v := (8 : Int32)) rfl rfl rfl ?_
                                    refine X_icmp_ge (tgt := 94) rfl rfl rfl (fun q => absurd q (by decide)) (fun _ => ?_)
                                    refine X_iload rfl rfl rfl ?_
                                    refine X_iconst (v := (4 : Int32)) rfl rfl rfl ?_
                                    refine X_icmp_ge (tgt := 26) rfl rfl rfl (fun _ => ?_) (fun q => absurd q (by decide))
                                    refine X_iload_n rfl rfl rfl rfl ?_
                                    refine X_bipush (v := (8 : Int32)) rfl rfl rfl ?_
                                    refine X_iload rfl rfl rfl ?_
                                    refine X_iconst (v := (4 : Int32)) rfl rfl rfl ?_
                                    refine X_irem (v := (3 : Int32)) rfl rfl (by decide) rfl ?_
                                    refine X_imul (v := (24 : Int32)) rfl rfl rfl ?_
                                    refine X_iushr (v := ((c).toUInt32 >>> (((24 : Int32)).toUInt32 &&& Int32.toUInt32 31)).toInt32) rfl rfl rfl ?_
                                    refine X_sipush (v := (255 : Int32)) rfl rfl rfl ?_
                                    refine X_iand (v := b7) rfl rfl hb7 ?_
                                    refine X_istore (i := 7) (ls' := [some (.ref 0), some (.int a), some (.int c), some (.int s), some (.int (5 : Int32)), some (.int (1 : Int32)), some (.int (7 : Int32)), some (.int b7)]) rfl rfl (Nat.le_of_ble_eq_true rfl) rfl ?_
                                    refine X_iload rfl rfl rfl ?_
                                    refine X_if_ne (tgt := 52) rfl rfl rfl (fun h33 => ?_) (fun h33 => ?_)
                                    · refine X_iload rfl rfl rfl ?_
                                      refine X_if_ne (tgt := 71) rfl rfl rfl (fun _ => ?_) (fun q => absurd q (by decide))
                                      refine X_iconst (v := (-1 : Int32)) rfl rfl rfl ?_
                                      refine LW_ireturn (st := []) rfl rfl rfl ⟨congrArg (fun z => some (Value.int z)) ?_, (Fr_putI (Fr_putI (Fr_putI (Fr_putI (Fr_putI E (by decide)) (by decide)) (by decide)) (by decide)) (by decide))⟩
                                      simp only [Int32.lt_iff_toInt_lt, Int32.le_iff_toInt_le, ← Int32.toInt_inj, (show (0 : Int32).toInt = 0 from rfl), (show (97 : Int32).toInt = 97 from rfl), (show (122 : Int32).toInt = 122 from rfl)] at h1 h2 h3 h4 h5 h6 h7 h8 h9 h10 h11 h12 h13 h14 h15 h16 h32 h33
                                      unfold f_wordB
                                      rw [if_neg (by omega)]
                                    · refine X_iconst (v := (1 : Int32)) rfl rfl rfl ?_
                                      refine X_istore (i := 5) (ls' := [some (.ref 0), some (.int a), some (.int c), some (.int s), some (.int (5 : Int32)), some (.int (1 : Int32)), some (.int (7 : Int32)), some (.int b7)]) rfl rfl (Nat.le_of_ble_eq_true rfl) rfl ?_
                                      refine LW_goto (tgt := 88) rfl rfl ?_
                                      refine X_iinc (v := (8 : Int32)) (ls' := [some (.ref 0), some (.int a), some (.int c), some (.int s), some (.int (5 : Int32)), some (.int (1 : Int32)), some (.int (8 : Int32)), some (.int b7)]) rfl rfl rfl rfl rfl ?_
                                      refine LW_goto (tgt := 9) rfl rfl ?_
                                      refine X_iload rfl rfl rfl ?_
                                      refine X_bipush (v := (8 : Int32)) rfl rfl rfl ?_
                                      refine X_icmp_ge (tgt := 94) rfl rfl rfl (fun _ => ?_) (fun q => absurd q (by decide))
                                      refine X_aload_n rfl rfl rfl rfl ?_
                                      refine X_getR (a := 1) rfl rfl rfl ((congrFun F.1 0).trans s_0) rfl ((congrFun (F.2.1 0 (by decide)) 0).trans r_0_0) ?_
                                      refine X_getR (a := 2) rfl rfl rfl ((congrFun F.1 1).trans s_1) rfl ((congrFun (F.2.1 1 (by decide)) 0).trans r_1_0) ?_
                                      refine X_aload_n rfl rfl rfl rfl ?_
                                      refine X_getR (a := 354) rfl rfl rfl ((congrFun F.1 0).trans s_0) rfl ((congrFun (F.2.1 0 (by decide)) 9).trans r_0_9) ?_
                                      refine X_iconst (v := (0 : Int32)) rfl rfl rfl ?_
                                      refine X_iload rfl rfl rfl ?_
                                      refine X_iload_n rfl rfl rfl rfl ?_
                                      refine X_callV (as := [.ref 354, .int (0 : Int32), .int (5 : Int32), .int s]) (st := []) rfl rfl rfl (by decide) rfl (Nat.le_of_ble_eq_true rfl) (by decide) (Nat.le_of_ble_eq_true rfl) rfl ((congrFun F.1 2).trans s_2) (by decide) ?_
                                      refine LW_ls (ls' := [some (.ref 2), some (.ref 354), some (.int (0 : Int32)), some (.int (5 : Int32)), some (.int s), none, none]) rfl ?_
                                      refine X_iload_n rfl rfl rfl rfl ?_
                                      refine X_iconst (v := (1 : Int32)) rfl rfl rfl ?_
                                      refine X_icmp_lt (tgt := 23) rfl rfl rfl (fun q => absurd q (by decide)) (fun _ => ?_)
                                      refine X_iload_n rfl rfl rfl rfl ?_
                                      refine X_bipush (v := (8 : Int32)) rfl rfl rfl ?_
                                      refine X_icmp_gt (tgt := 23) rfl rfl rfl (fun q => absurd q (by decide)) (fun _ => ?_)
                                      refine X_iload_n rfl rfl rfl rfl ?_
                                      refine X_if_lt (tgt := 23) rfl rfl rfl (fun q => absurd q (by decide)) (fun _ => ?_)
                                      refine X_iload_n rfl rfl rfl rfl ?_
                                      refine X_iload_n rfl rfl rfl rfl ?_
                                      refine X_iadd (v := (5 : Int32)) rfl rfl rfl ?_
                                      refine X_aload_n rfl rfl rfl rfl ?_
                                      refine X_alen (t0 := 0) (v := (8 : Int32)) rfl rfl ((congrFun F.1 354).trans s_354) rfl rfl ?_
                                      refine X_icmp_le (tgt := 25) rfl rfl rfl (fun _ => ?_) (fun q => absurd q (by decide))
                                      refine X_iload rfl rfl rfl ?_
                                      refine X_if_lt (tgt := 46) rfl rfl rfl (fun h34 => ?_) (fun h34 => ?_)
                                      · refine X_iconst (v := (-1 : Int32)) rfl rfl rfl ?_
                                        refine LW_ireturn (st := []) rfl rfl rfl ?_
                                        refine LW_ireturn (st := []) rfl rfl rfl ⟨congrArg (fun z => some (Value.int z)) ?_, (Fr_putI (Fr_putI (Fr_putI (Fr_putI (Fr_putI E (by decide)) (by decide)) (by decide)) (by decide)) (by decide))⟩
                                        simp only [Int32.lt_iff_toInt_lt, Int32.le_iff_toInt_le, ← Int32.toInt_inj, (show (0 : Int32).toInt = 0 from rfl), (show (97 : Int32).toInt = 97 from rfl), (show (122 : Int32).toInt = 122 from rfl)] at h1 h2 h3 h4 h5 h6 h7 h8 h9 h10 h11 h12 h13 h14 h15 h16 h32 h33 h34
                                        unfold f_wordB
                                        rw [if_neg (by omega)]
                                      · refine X_iload rfl rfl rfl ?_
                                        refine X_bipush (v := (9 : Int32)) rfl rfl rfl ?_
                                        refine X_icmp_gt (tgt := 46) rfl rfl rfl (fun h35 => ?_) (fun h35 => ?_)
                                        · refine X_iconst (v := (-1 : Int32)) rfl rfl rfl ?_
                                          refine LW_ireturn (st := []) rfl rfl rfl ?_
                                          refine LW_ireturn (st := []) rfl rfl rfl ⟨congrArg (fun z => some (Value.int z)) ?_, (Fr_putI (Fr_putI (Fr_putI (Fr_putI (Fr_putI E (by decide)) (by decide)) (by decide)) (by decide)) (by decide))⟩
                                          simp only [Int32.lt_iff_toInt_lt, Int32.le_iff_toInt_le, ← Int32.toInt_inj, (show (0 : Int32).toInt = 0 from rfl), (show (9 : Int32).toInt = 9 from rfl), (show (97 : Int32).toInt = 97 from rfl), (show (122 : Int32).toInt = 122 from rfl)] at h1 h2 h3 h4 h5 h6 h7 h8 h9 h10 h11 h12 h13 h14 h15 h16 h32 h33 h34 h35
                                          unfold f_wordB
                                          rw [if_neg (by omega)]
                                        · refine X_aload_n rfl rfl rfl rfl ?_
                                          refine X_getI (v := (0 : Int32)) rfl rfl rfl ((congrFun F.1 2).trans s_2) rfl ((congrFun (F.2.2 2 (by decide)).1 0).trans i_2_0) ?_
                                          refine X_bipush (v := (24 : Int32)) rfl rfl rfl ?_
                                          refine X_icmp_lt (tgt := 48) rfl rfl rfl (fun _ => ?_) (fun q => absurd q (by decide))
                                          refine X_aload_n rfl rfl rfl rfl ?_
                                          refine X_aload_n rfl rfl rfl rfl ?_
                                          refine X_iload_n rfl rfl rfl rfl ?_
                                          refine X_iload_n rfl rfl rfl rfl ?_
                                          refine X_callV (as := [.ref 354, .int (0 : Int32), .int (5 : Int32)]) (st := []) rfl rfl rfl (by decide) rfl (Nat.le_of_ble_eq_true rfl) (by decide) (Nat.le_of_ble_eq_true rfl) rfl ((congrFun F.1 2).trans s_2) (by decide) ?_
                                          refine LW_ls (ls' := [some (.ref 2), some (.ref 354), some (.int (0 : Int32)), some (.int (5 : Int32)), none, none, none]) rfl ?_
                                          refine X_iconst (v := (0 : Int32)) rfl rfl rfl ?_
                                          refine X_istore (i := 4) (ls' := [some (.ref 2), some (.ref 354), some (.int (0 : Int32)), some (.int (5 : Int32)), some (.int (0 : Int32)), none, none]) rfl rfl (Nat.le_of_ble_eq_true rfl) rfl ?_
                                          refine X_iload rfl rfl rfl ?_
                                          refine X_aload_n rfl rfl rfl rfl ?_
                                          refine X_getI (v := (0 : Int32)) rfl rfl rfl ((congrFun F.1 2).trans s_2) rfl ((congrFun (F.2.2 2 (by decide)).1 0).trans i_2_0) ?_
                                          refine X_icmp_ge (tgt := 91) rfl rfl rfl (fun _ => ?_) (fun q => absurd q (by decide))
                                          refine X_iconst (v := (0 : Int32)) rfl rfl rfl ?_
                                          refine LW_ireturn (st := []) rfl rfl rfl ?_
                                          refine X_if_eq (tgt := 60) rfl rfl rfl (fun _ => ?_) (fun q => absurd q (by decide))
                                          refine X_iconst (v := (0 : Int32)) rfl rfl rfl ?_
                                          refine X_istore (i := 5) (ls' := [some (.ref 2), some (.ref 354), some (.int (0 : Int32)), some (.int (5 : Int32)), some (.int s), some (.int (0 : Int32)), none]) rfl rfl (Nat.le_of_ble_eq_true rfl) rfl ?_
                                          refine X_iconst (v := (0 : Int32)) rfl rfl rfl ?_
                                          refine X_istore (i := 6) (ls' := [some (.ref 2), some (.ref 354), some (.int (0 : Int32)), some (.int (5 : Int32)), some (.int s), some (.int (0 : Int32)), some (.int (0 : Int32))]) rfl rfl (Nat.le_of_ble_eq_true rfl) rfl ?_
                                          refine X_iload rfl rfl rfl ?_
                                          refine X_iload_n rfl rfl rfl rfl ?_
                                          refine X_icmp_ge (tgt := 112) rfl rfl rfl (fun q => absurd q (by decide)) (fun _ => ?_)
                                          refine X_aload_n rfl rfl rfl rfl ?_
                                          refine X_getR (a := 6) rfl rfl rfl ((congrFun F.1 2).trans s_2) rfl ((congrFun (F.2.1 2 (by decide)) 5).trans r_2_5) ?_
                                          refine X_aload_n rfl rfl rfl rfl ?_
                                          refine X_getI (v := (0 : Int32)) rfl rfl rfl ((congrFun F.1 2).trans s_2) rfl ((congrFun (F.2.2 2 (by decide)).1 0).trans i_2_0) ?_
                                          refine X_bipush (v := (8 : Int32)) rfl rfl rfl ?_
                                          refine X_imul (v := (0 : Int32)) rfl rfl rfl ?_
                                          refine X_iload rfl rfl rfl ?_
                                          refine X_iadd (v := (0 : Int32)) rfl rfl rfl ?_
                                          refine X_aload_n rfl rfl rfl rfl ?_
                                          refine X_iload_n rfl rfl rfl rfl ?_
                                          refine X_iload rfl rfl rfl ?_
                                          refine X_iadd (v := (0 : Int32)) rfl rfl rfl ?_
                                          refine X_iald (v := (b0 - (97 : Int32))) rfl rfl ((congrFun F.1 354).trans s_354) (vp_in_d rfl) rfl ?_
                                          refine X_iast (k0 := 0) rfl rfl ((congrFun F.1 6).trans s_6) (vp_in_d rfl) rfl ?_
                                          refine X_iload rfl rfl rfl ?_
                                          refine X_iconst (v := (1 : Int32)) rfl rfl rfl ?_
                                          refine X_aload_n rfl rfl rfl rfl ?_
                                          refine X_iload_n rfl rfl rfl rfl ?_
                                          refine X_iload rfl rfl rfl ?_
                                          refine X_iadd (v := (0 : Int32)) rfl rfl rfl ?_
                                          refine X_iald (v := (b0 - (97 : Int32))) rfl rfl ((congrFun F.1 354).trans s_354) (vp_in_d rfl) rfl ?_
                                          refine X_ishl (v := ((1 : Int32) <<< ((b0 - (97 : Int32)) &&& 31))) rfl rfl rfl ?_
                                          refine X_ior (v := ((0 : Int32) ||| ((1 : Int32) <<< ((b0 - (97 : Int32)) &&& 31)))) rfl rfl rfl ?_
                                          refine X_istore (i := 5) (ls' := [some (.ref 2), some (.ref 354), some (.int (0 : Int32)), some (.int (5 : Int32)), some (.int s), some (.int ((0 : Int32) ||| ((1 : Int32) <<< ((b0 - (97 : Int32)) &&& 31)))), some (.int (0 : Int32))]) rfl rfl (Nat.le_of_ble_eq_true rfl) rfl ?_
                                          refine X_iinc (v := (1 : Int32)) (ls' := [some (.ref 2), some (.ref 354), some (.int (0 : Int32)), some (.int (5 : Int32)), some (.int s), some (.int ((0 : Int32) ||| ((1 : Int32) <<< ((b0 - (97 : Int32)) &&& 31)))), some (.int (1 : Int32))]) rfl rfl rfl rfl rfl ?_
                                          refine LW_goto (tgt := 66) rfl rfl ?_
                                          refine X_iload rfl rfl rfl ?_
                                          refine X_iload_n rfl rfl rfl rfl ?_
                                          refine X_icmp_ge (tgt := 112) rfl rfl rfl (fun q => absurd q (by decide)) (fun _ => ?_)
                                          refine X_aload_n rfl rfl rfl rfl ?_
                                          refine X_getR (a := 6) rfl rfl rfl ((congrFun F.1 2).trans s_2) rfl ((congrFun (F.2.1 2 (by decide)) 5).trans r_2_5) ?_
                                          refine X_aload_n rfl rfl rfl rfl ?_
                                          refine X_getI (v := (0 : Int32)) rfl rfl rfl ((congrFun F.1 2).trans s_2) rfl ((congrFun (F.2.2 2 (by decide)).1 0).trans i_2_0) ?_
                                          refine X_bipush (v := (8 : Int32)) rfl rfl rfl ?_
                                          refine X_imul (v := (0 : Int32)) rfl rfl rfl ?_
                                          refine X_iload rfl rfl rfl ?_
                                          refine X_iadd (v := (1 : Int32)) rfl rfl rfl ?_
                                          refine X_aload_n rfl rfl rfl rfl ?_
                                          refine X_iload_n rfl rfl rfl rfl ?_
                                          refine X_iload rfl rfl rfl ?_
                                          refine X_iadd (v := (1 : Int32)) rfl rfl rfl ?_
                                          refine X_iald (v := (b1 - (97 : Int32))) rfl rfl ((congrFun F.1 354).trans s_354) (vp_in_d rfl) rfl ?_
                                          refine X_iast (k0 := 1) rfl rfl ((congrFun F.1 6).trans s_6) (vp_in_d rfl) rfl ?_
                                          refine X_iload rfl rfl rfl ?_
                                          refine X_iconst (v := (1 : Int32)) rfl rfl rfl ?_
                                          refine X_aload_n rfl rfl rfl rfl ?_
                                          refine X_iload_n rfl rfl rfl rfl ?_
                                          refine X_iload rfl rfl rfl ?_
                                          refine X_iadd (v := (1 : Int32)) rfl rfl rfl ?_
                                          refine X_iald (v := (b1 - (97 : Int32))) rfl rfl ((congrFun F.1 354).trans s_354) (vp_in_d rfl) rfl ?_
                                          refine X_ishl (v := ((1 : Int32) <<< ((b1 - (97 : Int32)) &&& 31))) rfl rfl rfl ?_
                                          refine X_ior (v := (((0 : Int32) ||| ((1 : Int32) <<< ((b0 - (97 : Int32)) &&& 31))) ||| ((1 : Int32) <<< ((b1 - (97 : Int32)) &&& 31)))) rfl rfl rfl ?_
                                          refine X_istore (i := 5) (ls' := [some (.ref 2), some (.ref 354), some (.int (0 : Int32)), some (.int (5 : Int32)), some (.int s), some (.int (((0 : Int32) ||| ((1 : Int32) <<< ((b0 - (97 : Int32)) &&& 31))) ||| ((1 : Int32) <<< ((b1 - (97 : Int32)) &&& 31)))), some (.int (1 : Int32))]) rfl rfl (Nat.le_of_ble_eq_true rfl) rfl ?_
                                          refine X_iinc (v := (2 : Int32)) (ls' := [some (.ref 2), some (.ref 354), some (.int (0 : Int32)), some (.int (5 : Int32)), some (.int s), some (.int (((0 : Int32) ||| ((1 : Int32) <<< ((b0 - (97 : Int32)) &&& 31))) ||| ((1 : Int32) <<< ((b1 - (97 : Int32)) &&& 31)))), some (.int (2 : Int32))]) rfl rfl rfl rfl rfl ?_
                                          refine LW_goto (tgt := 66) rfl rfl ?_
                                          refine X_iload rfl rfl rfl ?_
                                          refine X_iload_n rfl rfl rfl rfl ?_
                                          refine X_icmp_ge (tgt := 112) rfl rfl rfl (fun q => absurd q (by decide)) (fun _ => ?_)
                                          refine X_aload_n rfl rfl rfl rfl ?_
                                          refine X_getR (a := 6) rfl rfl rfl ((congrFun F.1 2).trans s_2) rfl ((congrFun (F.2.1 2 (by decide)) 5).trans r_2_5) ?_
                                          refine X_aload_n rfl rfl rfl rfl ?_
                                          refine X_getI (v := (0 : Int32)) rfl rfl rfl ((congrFun F.1 2).trans s_2) rfl ((congrFun (F.2.2 2 (by decide)).1 0).trans i_2_0) ?_
                                          refine X_bipush (v := (8 : Int32)) rfl rfl rfl ?_
                                          refine X_imul (v := (0 : Int32)) rfl rfl rfl ?_
                                          refine X_iload rfl rfl rfl ?_
                                          refine X_iadd (v := (2 : Int32)) rfl rfl rfl ?_
                                          refine X_aload_n rfl rfl rfl rfl ?_
                                          refine X_iload_n rfl rfl rfl rfl ?_
                                          refine X_iload rfl rfl rfl ?_
                                          refine X_iadd (v := (2 : Int32)) rfl rfl rfl ?_
                                          refine X_iald (v := (b2 - (97 : Int32))) rfl rfl ((congrFun F.1 354).trans s_354) (vp_in_d rfl) rfl ?_
                                          refine X_iast (k0 := 2) rfl rfl ((congrFun F.1 6).trans s_6) (vp_in_d rfl) rfl ?_
                                          refine X_iload rfl rfl rfl ?_
                                          refine X_iconst (v := (1 : Int32)) rfl rfl rfl ?_
                                          refine X_aload_n rfl rfl rfl rfl ?_
                                          refine X_iload_n rfl rfl rfl rfl ?_
                                          refine X_iload rfl rfl rfl ?_
                                          refine X_iadd (v := (2 : Int32)) rfl rfl rfl ?_
                                          refine X_iald (v := (b2 - (97 : Int32))) rfl rfl ((congrFun F.1 354).trans s_354) (vp_in_d rfl) rfl ?_
                                          refine X_ishl (v := ((1 : Int32) <<< ((b2 - (97 : Int32)) &&& 31))) rfl rfl rfl ?_
                                          refine X_ior (v := ((((0 : Int32) ||| ((1 : Int32) <<< ((b0 - (97 : Int32)) &&& 31))) ||| ((1 : Int32) <<< ((b1 - (97 : Int32)) &&& 31))) ||| ((1 : Int32) <<< ((b2 - (97 : Int32)) &&& 31)))) rfl rfl rfl ?_
                                          refine X_istore (i := 5) (ls' := [some (.ref 2), some (.ref 354), some (.int (0 : Int32)), some (.int (5 : Int32)), some (.int s), some (.int ((((0 : Int32) ||| ((1 : Int32) <<< ((b0 - (97 : Int32)) &&& 31))) ||| ((1 : Int32) <<< ((b1 - (97 : Int32)) &&& 31))) ||| ((1 : Int32) <<< ((b2 - (97 : Int32)) &&& 31)))), some (.int (2 : Int32))]) rfl rfl (Nat.le_of_ble_eq_true rfl) rfl ?_
                                          refine X_iinc (v := (3 : Int32)) (ls' := [some (.ref 2), some (.ref 354), some (.int (0 : Int32)), some (.int (5 : Int32)), some (.int s), some (.int ((((0 : Int32) ||| ((1 : Int32) <<< ((b0 - (97 : Int32)) &&& 31))) ||| ((1 : Int32) <<< ((b1 - (97 : Int32)) &&& 31))) ||| ((1 : Int32) <<< ((b2 - (97 : Int32)) &&& 31)))), some (.int (3 : Int32))]) rfl rfl rfl rfl rfl ?_
                                          refine LW_goto (tgt := 66) rfl rfl ?_
                                          refine X_iload rfl rfl rfl ?_
                                          refine X_iload_n rfl rfl rfl rfl ?_
                                          refine X_icmp_ge (tgt := 112) rfl rfl rfl (fun q => absurd q (by decide)) (fun _ => ?_)
                                          refine X_aload_n rfl rfl rfl rfl ?_
                                          refine X_getR (a := 6) rfl rfl rfl ((congrFun F.1 2).trans s_2) rfl ((congrFun (F.2.1 2 (by decide)) 5).trans r_2_5) ?_
                                          refine X_aload_n rfl rfl rfl rfl ?_
                                          refine X_getI (v := (0 : Int32)) rfl rfl rfl ((congrFun F.1 2).trans s_2) rfl ((congrFun (F.2.2 2 (by decide)).1 0).trans i_2_0) ?_
                                          refine X_bipush (v := (8 : Int32)) rfl rfl rfl ?_
                                          refine X_imul (v := (0 : Int32)) rfl rfl rfl ?_
                                          refine X_iload rfl rfl rfl ?_
                                          refine X_iadd (v := (3 : Int32)) rfl rfl rfl ?_
                                          refine X_aload_n rfl rfl rfl rfl ?_
                                          refine X_iload_n rfl rfl rfl rfl ?_
                                          refine X_iload rfl rfl rfl ?_
                                          refine X_iadd (v := (3 : Int32)) rfl rfl rfl ?_
                                          refine X_iald (v := (b3 - (97 : Int32))) rfl rfl ((congrFun F.1 354).trans s_354) (vp_in_d rfl) rfl ?_
                                          refine X_iast (k0 := 3) rfl rfl ((congrFun F.1 6).trans s_6) (vp_in_d rfl) rfl ?_
                                          refine X_iload rfl rfl rfl ?_
                                          refine X_iconst (v := (1 : Int32)) rfl rfl rfl ?_
                                          refine X_aload_n rfl rfl rfl rfl ?_
                                          refine X_iload_n rfl rfl rfl rfl ?_
                                          refine X_iload rfl rfl rfl ?_
                                          refine X_iadd (v := (3 : Int32)) rfl rfl rfl ?_
                                          refine X_iald (v := (b3 - (97 : Int32))) rfl rfl ((congrFun F.1 354).trans s_354) (vp_in_d rfl) rfl ?_
                                          refine X_ishl (v := ((1 : Int32) <<< ((b3 - (97 : Int32)) &&& 31))) rfl rfl rfl ?_
                                          refine X_ior (v := (((((0 : Int32) ||| ((1 : Int32) <<< ((b0 - (97 : Int32)) &&& 31))) ||| ((1 : Int32) <<< ((b1 - (97 : Int32)) &&& 31))) ||| ((1 : Int32) <<< ((b2 - (97 : Int32)) &&& 31))) ||| ((1 : Int32) <<< ((b3 - (97 : Int32)) &&& 31)))) rfl rfl rfl ?_
                                          refine X_istore (i := 5) (ls' := [some (.ref 2), some (.ref 354), some (.int (0 : Int32)), some (.int (5 : Int32)), some (.int s), some (.int (((((0 : Int32) ||| ((1 : Int32) <<< ((b0 - (97 : Int32)) &&& 31))) ||| ((1 : Int32) <<< ((b1 - (97 : Int32)) &&& 31))) ||| ((1 : Int32) <<< ((b2 - (97 : Int32)) &&& 31))) ||| ((1 : Int32) <<< ((b3 - (97 : Int32)) &&& 31)))), some (.int (3 : Int32))]) rfl rfl (Nat.le_of_ble_eq_true rfl) rfl ?_
                                          refine X_iinc (v := (4 : Int32)) (ls' := [some (.ref 2), some (.ref 354), some (.int (0 : Int32)), some (.int (5 : Int32)), some (.int s), some (.int (((((0 : Int32) ||| ((1 : Int32) <<< ((b0 - (97 : Int32)) &&& 31))) ||| ((1 : Int32) <<< ((b1 - (97 : Int32)) &&& 31))) ||| ((1 : Int32) <<< ((b2 - (97 : Int32)) &&& 31))) ||| ((1 : Int32) <<< ((b3 - (97 : Int32)) &&& 31)))), some (.int (4 : Int32))]) rfl rfl rfl rfl rfl ?_
                                          refine LW_goto (tgt := 66) rfl rfl ?_
                                          refine X_iload rfl rfl rfl ?_
                                          refine X_iload_n rfl rfl rfl rfl ?_
                                          refine X_icmp_ge (tgt := 112) rfl rfl rfl (fun q => absurd q (by decide)) (fun _ => ?_)
                                          refine X_aload_n rfl rfl rfl rfl ?_
                                          refine X_getR (a := 6) rfl rfl rfl ((congrFun F.1 2).trans s_2) rfl ((congrFun (F.2.1 2 (by decide)) 5).trans r_2_5) ?_
                                          refine X_aload_n rfl rfl rfl rfl ?_
                                          refine X_getI (v := (0 : Int32)) rfl rfl rfl ((congrFun F.1 2).trans s_2) rfl ((congrFun (F.2.2 2 (by decide)).1 0).trans i_2_0) ?_
                                          refine X_bipush (v := (8 : Int32)) rfl rfl rfl ?_
                                          refine X_imul (v := (0 : Int32)) rfl rfl rfl ?_
                                          refine X_iload rfl rfl rfl ?_
                                          refine X_iadd (v := (4 : Int32)) rfl rfl rfl ?_
                                          refine X_aload_n rfl rfl rfl rfl ?_
                                          refine X_iload_n rfl rfl rfl rfl ?_
                                          refine X_iload rfl rfl rfl ?_
                                          refine X_iadd (v := (4 : Int32)) rfl rfl rfl ?_
                                          refine X_iald (v := (b4 - (97 : Int32))) rfl rfl ((congrFun F.1 354).trans s_354) (vp_in_d rfl) rfl ?_
                                          refine X_iast (k0 := 4) rfl rfl ((congrFun F.1 6).trans s_6) (vp_in_d rfl) rfl ?_
                                          refine X_iload rfl rfl rfl ?_
                                          refine X_iconst (v := (1 : Int32)) rfl rfl rfl ?_
                                          refine X_aload_n rfl rfl rfl rfl ?_
                                          refine X_iload_n rfl rfl rfl rfl ?_
                                          refine X_iload rfl rfl rfl ?_
                                          refine X_iadd (v := (4 : Int32)) rfl rfl rfl ?_
                                          refine X_iald (v := (b4 - (97 : Int32))) rfl rfl ((congrFun F.1 354).trans s_354) (vp_in_d rfl) rfl ?_
                                          refine X_ishl (v := ((1 : Int32) <<< ((b4 - (97 : Int32)) &&& 31))) rfl rfl rfl ?_
                                          refine X_ior (v := ((((((0 : Int32) ||| ((1 : Int32) <<< ((b0 - (97 : Int32)) &&& 31))) ||| ((1 : Int32) <<< ((b1 - (97 : Int32)) &&& 31))) ||| ((1 : Int32) <<< ((b2 - (97 : Int32)) &&& 31))) ||| ((1 : Int32) <<< ((b3 - (97 : Int32)) &&& 31))) ||| ((1 : Int32) <<< ((b4 - (97 : Int32)) &&& 31)))) rfl rfl rfl ?_
                                          refine X_istore (i := 5) (ls' := [some (.ref 2), some (.ref 354), some (.int (0 : Int32)), some (.int (5 : Int32)), some (.int s), some (.int ((((((0 : Int32) ||| ((1 : Int32) <<< ((b0 - (97 : Int32)) &&& 31))) ||| ((1 : Int32) <<< ((b1 - (97 : Int32)) &&& 31))) ||| ((1 : Int32) <<< ((b2 - (97 : Int32)) &&& 31))) ||| ((1 : Int32) <<< ((b3 - (97 : Int32)) &&& 31))) ||| ((1 : Int32) <<< ((b4 - (97 : Int32)) &&& 31)))), some (.int (4 : Int32))]) rfl rfl (Nat.le_of_ble_eq_true rfl) rfl ?_
                                          refine X_iinc (v := (5 : Int32)) (ls' := [some (.ref 2), some (.ref 354), some (.int (0 : Int32)), some (.int (5 : Int32)), some (.int s), some (.int ((((((0 : Int32) ||| ((1 : Int32) <<< ((b0 - (97 : Int32)) &&& 31))) ||| ((1 : Int32) <<< ((b1 - (97 : Int32)) &&& 31))) ||| ((1 : Int32) <<< ((b2 - (97 : Int32)) &&& 31))) ||| ((1 : Int32) <<< ((b3 - (97 : Int32)) &&& 31))) ||| ((1 : Int32) <<< ((b4 - (97 : Int32)) &&& 31)))), some (.int (5 : Int32))]) rfl rfl rfl rfl rfl ?_
                                          refine LW_goto (tgt := 66) rfl rfl ?_
                                          refine X_iload rfl rfl rfl ?_
                                          refine X_iload_n rfl rfl rfl rfl ?_
                                          refine X_icmp_ge (tgt := 112) rfl rfl rfl (fun _ => ?_) (fun q => absurd q (by decide))
                                          refine X_aload_n rfl rfl rfl rfl ?_
                                          refine X_getR (a := 3) rfl rfl rfl ((congrFun F.1 2).trans s_2) rfl ((congrFun (F.2.1 2 (by decide)) 2).trans r_2_2) ?_
                                          refine X_aload_n rfl rfl rfl rfl ?_
                                          refine X_getI (v := (0 : Int32)) rfl rfl rfl ((congrFun F.1 2).trans s_2) rfl ((congrFun (F.2.2 2 (by decide)).1 0).trans i_2_0) ?_
                                          refine X_iload_n rfl rfl rfl rfl ?_
                                          refine X_iast (k0 := 0) rfl rfl ((congrFun F.1 3).trans s_3) (vp_in_d rfl) rfl ?_
                                          refine X_aload_n rfl rfl rfl rfl ?_
                                          refine X_getR (a := 4) rfl rfl rfl ((congrFun F.1 2).trans s_2) rfl ((congrFun (F.2.1 2 (by decide)) 3).trans r_2_3) ?_
                                          refine X_aload_n rfl rfl rfl rfl ?_
                                          refine X_getI (v := (0 : Int32)) rfl rfl rfl ((congrFun F.1 2).trans s_2) rfl ((congrFun (F.2.2 2 (by decide)).1 0).trans i_2_0) ?_
                                          refine X_iload rfl rfl rfl ?_
                                          refine X_iast (k0 := 0) rfl rfl ((congrFun F.1 4).trans s_4) (vp_in_d rfl) rfl ?_
                                          refine X_aload_n rfl rfl rfl rfl ?_
                                          refine X_getR (a := 5) rfl rfl rfl ((congrFun F.1 2).trans s_2) rfl ((congrFun (F.2.1 2 (by decide)) 4).trans r_2_4) ?_
                                          refine X_aload_n rfl rfl rfl rfl ?_
                                          refine X_getI (v := (0 : Int32)) rfl rfl rfl ((congrFun F.1 2).trans s_2) rfl ((congrFun (F.2.2 2 (by decide)).1 0).trans i_2_0) ?_
                                          refine X_iload rfl rfl rfl ?_
                                          refine X_iast (k0 := 0) rfl rfl ((congrFun F.1 5).trans s_5) (vp_in_d rfl) rfl ?_
                                          refine X_aload_n rfl rfl rfl rfl ?_
                                          refine X_dup rfl rfl rfl ?_
                                          refine X_getI (v := (0 : Int32)) rfl rfl rfl ((congrFun F.1 2).trans s_2) rfl ((congrFun (F.2.2 2 (by decide)).1 0).trans i_2_0) ?_
                                          refine X_iconst (v := (1 : Int32)) rfl rfl rfl ?_
                                          refine X_iadd (v := (1 : Int32)) rfl rfl rfl ?_
                                          refine X_putI rfl rfl rfl ((congrFun F.1 2).trans s_2) rfl rfl rfl rfl ?_
                                          refine X_aload_n rfl rfl rfl rfl ?_
                                          refine X_getI (v := (1 : Int32)) rfl rfl rfl ((congrFun F.1 2).trans s_2) rfl rfl ?_
                                          refine X_iconst (v := (1 : Int32)) rfl rfl rfl ?_
                                          refine X_isub (v := (0 : Int32)) rfl rfl rfl ?_
                                          refine LW_ireturn (st := []) rfl rfl rfl ?_
                                          refine LW_ireturn (st := []) rfl rfl rfl ⟨congrArg (fun z => some (Value.int z)) ?_, (Fr_putI (Fr_putI (Fr_putI (Fr_putI (Fr_putI (Fr_putI (Fr_putI (Fr_putI (Fr_putI (Fr_putI (Fr_putI (Fr_putI (Fr_putI (Fr_putI E (by decide)) (by decide)) (by decide)) (by decide)) (by decide)) (by decide)) (by decide)) (by decide)) (by decide)) (by decide)) (by decide)) (by decide)) (by decide)) (by decide))⟩
                                          simp only [Int32.lt_iff_toInt_lt, Int32.le_iff_toInt_le, ← Int32.toInt_inj, (show (0 : Int32).toInt = 0 from rfl), (show (9 : Int32).toInt = 9 from rfl), (show (97 : Int32).toInt = 97 from rfl), (show (122 : Int32).toInt = 122 from rfl)] at h1 h2 h3 h4 h5 h6 h7 h8 h9 h10 h11 h12 h13 h14 h15 h16 h32 h33 h34 h35
                                          unfold f_wordB
                                          rw [if_pos (by omega)]
                              · refine X_iconst (v := (-1 : Int32)) rfl rfl rfl ?_
                                refine LW_ireturn (st := []) rfl rfl rfl ⟨congrArg (fun z => some (Value.int z)) ?_, (Fr_putI (Fr_putI (Fr_putI (Fr_putI E (by decide)) (by decide)) (by decide)) (by decide))⟩
                                simp only [Int32.lt_iff_toInt_lt, Int32.le_iff_toInt_le, ← Int32.toInt_inj, (show (0 : Int32).toInt = 0 from rfl), (show (97 : Int32).toInt = 97 from rfl), (show (122 : Int32).toInt = 122 from rfl)] at h1 h2 h3 h4 h5 h6 h7 h8 h9 h10 h11 h12 h13 h14 h15
                                unfold f_wordB
                                rw [if_neg (by omega)]
                          · refine X_iconst (v := (1 : Int32)) rfl rfl rfl ?_
                            refine X_istore (i := 5) (ls' := [some (.ref 0), some (.int a), some (.int c), some (.int s), some (.int (4 : Int32)), some (.int (1 : Int32)), some (.int (4 : Int32)), some (.int b4)]) rfl rfl (Nat.le_of_ble_eq_true rfl) rfl ?_
                            refine LW_goto (tgt := 88) rfl rfl ?_
                            refine X_iinc (v := (5 : Int32)) (ls' := [some (.ref 0), some (.int a), some (.int c), some (.int s), some (.int (4 : Int32)), some (.int (1 : Int32)), some (.int (5 : Int32)), some (.int b4)]) rfl rfl rfl rfl rfl ?_
                            refine LW_goto (tgt := 9) rfl rfl ?_
                            refine X_iload rfl rfl rfl ?_
                            refine X_bipush (v := (8 : Int32)) rfl rfl rfl ?_
                            refine X_icmp_ge (tgt := 94) rfl rfl rfl (fun q => absurd q (by decide)) (fun _ => ?_)
                            refine X_iload rfl rfl rfl ?_
                            refine X_iconst (v := (4 : Int32)) rfl rfl rfl ?_
                            refine X_icmp_ge (tgt := 26) rfl rfl rfl (fun _ => ?_) (fun q => absurd q (by decide))
                            refine X_iload_n rfl rfl rfl rfl ?_
                            refine X_bipush (v := (8 : Int32)) rfl rfl rfl ?_
                            refine X_iload rfl rfl rfl ?_
                            refine X_iconst (v := (4 : Int32)) rfl rfl rfl ?_
                            refine X_irem (v := (1 : Int32)) rfl rfl (by decide) rfl ?_
                            refine X_imul (v := (8 : Int32)) rfl rfl rfl ?_
                            refine X_iushr (v := ((c).toUInt32 >>> (((8 : Int32)).toUInt32 &&& Int32.toUInt32 31)).toInt32) rfl rfl rfl ?_
                            refine X_sipush (v := (255 : Int32)) rfl rfl rfl ?_
                            refine X_iand (v := b5) rfl rfl hb5 ?_
                            refine X_istore (i := 7) (ls' := [some (.ref 0), some (.int a), some (.int c), some (.int s), some (.int (4 : Int32)), some (.int (1 : Int32)), some (.int (5 : Int32)), some (.int b5)]) rfl rfl (Nat.le_of_ble_eq_true rfl) rfl ?_
                            refine X_iload rfl rfl rfl ?_
                            refine X_if_ne (tgt := 52) rfl rfl rfl (fun h36 => ?_) (fun h36 => ?_)
                            · refine X_iload rfl rfl rfl ?_
                              refine X_if_ne (tgt := 71) rfl rfl rfl (fun _ => ?_) (fun q => absurd q (by decide))
                              refine X_iconst (v := (-1 : Int32)) rfl rfl rfl ?_
                              refine LW_ireturn (st := []) rfl rfl rfl ⟨congrArg (fun z => some (Value.int z)) ?_, (Fr_putI (Fr_putI (Fr_putI (Fr_putI E (by decide)) (by decide)) (by decide)) (by decide))⟩
                              simp only [Int32.lt_iff_toInt_lt, Int32.le_iff_toInt_le, ← Int32.toInt_inj, (show (0 : Int32).toInt = 0 from rfl), (show (97 : Int32).toInt = 97 from rfl), (show (122 : Int32).toInt = 122 from rfl)] at h1 h2 h3 h4 h5 h6 h7 h8 h9 h10 h11 h12 h13 h36
                              unfold f_wordB
                              rw [if_neg (by omega)]
                            · refine X_iconst (v := (1 : Int32)) rfl rfl rfl ?_
                              refine X_istore (i := 5) (ls' := [some (.ref 0), some (.int a), some (.int c), some (.int s), some (.int (4 : Int32)), some (.int (1 : Int32)), some (.int (5 : Int32)), some (.int b5)]) rfl rfl (Nat.le_of_ble_eq_true rfl) rfl ?_
                              refine LW_goto (tgt := 88) rfl rfl ?_
                              refine X_iinc (v := (6 : Int32)) (ls' := [some (.ref 0), some (.int a), some (.int c), some (.int s), some (.int (4 : Int32)), some (.int (1 : Int32)), some (.int (6 : Int32)), some (.int b5)]) rfl rfl rfl rfl rfl ?_
                              refine LW_goto (tgt := 9) rfl rfl ?_
                              refine X_iload rfl rfl rfl ?_
                              refine X_bipush (v := (8 : Int32)) rfl rfl rfl ?_
                              refine X_icmp_ge (tgt := 94) rfl rfl rfl (fun q => absurd q (by decide)) (fun _ => ?_)
                              refine X_iload rfl rfl rfl ?_
                              refine X_iconst (v := (4 : Int32)) rfl rfl rfl ?_
                              refine X_icmp_ge (tgt := 26) rfl rfl rfl (fun _ => ?_) (fun q => absurd q (by decide))
                              refine X_iload_n rfl rfl rfl rfl ?_
                              refine X_bipush (v := (8 : Int32)) rfl rfl rfl ?_
                              refine X_iload rfl rfl rfl ?_
                              refine X_iconst (v := (4 : Int32)) rfl rfl rfl ?_
                              refine X_irem (v := (2 : Int32)) rfl rfl (by decide) rfl ?_
                              refine X_imul (v := (16 : Int32)) rfl rfl rfl ?_
                              refine X_iushr (v := ((c).toUInt32 >>> (((16 : Int32)).toUInt32 &&& Int32.toUInt32 31)).toInt32) rfl rfl rfl ?_
                              refine X_sipush (v := (255 : Int32)) rfl rfl rfl ?_
                              refine X_iand (v := b6) rfl rfl hb6 ?_
                              refine X_istore (i := 7) (ls' := [some (.ref 0), some (.int a), some (.int c), some (.int s), some (.int (4 : Int32)), some (.int (1 : Int32)), some (.int (6 : Int32)), some (.int b6)]) rfl rfl (Nat.le_of_ble_eq_true rfl) rfl ?_
                              refine X_iload rfl rfl rfl ?_
                              refine X_if_ne (tgt := 52) rfl rfl rfl (fun h37 => ?_) (fun h37 => ?_)
                              · refine X_iload rfl rfl rfl ?_
                                refine X_if_ne (tgt := 71) rfl rfl rfl (fun _ => ?_) (fun q => absurd q (by decide))
                                refine X_iconst (v := (-1 : Int32)) rfl rfl rfl ?_
                                refine LW_ireturn (st := []) rfl rfl rfl ⟨congrArg (fun z => some (Value.int z)) ?_, (Fr_putI (Fr_putI (Fr_putI (Fr_putI E (by decide)) (by decide)) (by decide)) (by decide))⟩
                                simp only [Int32.lt_iff_toInt_lt, Int32.le_iff_toInt_le, ← Int32.toInt_inj, (show (0 : Int32).toInt = 0 from rfl), (show (97 : Int32).toInt = 97 from rfl), (show (122 : Int32).toInt = 122 from rfl)] at h1 h2 h3 h4 h5 h6 h7 h8 h9 h10 h11 h12 h13 h36 h37
                                unfold f_wordB
                                rw [if_neg (by omega)]
                              · refine X_iconst (v := (1 : Int32)) rfl rfl rfl ?_
                                refine X_istore (i := 5) (ls' := [some (.ref 0), some (.int a), some (.int c), some (.int s), some (.int (4 : Int32)), some (.int (1 : Int32)), some (.int (6 : Int32)), some (.int b6)]) rfl rfl (Nat.le_of_ble_eq_true rfl) rfl ?_
                                refine LW_goto (tgt := 88) rfl rfl ?_
                                refine X_iinc (v := (7 : Int32)) (ls' := [some (.ref 0), some (.int a), some (.int c), some (.int s), some (.int (4 : Int32)), some (.int (1 : Int32)), some (.int (7 : Int32)), some (.int b6)]) rfl rfl rfl rfl rfl ?_
                                refine LW_goto (tgt := 9) rfl rfl ?_
                                refine X_iload rfl rfl rfl ?_
                                refine X_bipush (v := (8 : Int32)) rfl rfl rfl ?_
                                refine X_icmp_ge (tgt := 94) rfl rfl rfl (fun q => absurd q (by decide)) (fun _ => ?_)
                                refine X_iload rfl rfl rfl ?_
                                refine X_iconst (v := (4 : Int32)) rfl rfl rfl ?_
                                refine X_icmp_ge (tgt := 26) rfl rfl rfl (fun _ => ?_) (fun q => absurd q (by decide))
                                refine X_iload_n rfl rfl rfl rfl ?_
                                refine X_bipush (v := (8 : Int32)) rfl rfl rfl ?_
                                refine X_iload rfl rfl rfl ?_
                                refine X_iconst (v := (4 : Int32)) rfl rfl rfl ?_
                                refine X_irem (v := (3 : Int32)) rfl rfl (by decide) rfl ?_
                                refine X_imul (v := (24 : Int32)) rfl rfl rfl ?_
                                refine X_iushr (v := ((c).toUInt32 >>> (((24 : Int32)).toUInt32 &&& Int32.toUInt32 31)).toInt32) rfl rfl rfl ?_
                                refine X_sipush (v := (255 : Int32)) rfl rfl rfl ?_
                                refine X_iand (v := b7) rfl rfl hb7 ?_
                                refine X_istore (i := 7) (ls' := [some (.ref 0), some (.int a), some (.int c), some (.int s), some (.int (4 : Int32)), some (.int (1 : Int32)), some (.int (7 : Int32)), some (.int b7)]) rfl rfl (Nat.le_of_ble_eq_true rfl) rfl ?_
                                refine X_iload rfl rfl rfl ?_
                                refine X_if_ne (tgt := 52) rfl rfl rfl (fun h38 => ?_) (fun h38 => ?_)
                                · refine X_iload rfl rfl rfl ?_
                                  refine X_if_ne (tgt := 71) rfl rfl rfl (fun _ => ?_) (fun q => absurd q (by decide))
                                  refine X_iconst (v := (-1 : Int32)) rfl rfl rfl ?_
                                  refine LW_ireturn (st := []) rfl rfl rfl ⟨congrArg (fun z => some (Value.int z)) ?_, (Fr_putI (Fr_putI (Fr_putI (Fr_putI E (by decide)) (by decide)) (by decide)) (by decide))⟩
                                  simp only [Int32.lt_iff_toInt_lt, Int32.le_iff_toInt_le, ← Int32.toInt_inj, (show (0 : Int32).toInt = 0 from rfl), (show (97 : Int32).toInt = 97 from rfl), (show (122 : Int32).toInt = 122 from rfl)] at h1 h2 h3 h4 h5 h6 h7 h8 h9 h10 h11 h12 h13 h36 h37 h38
                                  unfold f_wordB
                                  rw [if_neg (by omega)]
                                · refine X_iconst (v := (1 : Int32)) rfl rfl rfl ?_
                                  refine X_istore (i := 5) (ls' := [some (.ref 0), some (.int a), some (.int c), some (.int s), some (.int (4 : Int32)), some (.int (1 : Int32)), some (.int (7 : Int32)), some (.int b7)]) rfl rfl (Nat.le_of_ble_eq_true rfl) rfl ?_
                                  refine LW_goto (tgt := 88) rfl rfl ?_
                                  refine X_iinc (v := (8 : Int32)) (ls' := [some (.ref 0), some (.int a), some (.int c), some (.int s), some (.int (4 : Int32)), some (.int (1 : Int32)), some (.int (8 : Int32)), some (.int b7)]) rfl rfl rfl rfl rfl ?_
                                  refine LW_goto (tgt := 9) rfl rfl ?_
                                  refine X_iload rfl rfl rfl ?_
                                  refine X_bipush (v := (8 : Int32)) rfl rfl rfl ?_
                                  refine X_icmp_ge (tgt := 94) rfl rfl rfl (fun _ => ?_) (fun q => absurd q (by decide))
                                  refine X_aload_n rfl rfl rfl rfl ?_
                                  refine X_getR (a := 1) rfl rfl rfl ((congrFun F.1 0).trans s_0) rfl ((congrFun (F.2.1 0 (by decide)) 0).trans r_0_0) ?_
                                  refine X_getR (a := 2) rfl rfl rfl ((congrFun F.1 1).trans s_1) rfl ((congrFun (F.2.1 1 (by decide)) 0).trans r_1_0) ?_
                                  refine X_aload_n rfl rfl rfl rfl ?_
                                  refine X_getR (a := 354) rfl rfl rfl ((congrFun F.1 0).trans s_0) rfl ((congrFun (F.2.1 0 (by decide)) 9).trans r_0_9) ?_
                                  refine X_iconst (v := (0 : Int32)) rfl rfl rfl ?_
                                  refine X_iload rfl rfl rfl ?_
                                  refine X_iload_n rfl rfl rfl rfl ?_
                                  refine X_callV (as := [.ref 354, .int (0 : Int32), .int (4 : Int32), .int s]) (st := []) rfl rfl rfl (by decide) rfl (Nat.le_of_ble_eq_true rfl) (by decide) (Nat.le_of_ble_eq_true rfl) rfl ((congrFun F.1 2).trans s_2) (by decide) ?_
                                  refine LW_ls (ls' := [some (.ref 2), some (.ref 354), some (.int (0 : Int32)), some (.int (4 : Int32)), some (.int s), none, none]) rfl ?_
                                  refine X_iload_n rfl rfl rfl rfl ?_
                                  refine X_iconst (v := (1 : Int32)) rfl rfl rfl ?_
                                  refine X_icmp_lt (tgt := 23) rfl rfl rfl (fun q => absurd q (by decide)) (fun _ => ?_)
                                  refine X_iload_n rfl rfl rfl rfl ?_
                                  refine X_bipush (v := (8 : Int32)) rfl rfl rfl ?_
                                  refine X_icmp_gt (tgt := 23) rfl rfl rfl (fun q => absurd q (by decide)) (fun _ => ?_)
                                  refine X_iload_n rfl rfl rfl rfl ?_
                                  refine X_if_lt (tgt := 23) rfl rfl rfl (fun q => absurd q (by decide)) (fun _ => ?_)
                                  refine X_iload_n rfl rfl rfl rfl ?_
                                  refine X_iload_n rfl rfl rfl rfl ?_
                                  refine X_iadd (v := (4 : Int32)) rfl rfl rfl ?_
                                  refine X_aload_n rfl rfl rfl rfl ?_
                                  refine X_alen (t0 := 0) (v := (8 : Int32)) rfl rfl ((congrFun F.1 354).trans s_354) rfl rfl ?_
                                  refine X_icmp_le (tgt := 25) rfl rfl rfl (fun _ => ?_) (fun q => absurd q (by decide))
                                  refine X_iload rfl rfl rfl ?_
                                  refine X_if_lt (tgt := 46) rfl rfl rfl (fun h39 => ?_) (fun h39 => ?_)
                                  · refine X_iconst (v := (-1 : Int32)) rfl rfl rfl ?_
                                    refine LW_ireturn (st := []) rfl rfl rfl ?_
                                    refine LW_ireturn (st := []) rfl rfl rfl ⟨congrArg (fun z => some (Value.int z)) ?_, (Fr_putI (Fr_putI (Fr_putI (Fr_putI E (by decide)) (by decide)) (by decide)) (by decide))⟩
                                    simp only [Int32.lt_iff_toInt_lt, Int32.le_iff_toInt_le, ← Int32.toInt_inj, (show (0 : Int32).toInt = 0 from rfl), (show (97 : Int32).toInt = 97 from rfl), (show (122 : Int32).toInt = 122 from rfl)] at h1 h2 h3 h4 h5 h6 h7 h8 h9 h10 h11 h12 h13 h36 h37 h38 h39
                                    unfold f_wordB
                                    rw [if_neg (by omega)]
                                  · refine X_iload rfl rfl rfl ?_
                                    refine X_bipush (v := (9 : Int32)) rfl rfl rfl ?_
                                    refine X_icmp_gt (tgt := 46) rfl rfl rfl (fun h40 => ?_) (fun h40 => ?_)
                                    · refine X_iconst (v := (-1 : Int32)) rfl rfl rfl ?_
                                      refine LW_ireturn (st := []) rfl rfl rfl ?_
                                      refine LW_ireturn (st := []) rfl rfl rfl ⟨congrArg (fun z => some (Value.int z)) ?_, (Fr_putI (Fr_putI (Fr_putI (Fr_putI E (by decide)) (by decide)) (by decide)) (by decide))⟩
                                      simp only [Int32.lt_iff_toInt_lt, Int32.le_iff_toInt_le, ← Int32.toInt_inj, (show (0 : Int32).toInt = 0 from rfl), (show (9 : Int32).toInt = 9 from rfl), (show (97 : Int32).toInt = 97 from rfl), (show (122 : Int32).toInt = 122 from rfl)] at h1 h2 h3 h4 h5 h6 h7 h8 h9 h10 h11 h12 h13 h36 h37 h38 h39 h40
                                      unfold f_wordB
                                      rw [if_neg (by omega)]
                                    · refine X_aload_n rfl rfl rfl rfl ?_
                                      refine X_getI (v := (0 : Int32)) rfl rfl rfl ((congrFun F.1 2).trans s_2) rfl ((congrFun (F.2.2 2 (by decide)).1 0).trans i_2_0) ?_
                                      refine X_bipush (v := (24 : Int32)) rfl rfl rfl ?_
                                      refine X_icmp_lt (tgt := 48) rfl rfl rfl (fun _ => ?_) (fun q => absurd q (by decide))
                                      refine X_aload_n rfl rfl rfl rfl ?_
                                      refine X_aload_n rfl rfl rfl rfl ?_
                                      refine X_iload_n rfl rfl rfl rfl ?_
                                      refine X_iload_n rfl rfl rfl rfl ?_
                                      refine X_callV (as := [.ref 354, .int (0 : Int32), .int (4 : Int32)]) (st := []) rfl rfl rfl (by decide) rfl (Nat.le_of_ble_eq_true rfl) (by decide) (Nat.le_of_ble_eq_true rfl) rfl ((congrFun F.1 2).trans s_2) (by decide) ?_
                                      refine LW_ls (ls' := [some (.ref 2), some (.ref 354), some (.int (0 : Int32)), some (.int (4 : Int32)), none, none, none]) rfl ?_
                                      refine X_iconst (v := (0 : Int32)) rfl rfl rfl ?_
                                      refine X_istore (i := 4) (ls' := [some (.ref 2), some (.ref 354), some (.int (0 : Int32)), some (.int (4 : Int32)), some (.int (0 : Int32)), none, none]) rfl rfl (Nat.le_of_ble_eq_true rfl) rfl ?_
                                      refine X_iload rfl rfl rfl ?_
                                      refine X_aload_n rfl rfl rfl rfl ?_
                                      refine X_getI (v := (0 : Int32)) rfl rfl rfl ((congrFun F.1 2).trans s_2) rfl ((congrFun (F.2.2 2 (by decide)).1 0).trans i_2_0) ?_
                                      refine X_icmp_ge (tgt := 91) rfl rfl rfl (fun _ => ?_) (fun q => absurd q (by decide))
                                      refine X_iconst (v := (0 : Int32)) rfl rfl rfl ?_
                                      refine LW_ireturn (st := []) rfl rfl rfl ?_
                                      refine X_if_eq (tgt := 60) rfl rfl rfl (fun _ => ?_) (fun q => absurd q (by decide))
                                      refine X_iconst (v := (0 : Int32)) rfl rfl rfl ?_
                                      refine X_istore (i := 5) (ls' := [some (.ref 2), some (.ref 354), some (.int (0 : Int32)), some (.int (4 : Int32)), some (.int s), some (.int (0 : Int32)), none]) rfl rfl (Nat.le_of_ble_eq_true rfl) rfl ?_
                                      refine X_iconst (v := (0 : Int32)) rfl rfl rfl ?_
                                      refine X_istore (i := 6) (ls' := [some (.ref 2), some (.ref 354), some (.int (0 : Int32)), some (.int (4 : Int32)), some (.int s), some (.int (0 : Int32)), some (.int (0 : Int32))]) rfl rfl (Nat.le_of_ble_eq_true rfl) rfl ?_
                                      refine X_iload rfl rfl rfl ?_
                                      refine X_iload_n rfl rfl rfl rfl ?_
                                      refine X_icmp_ge (tgt := 112) rfl rfl rfl (fun q => absurd q (by decide)) (fun _ => ?_)
                                      refine X_aload_n rfl rfl rfl rfl ?_
                                      refine X_getR (a := 6) rfl rfl rfl ((congrFun F.1 2).trans s_2) rfl ((congrFun (F.2.1 2 (by decide)) 5).trans r_2_5) ?_
                                      refine X_aload_n rfl rfl rfl rfl ?_
                                      refine X_getI (v := (0 : Int32)) rfl rfl rfl ((congrFun F.1 2).trans s_2) rfl ((congrFun (F.2.2 2 (by decide)).1 0).trans i_2_0) ?_
                                      refine X_bipush (v := (8 : Int32)) rfl rfl rfl ?_
                                      refine X_imul (v := (0 : Int32)) rfl rfl rfl ?_
                                      refine X_iload rfl rfl rfl ?_
                                      refine X_iadd (v := (0 : Int32)) rfl rfl rfl ?_
                                      refine X_aload_n rfl rfl rfl rfl ?_
                                      refine X_iload_n rfl rfl rfl rfl ?_
                                      refine X_iload rfl rfl rfl ?_
                                      refine X_iadd (v := (0 : Int32)) rfl rfl rfl ?_
                                      refine X_iald (v := (b0 - (97 : Int32))) rfl rfl ((congrFun F.1 354).trans s_354) (vp_in_d rfl) rfl ?_
                                      refine X_iast (k0 := 0) rfl rfl ((congrFun F.1 6).trans s_6) (vp_in_d rfl) rfl ?_
                                      refine X_iload rfl rfl rfl ?_
                                      refine X_iconst (v := (1 : Int32)) rfl rfl rfl ?_
                                      refine X_aload_n rfl rfl rfl rfl ?_
                                      refine X_iload_n rfl rfl rfl rfl ?_
                                      refine X_iload rfl rfl rfl ?_
                                      refine X_iadd (v := (0 : Int32)) rfl rfl rfl ?_
                                      refine X_iald (v := (b0 - (97 : Int32))) rfl rfl ((congrFun F.1 354).trans s_354) (vp_in_d rfl) rfl ?_
                                      refine X_ishl (v := ((1 : Int32) <<< ((b0 - (97 : Int32)) &&& 31))) rfl rfl rfl ?_
                                      refine X_ior (v := ((0 : Int32) ||| ((1 : Int32) <<< ((b0 - (97 : Int32)) &&& 31)))) rfl rfl rfl ?_
                                      refine X_istore (i := 5) (ls' := [some (.ref 2), some (.ref 354), some (.int (0 : Int32)), some (.int (4 : Int32)), some (.int s), some (.int ((0 : Int32) ||| ((1 : Int32) <<< ((b0 - (97 : Int32)) &&& 31)))), some (.int (0 : Int32))]) rfl rfl (Nat.le_of_ble_eq_true rfl) rfl ?_
                                      refine X_iinc (v := (1 : Int32)) (ls' := [some (.ref 2), some (.ref 354), some (.int (0 : Int32)), some (.int (4 : Int32)), some (.int s), some (.int ((0 : Int32) ||| ((1 : Int32) <<< ((b0 - (97 : Int32)) &&& 31)))), some (.int (1 : Int32))]) rfl rfl rfl rfl rfl ?_
                                      refine LW_goto (tgt := 66) rfl rfl ?_
                                      refine X_iload rfl rfl rfl ?_
                                      refine X_iload_n rfl rfl rfl rfl ?_
                                      refine X_icmp_ge (tgt := 112) rfl rfl rfl (fun q => absurd q (by decide)) (fun _ => ?_)
                                      refine X_aload_n rfl rfl rfl rfl ?_
                                      refine X_getR (a := 6) rfl rfl rfl ((congrFun F.1 2).trans s_2) rfl ((congrFun (F.2.1 2 (by decide)) 5).trans r_2_5) ?_
                                      refine X_aload_n rfl rfl rfl rfl ?_
                                      refine X_getI (v := (0 : Int32)) rfl rfl rfl ((congrFun F.1 2).trans s_2) rfl ((congrFun (F.2.2 2 (by decide)).1 0).trans i_2_0) ?_
                                      refine X_bipush (v := (8 : Int32)) rfl rfl rfl ?_
                                      refine X_imul (v := (0 : Int32)) rfl rfl rfl ?_
                                      refine X_iload rfl rfl rfl ?_
                                      refine X_iadd (v := (1 : Int32)) rfl rfl rfl ?_
                                      refine X_aload_n rfl rfl rfl rfl ?_
                                      refine X_iload_n rfl rfl rfl rfl ?_
                                      refine X_iload rfl rfl rfl ?_
                                      refine X_iadd (v := (1 : Int32)) rfl rfl rfl ?_
                                      refine X_iald (v := (b1 - (97 : Int32))) rfl rfl ((congrFun F.1 354).trans s_354) (vp_in_d rfl) rfl ?_
                                      refine X_iast (k0 := 1) rfl rfl ((congrFun F.1 6).trans s_6) (vp_in_d rfl) rfl ?_
                                      refine X_iload rfl rfl rfl ?_
                                      refine X_iconst (v := (1 : Int32)) rfl rfl rfl ?_
                                      refine X_aload_n rfl rfl rfl rfl ?_
                                      refine X_iload_n rfl rfl rfl rfl ?_
                                      refine X_iload rfl rfl rfl ?_
                                      refine X_iadd (v := (1 : Int32)) rfl rfl rfl ?_
                                      refine X_iald (v := (b1 - (97 : Int32))) rfl rfl ((congrFun F.1 354).trans s_354) (vp_in_d rfl) rfl ?_
                                      refine X_ishl (v := ((1 : Int32) <<< ((b1 - (97 : Int32)) &&& 31))) rfl rfl rfl ?_
                                      refine X_ior (v := (((0 : Int32) ||| ((1 : Int32) <<< ((b0 - (97 : Int32)) &&& 31))) ||| ((1 : Int32) <<< ((b1 - (97 : Int32)) &&& 31)))) rfl rfl rfl ?_
                                      refine X_istore (i := 5) (ls' := [some (.ref 2), some (.ref 354), some (.int (0 : Int32)), some (.int (4 : Int32)), some (.int s), some (.int (((0 : Int32) ||| ((1 : Int32) <<< ((b0 - (97 : Int32)) &&& 31))) ||| ((1 : Int32) <<< ((b1 - (97 : Int32)) &&& 31)))), some (.int (1 : Int32))]) rfl rfl (Nat.le_of_ble_eq_true rfl) rfl ?_
                                      refine X_iinc (v := (2 : Int32)) (ls' := [some (.ref 2), some (.ref 354), some (.int (0 : Int32)), some (.int (4 : Int32)), some (.int s), some (.int (((0 : Int32) ||| ((1 : Int32) <<< ((b0 - (97 : Int32)) &&& 31))) ||| ((1 : Int32) <<< ((b1 - (97 : Int32)) &&& 31)))), some (.int (2 : Int32))]) rfl rfl rfl rfl rfl ?_
                                      refine LW_goto (tgt := 66) rfl rfl ?_
                                      refine X_iload rfl rfl rfl ?_
                                      refine X_iload_n rfl rfl rfl rfl ?_
                                      refine X_icmp_ge (tgt := 112) rfl rfl rfl (fun q => absurd q (by decide)) (fun _ => ?_)
                                      refine X_aload_n rfl rfl rfl rfl ?_
                                      refine X_getR (a := 6) rfl rfl rfl ((congrFun F.1 2).trans s_2) rfl ((congrFun (F.2.1 2 (by decide)) 5).trans r_2_5) ?_
                                      refine X_aload_n rfl rfl rfl rfl ?_
                                      refine X_getI (v := (0 : Int32)) rfl rfl rfl ((congrFun F.1 2).trans s_2) rfl ((congrFun (F.2.2 2 (by decide)).1 0).trans i_2_0) ?_
                                      refine X_bipush (v := (8 : Int32)) rfl rfl rfl ?_
                                      refine X_imul (v := (0 : Int32)) rfl rfl rfl ?_
                                      refine X_iload rfl rfl rfl ?_
                                      refine X_iadd (v := (2 : Int32)) rfl rfl rfl ?_
                                      refine X_aload_n rfl rfl rfl rfl ?_
                                      refine X_iload_n rfl rfl rfl rfl ?_
                                      refine X_iload rfl rfl rfl ?_
                                      refine X_iadd (v := (2 : Int32)) rfl rfl rfl ?_
                                      refine X_iald (v := (b2 - (97 : Int32))) rfl rfl ((congrFun F.1 354).trans s_354) (vp_in_d rfl) rfl ?_
                                      refine X_iast (k0 := 2) rfl rfl ((congrFun F.1 6).trans s_6) (vp_in_d rfl) rfl ?_
                                      refine X_iload rfl rfl rfl ?_
                                      refine X_iconst (v := (1 : Int32)) rfl rfl rfl ?_
                                      refine X_aload_n rfl rfl rfl rfl ?_
                                      refine X_iload_n rfl rfl rfl rfl ?_
                                      refine X_iload rfl rfl rfl ?_
                                      refine X_iadd (v := (2 : Int32)) rfl rfl rfl ?_
                                      refine X_iald (v := (b2 - (97 : Int32))) rfl rfl ((congrFun F.1 354).trans s_354) (vp_in_d rfl) rfl ?_
                                      refine X_ishl (v := ((1 : Int32) <<< ((b2 - (97 : Int32)) &&& 31))) rfl rfl rfl ?_
                                      refine X_ior (v := ((((0 : Int32) ||| ((1 : Int32) <<< ((b0 - (97 : Int32)) &&& 31))) ||| ((1 : Int32) <<< ((b1 - (97 : Int32)) &&& 31))) ||| ((1 : Int32) <<< ((b2 - (97 : Int32)) &&& 31)))) rfl rfl rfl ?_
                                      refine X_istore (i := 5) (ls' := [some (.ref 2), some (.ref 354), some (.int (0 : Int32)), some (.int (4 : Int32)), some (.int s), some (.int ((((0 : Int32) ||| ((1 : Int32) <<< ((b0 - (97 : Int32)) &&& 31))) ||| ((1 : Int32) <<< ((b1 - (97 : Int32)) &&& 31))) ||| ((1 : Int32) <<< ((b2 - (97 : Int32)) &&& 31)))), some (.int (2 : Int32))]) rfl rfl (Nat.le_of_ble_eq_true rfl) rfl ?_
                                      refine X_iinc (v := (3 : Int32)) (ls' := [some (.ref 2), some (.ref 354), some (.int (0 : Int32)), some (.int (4 : Int32)), some (.int s), some (.int ((((0 : Int32) ||| ((1 : Int32) <<< ((b0 - (97 : Int32)) &&& 31))) ||| ((1 : Int32) <<< ((b1 - (97 : Int32)) &&& 31))) ||| ((1 : Int32) <<< ((b2 - (97 : Int32)) &&& 31)))), some (.int (3 : Int32))]) rfl rfl rfl rfl rfl ?_
                                      refine LW_goto (tgt := 66) rfl rfl ?_
                                      refine X_iload rfl rfl rfl ?_
                                      refine X_iload_n rfl rfl rfl rfl ?_
                                      refine X_icmp_ge (tgt := 112) rfl rfl rfl (fun q => absurd q (by decide)) (fun _ => ?_)
                                      refine X_aload_n rfl rfl rfl rfl ?_
                                      refine X_getR (a := 6) rfl rfl rfl ((congrFun F.1 2).trans s_2) rfl ((congrFun (F.2.1 2 (by decide)) 5).trans r_2_5) ?_
                                      refine X_aload_n rfl rfl rfl rfl ?_
                                      refine X_getI (v := (0 : Int32)) rfl rfl rfl ((congrFun F.1 2).trans s_2) rfl ((congrFun (F.2.2 2 (by decide)).1 0).trans i_2_0) ?_
                                      refine X_bipush (v := (8 : Int32)) rfl rfl rfl ?_
                                      refine X_imul (v := (0 : Int32)) rfl rfl rfl ?_
                                      refine X_iload rfl rfl rfl ?_
                                      refine X_iadd (v := (3 : Int32)) rfl rfl rfl ?_
                                      refine X_aload_n rfl rfl rfl rfl ?_
                                      refine X_iload_n rfl rfl rfl rfl ?_
                                      refine X_iload rfl rfl rfl ?_
                                      refine X_iadd (v := (3 : Int32)) rfl rfl rfl ?_
                                      refine X_iald (v := (b3 - (97 : Int32))) rfl rfl ((congrFun F.1 354).trans s_354) (vp_in_d rfl) rfl ?_
                                      refine X_iast (k0 := 3) rfl rfl ((congrFun F.1 6).trans s_6) (vp_in_d rfl) rfl ?_
                                      refine X_iload rfl rfl rfl ?_
                                      refine X_iconst (v := (1 : Int32)) rfl rfl rfl ?_
                                      refine X_aload_n rfl rfl rfl rfl ?_
                                      refine X_iload_n rfl rfl rfl rfl ?_
                                      refine X_iload rfl rfl rfl ?_
                                      refine X_iadd (v := (3 : Int32)) rfl rfl rfl ?_
                                      refine X_iald (v := (b3 - (97 : Int32))) rfl rfl ((congrFun F.1 354).trans s_354) (vp_in_d rfl) rfl ?_
                                      refine X_ishl (v := ((1 : Int32) <<< ((b3 - (97 : Int32)) &&& 31))) rfl rfl rfl ?_
                                      refine X_ior (v := (((((0 : Int32) ||| ((1 : Int32) <<< ((b0 - (97 : Int32)) &&& 31))) ||| ((1 : Int32) <<< ((b1 - (97 : Int32)) &&& 31))) ||| ((1 : Int32) <<< ((b2 - (97 : Int32)) &&& 31))) ||| ((1 : Int32) <<< ((b3 - (97 : Int32)) &&& 31)))) rfl rfl rfl ?_
                                      refine X_istore (i := 5) (ls' := [some (.ref 2), some (.ref 354), some (.int (0 : Int32)), some (.int (4 : Int32)), some (.int s), some (.int (((((0 : Int32) ||| ((1 : Int32) <<< ((b0 - (97 : Int32)) &&& 31))) ||| ((1 : Int32) <<< ((b1 - (97 : Int32)) &&& 31))) ||| ((1 : Int32) <<< ((b2 - (97 : Int32)) &&& 31))) ||| ((1 : Int32) <<< ((b3 - (97 : Int32)) &&& 31)))), some (.int (3 : Int32))]) rfl rfl (Nat.le_of_ble_eq_true rfl) rfl ?_
                                      refine X_iinc (v := (4 : Int32)) (ls' := [some (.ref 2), some (.ref 354), some (.int (0 : Int32)), some (.int (4 : Int32)), some (.int s), some (.int (((((0 : Int32) ||| ((1 : Int32) <<< ((b0 - (97 : Int32)) &&& 31))) ||| ((1 : Int32) <<< ((b1 - (97 : Int32)) &&& 31))) ||| ((1 : Int32) <<< ((b2 - (97 : Int32)) &&& 31))) ||| ((1 : Int32) <<< ((b3 - (97 : Int32)) &&& 31)))), some (.int (4 : Int32))]) rfl rfl rfl rfl rfl ?_
                                      refine LW_goto (tgt := 66) rfl rfl ?_
                                      refine X_iload rfl rfl rfl ?_
                                      refine X_iload_n rfl rfl rfl rfl ?_
                                      refine X_icmp_ge (tgt := 112) rfl rfl rfl (fun _ => ?_) (fun q => absurd q (by decide))
                                      refine X_aload_n rfl rfl rfl rfl ?_
                                      refine X_getR (a := 3) rfl rfl rfl ((congrFun F.1 2).trans s_2) rfl ((congrFun (F.2.1 2 (by decide)) 2).trans r_2_2) ?_
                                      refine X_aload_n rfl rfl rfl rfl ?_
                                      refine X_getI (v := (0 : Int32)) rfl rfl rfl ((congrFun F.1 2).trans s_2) rfl ((congrFun (F.2.2 2 (by decide)).1 0).trans i_2_0) ?_
                                      refine X_iload_n rfl rfl rfl rfl ?_
                                      refine X_iast (k0 := 0) rfl rfl ((congrFun F.1 3).trans s_3) (vp_in_d rfl) rfl ?_
                                      refine X_aload_n rfl rfl rfl rfl ?_
                                      refine X_getR (a := 4) rfl rfl rfl ((congrFun F.1 2).trans s_2) rfl ((congrFun (F.2.1 2 (by decide)) 3).trans r_2_3) ?_
                                      refine X_aload_n rfl rfl rfl rfl ?_
                                      refine X_getI (v := (0 : Int32)) rfl rfl rfl ((congrFun F.1 2).trans s_2) rfl ((congrFun (F.2.2 2 (by decide)).1 0).trans i_2_0) ?_
                                      refine X_iload rfl rfl rfl ?_
                                      refine X_iast (k0 := 0) rfl rfl ((congrFun F.1 4).trans s_4) (vp_in_d rfl) rfl ?_
                                      refine X_aload_n rfl rfl rfl rfl ?_
                                      refine X_getR (a := 5) rfl rfl rfl ((congrFun F.1 2).trans s_2) rfl ((congrFun (F.2.1 2 (by decide)) 4).trans r_2_4) ?_
                                      refine X_aload_n rfl rfl rfl rfl ?_
                                      refine X_getI (v := (0 : Int32)) rfl rfl rfl ((congrFun F.1 2).trans s_2) rfl ((congrFun (F.2.2 2 (by decide)).1 0).trans i_2_0) ?_
                                      refine X_iload rfl rfl rfl ?_
                                      refine X_iast (k0 := 0) rfl rfl ((congrFun F.1 5).trans s_5) (vp_in_d rfl) rfl ?_
                                      refine X_aload_n rfl rfl rfl rfl ?_
                                      refine X_dup rfl rfl rfl ?_
                                      refine X_getI (v := (0 : Int32)) rfl rfl rfl ((congrFun F.1 2).trans s_2) rfl ((congrFun (F.2.2 2 (by decide)).1 0).trans i_2_0) ?_
                                      refine X_iconst (v := (1 : Int32)) rfl rfl rfl ?_
                                      refine X_iadd (v := (1 : Int32)) rfl rfl rfl ?_
                                      refine X_putI rfl rfl rfl ((congrFun F.1 2).trans s_2) rfl rfl rfl rfl ?_
                                      refine X_aload_n rfl rfl rfl rfl ?_
                                      refine X_getI (v := (1 : Int32)) rfl rfl rfl ((congrFun F.1 2).trans s_2) rfl rfl ?_
                                      refine X_iconst (v := (1 : Int32)) rfl rfl rfl ?_
                                      refine X_isub (v := (0 : Int32)) rfl rfl rfl ?_
                                      refine LW_ireturn (st := []) rfl rfl rfl ?_
                                      refine LW_ireturn (st := []) rfl rfl rfl ⟨congrArg (fun z => some (Value.int z)) ?_, (Fr_putI (Fr_putI (Fr_putI (Fr_putI (Fr_putI (Fr_putI (Fr_putI (Fr_putI (Fr_putI (Fr_putI (Fr_putI (Fr_putI E (by decide)) (by decide)) (by decide)) (by decide)) (by decide)) (by decide)) (by decide)) (by decide)) (by decide)) (by decide)) (by decide)) (by decide))⟩
                                      simp only [Int32.lt_iff_toInt_lt, Int32.le_iff_toInt_le, ← Int32.toInt_inj, (show (0 : Int32).toInt = 0 from rfl), (show (9 : Int32).toInt = 9 from rfl), (show (97 : Int32).toInt = 97 from rfl), (show (122 : Int32).toInt = 122 from rfl)] at h1 h2 h3 h4 h5 h6 h7 h8 h9 h10 h11 h12 h13 h36 h37 h38 h39 h40
                                      unfold f_wordB
                                      rw [if_pos (by omega)]
                        · refine X_iconst (v := (-1 : Int32)) rfl rfl rfl ?_
                          refine LW_ireturn (st := []) rfl rfl rfl ⟨congrArg (fun z => some (Value.int z)) ?_, (Fr_putI (Fr_putI (Fr_putI E (by decide)) (by decide)) (by decide))⟩
                          simp only [Int32.lt_iff_toInt_lt, Int32.le_iff_toInt_le, ← Int32.toInt_inj, (show (0 : Int32).toInt = 0 from rfl), (show (97 : Int32).toInt = 97 from rfl), (show (122 : Int32).toInt = 122 from rfl)] at h1 h2 h3 h4 h5 h6 h7 h8 h9 h10 h11 h12
                          unfold f_wordB
                          rw [if_neg (by omega)]
                    · refine X_iconst (v := (1 : Int32)) rfl rfl rfl ?_
                      refine X_istore (i := 5) (ls' := [some (.ref 0), some (.int a), some (.int c), some (.int s), some (.int (3 : Int32)), some (.int (1 : Int32)), some (.int (3 : Int32)), some (.int b3)]) rfl rfl (Nat.le_of_ble_eq_true rfl) rfl ?_
                      refine LW_goto (tgt := 88) rfl rfl ?_
                      refine X_iinc (v := (4 : Int32)) (ls' := [some (.ref 0), some (.int a), some (.int c), some (.int s), some (.int (3 : Int32)), some (.int (1 : Int32)), some (.int (4 : Int32)), some (.int b3)]) rfl rfl rfl rfl rfl ?_
                      refine LW_goto (tgt := 9) rfl rfl ?_
                      refine X_iload rfl rfl rfl ?_
                      refine X_bipush (v := (8 : Int32)) rfl rfl rfl ?_
                      refine X_icmp_ge (tgt := 94) rfl rfl rfl (fun q => absurd q (by decide)) (fun _ => ?_)
                      refine X_iload rfl rfl rfl ?_
                      refine X_iconst (v := (4 : Int32)) rfl rfl rfl ?_
                      refine X_icmp_ge (tgt := 26) rfl rfl rfl (fun _ => ?_) (fun q => absurd q (by decide))
                      refine X_iload_n rfl rfl rfl rfl ?_
                      refine X_bipush (v := (8 : Int32)) rfl rfl rfl ?_
                      refine X_iload rfl rfl rfl ?_
                      refine X_iconst (v := (4 : Int32)) rfl rfl rfl ?_
                      refine X_irem (v := (0 : Int32)) rfl rfl (by decide) rfl ?_
                      refine X_imul (v := (0 : Int32)) rfl rfl rfl ?_
                      refine X_iushr (v := ((c).toUInt32 >>> (((0 : Int32)).toUInt32 &&& Int32.toUInt32 31)).toInt32) rfl rfl rfl ?_
                      refine X_sipush (v := (255 : Int32)) rfl rfl rfl ?_
                      refine X_iand (v := b4) rfl rfl hb4 ?_
                      refine X_istore (i := 7) (ls' := [some (.ref 0), some (.int a), some (.int c), some (.int s), some (.int (3 : Int32)), some (.int (1 : Int32)), some (.int (4 : Int32)), some (.int b4)]) rfl rfl (Nat.le_of_ble_eq_true rfl) rfl ?_
                      refine X_iload rfl rfl rfl ?_
                      refine X_if_ne (tgt := 52) rfl rfl rfl (fun h41 => ?_) (fun h41 => ?_)
                      · refine X_iload rfl rfl rfl ?_
                        refine X_if_ne (tgt := 71) rfl rfl rfl (fun _ => ?_) (fun q => absurd q (by decide))
                        refine X_iconst (v := (-1 : Int32)) rfl rfl rfl ?_
                        refine LW_ireturn (st := []) rfl rfl rfl ⟨congrArg (fun z => some (Value.int z)) ?_, (Fr_putI (Fr_putI (Fr_putI E (by decide)) (by decide)) (by decide))⟩
                        simp only [Int32.lt_iff_toInt_lt, Int32.le_iff_toInt_le, ← Int32.toInt_inj, (show (0 : Int32).toInt = 0 from rfl), (show (97 : Int32).toInt = 97 from rfl), (show (122 : Int32).toInt = 122 from rfl)] at h1 h2 h3 h4 h5 h6 h7 h8 h9 h10 h41
                        unfold f_wordB
                        rw [if_neg (by omega)]
                      · refine X_iconst (v := (1 : Int32)) rfl rfl rfl ?_
                        refine X_istore (i := 5) (ls' := [some (.ref 0), some (.int a), some (.int c), some (.int s), some (.int (3 : Int32)), some (.int (1 : Int32)), some (.int (4 : Int32)), some (.int b4)]) rfl rfl (Nat.le_of_ble_eq_true rfl) rfl ?_
                        refine LW_goto (tgt := 88) rfl rfl ?_
                        refine X_iinc (v := (5 : Int32)) (ls' := [some (.ref 0), some (.int a), some (.int c), some (.int s), some (.int (3 : Int32)), some (.int (1 : Int32)), some (.int (5 : Int32)), some (.int b4)]) rfl rfl rfl rfl rfl ?_
                        refine LW_goto (tgt := 9) rfl rfl ?_
                        refine X_iload rfl rfl rfl ?_
                        refine X_bipush (v := (8 : Int32)) rfl rfl rfl ?_
                        refine X_icmp_ge (tgt := 94) rfl rfl rfl (fun q => absurd q (by decide)) (fun _ => ?_)
                        refine X_iload rfl rfl rfl ?_
                        refine X_iconst (v := (4 : Int32)) rfl rfl rfl ?_
                        refine X_icmp_ge (tgt := 26) rfl rfl rfl (fun _ => ?_) (fun q => absurd q (by decide))
                        refine X_iload_n rfl rfl rfl rfl ?_
                        refine X_bipush (v := (8 : Int32)) rfl rfl rfl ?_
                        refine X_iload rfl rfl rfl ?_
                        refine X_iconst (v := (4 : Int32)) rfl rfl rfl ?_
                        refine X_irem (v := (1 : Int32)) rfl rfl (by decide) rfl ?_
                        refine X_imul (v := (8 : Int32)) rfl rfl rfl ?_
                        refine X_iushr (v := ((c).toUInt32 >>> (((8 : Int32)).toUInt32 &&& Int32.toUInt32 31)).toInt32) rfl rfl rfl ?_
                        refine X_sipush (v := (255 : Int32)) rfl rfl rfl ?_
                        refine X_iand (v := b5) rfl rfl hb5 ?_
                        refine X_istore (i := 7) (ls' := [some (.ref 0), some (.int a), some (.int c), some (.int s), some (.int (3 : Int32)), some (.int (1 : Int32)), some (.int (5 : Int32)), some (.int b5)]) rfl rfl (Nat.le_of_ble_eq_true rfl) rfl ?_
                        refine X_iload rfl rfl rfl ?_
                        refine X_if_ne (tgt := 52) rfl rfl rfl (fun h42 => ?_) (fun h42 => ?_)
                        · refine X_iload rfl rfl rfl ?_
                          refine X_if_ne (tgt := 71) rfl rfl rfl (fun _ => ?_) (fun q => absurd q (by decide))
                          refine X_iconst (v := (-1 : Int32)) rfl rfl rfl ?_
                          refine LW_ireturn (st := []) rfl rfl rfl ⟨congrArg (fun z => some (Value.int z)) ?_, (Fr_putI (Fr_putI (Fr_putI E (by decide)) (by decide)) (by decide))⟩
                          simp only [Int32.lt_iff_toInt_lt, Int32.le_iff_toInt_le, ← Int32.toInt_inj, (show (0 : Int32).toInt = 0 from rfl), (show (97 : Int32).toInt = 97 from rfl), (show (122 : Int32).toInt = 122 from rfl)] at h1 h2 h3 h4 h5 h6 h7 h8 h9 h10 h41 h42
                          unfold f_wordB
                          rw [if_neg (by omega)]
                        · refine X_iconst (v := (1 : Int32)) rfl rfl rfl ?_
                          refine X_istore (i := 5) (ls' := [some (.ref 0), some (.int a), some (.int c), some (.int s), some (.int (3 : Int32)), some (.int (1 : Int32)), some (.int (5 : Int32)), some (.int b5)]) rfl rfl (Nat.le_of_ble_eq_true rfl) rfl ?_
                          refine LW_goto (tgt := 88) rfl rfl ?_
                          refine X_iinc (v := (6 : Int32)) (ls' := [some (.ref 0), some (.int a), some (.int c), some (.int s), some (.int (3 : Int32)), some (.int (1 : Int32)), some (.int (6 : Int32)), some (.int b5)]) rfl rfl rfl rfl rfl ?_
                          refine LW_goto (tgt := 9) rfl rfl ?_
                          refine X_iload rfl rfl rfl ?_
                          refine X_bipush (v := (8 : Int32)) rfl rfl rfl ?_
                          refine X_icmp_ge (tgt := 94) rfl rfl rfl (fun q => absurd q (by decide)) (fun _ => ?_)
                          refine X_iload rfl rfl rfl ?_
                          refine X_iconst (v := (4 : Int32)) rfl rfl rfl ?_
                          refine X_icmp_ge (tgt := 26) rfl rfl rfl (fun _ => ?_) (fun q => absurd q (by decide))
                          refine X_iload_n rfl rfl rfl rfl ?_
                          refine X_bipush (v := (8 : Int32)) rfl rfl rfl ?_
                          refine X_iload rfl rfl rfl ?_
                          refine X_iconst (v := (4 : Int32)) rfl rfl rfl ?_
                          refine X_irem (v := (2 : Int32)) rfl rfl (by decide) rfl ?_
                          refine X_imul (v := (16 : Int32)) rfl rfl rfl ?_
                          refine X_iushr (v := ((c).toUInt32 >>> (((16 : Int32)).toUInt32 &&& Int32.toUInt32 31)).toInt32) rfl rfl rfl ?_
                          refine X_sipush (v := (255 : Int32)) rfl rfl rfl ?_
                          refine X_iand (v := b6) rfl rfl hb6 ?_
                          refine X_istore (i := 7) (ls' := [some (.ref 0), some (.int a), some (.int c), some (.int s), some (.int (3 : Int32)), some (.int (1 : Int32)), some (.int (6 : Int32)), some (.int b6)]) rfl rfl (Nat.le_of_ble_eq_true rfl) rfl ?_
                          refine X_iload rfl rfl rfl ?_
                          refine X_if_ne (tgt := 52) rfl rfl rfl (fun h43 => ?_) (fun h43 => ?_)
                          · refine X_iload rfl rfl rfl ?_
                            refine X_if_ne (tgt := 71) rfl rfl rfl (fun _ => ?_) (fun q => absurd q (by decide))
                            refine X_iconst (v := (-1 : Int32)) rfl rfl rfl ?_
                            refine LW_ireturn (st := []) rfl rfl rfl ⟨congrArg (fun z => some (Value.int z)) ?_, (Fr_putI (Fr_putI (Fr_putI E (by decide)) (by decide)) (by decide))⟩
                            simp only [Int32.lt_iff_toInt_lt, Int32.le_iff_toInt_le, ← Int32.toInt_inj, (show (0 : Int32).toInt = 0 from rfl), (show (97 : Int32).toInt = 97 from rfl), (show (122 : Int32).toInt = 122 from rfl)] at h1 h2 h3 h4 h5 h6 h7 h8 h9 h10 h41 h42 h43
                            unfold f_wordB
                            rw [if_neg (by omega)]
                          · refine X_iconst (v := (1 : Int32)) rfl rfl rfl ?_
                            refine X_istore (i := 5) (ls' := [some (.ref 0), some (.int a), some (.int c), some (.int s), some (.int (3 : Int32)), some (.int (1 : Int32)), some (.int (6 : Int32)), some (.int b6)]) rfl rfl (Nat.le_of_ble_eq_true rfl) rfl ?_
                            refine LW_goto (tgt := 88) rfl rfl ?_
                            refine X_iinc (v := (7 : Int32)) (ls' := [some (.ref 0), some (.int a), some (.int c), some (.int s), some (.int (3 : Int32)), some (.int (1 : Int32)), some (.int (7 : Int32)), some (.int b6)]) rfl rfl rfl rfl rfl ?_
                            refine LW_goto (tgt := 9) rfl rfl ?_
                            refine X_iload rfl rfl rfl ?_
                            refine X_bipush (v := (8 : Int32)) rfl rfl rfl ?_
                            refine X_icmp_ge (tgt := 94) rfl rfl rfl (fun q => absurd q (by decide)) (fun _ => ?_)
                            refine X_iload rfl rfl rfl ?_
                            refine X_iconst (v := (4 : Int32)) rfl rfl rfl ?_
                            refine X_icmp_ge (tgt := 26) rfl rfl rfl (fun _ => ?_) (fun q => absurd q (by decide))
                            refine X_iload_n rfl rfl rfl rfl ?_
                            refine X_bipush (v := (8 : Int32)) rfl rfl rfl ?_
                            refine X_iload rfl rfl rfl ?_
                            refine X_iconst (v := (4 : Int32)) rfl rfl rfl ?_
                            refine X_irem (v := (3 : Int32)) rfl rfl (by decide) rfl ?_
                            refine X_imul (v := (24 : Int32)) rfl rfl rfl ?_
                            refine X_iushr (v := ((c).toUInt32 >>> (((24 : Int32)).toUInt32 &&& Int32.toUInt32 31)).toInt32) rfl rfl rfl ?_
                            refine X_sipush (v := (255 : Int32)) rfl rfl rfl ?_
                            refine X_iand (v := b7) rfl rfl hb7 ?_
                            refine X_istore (i := 7) (ls' := [some (.ref 0), some (.int a), some (.int c), some (.int s), some (.int (3 : Int32)), some (.int (1 : Int32)), some (.int (7 : Int32)), some (.int b7)]) rfl rfl (Nat.le_of_ble_eq_true rfl) rfl ?_
                            refine X_iload rfl rfl rfl ?_
                            refine X_if_ne (tgt := 52) rfl rfl rfl (fun h44 => ?_) (fun h44 => ?_)
                            · refine X_iload rfl rfl rfl ?_
                              refine X_if_ne (tgt := 71) rfl rfl rfl (fun _ => ?_) (fun q => absurd q (by decide))
                              refine X_iconst (v := (-1 : Int32)) rfl rfl rfl ?_
                              refine LW_ireturn (st := []) rfl rfl rfl ⟨congrArg (fun z => some (Value.int z)) ?_, (Fr_putI (Fr_putI (Fr_putI E (by decide)) (by decide)) (by decide))⟩
                              simp only [Int32.lt_iff_toInt_lt, Int32.le_iff_toInt_le, ← Int32.toInt_inj, (show (0 : Int32).toInt = 0 from rfl), (show (97 : Int32).toInt = 97 from rfl), (show (122 : Int32).toInt = 122 from rfl)] at h1 h2 h3 h4 h5 h6 h7 h8 h9 h10 h41 h42 h43 h44
                              unfold f_wordB
                              rw [if_neg (by omega)]
                            · refine X_iconst (v := (1 : Int32)) rfl rfl rfl ?_
                              refine X_istore (i := 5) (ls' := [some (.ref 0), some (.int a), some (.int c), some (.int s), some (.int (3 : Int32)), some (.int (1 : Int32)), some (.int (7 : Int32)), some (.int b7)]) rfl rfl (Nat.le_of_ble_eq_true rfl) rfl ?_
                              refine LW_goto (tgt := 88) rfl rfl ?_
                              refine X_iinc (v := (8 : Int32)) (ls' := [some (.ref 0), some (.int a), some (.int c), some (.int s), some (.int (3 : Int32)), some (.int (1 : Int32)), some (.int (8 : Int32)), some (.int b7)]) rfl rfl rfl rfl rfl ?_
                              refine LW_goto (tgt := 9) rfl rfl ?_
                              refine X_iload rfl rfl rfl ?_
                              refine X_bipush (v := (8 : Int32)) rfl rfl rfl ?_
                              refine X_icmp_ge (tgt := 94) rfl rfl rfl (fun _ => ?_) (fun q => absurd q (by decide))
                              refine X_aload_n rfl rfl rfl rfl ?_
                              refine X_getR (a := 1) rfl rfl rfl ((congrFun F.1 0).trans s_0) rfl ((congrFun (F.2.1 0 (by decide)) 0).trans r_0_0) ?_
                              refine X_getR (a := 2) rfl rfl rfl ((congrFun F.1 1).trans s_1) rfl ((congrFun (F.2.1 1 (by decide)) 0).trans r_1_0) ?_
                              refine X_aload_n rfl rfl rfl rfl ?_
                              refine X_getR (a := 354) rfl rfl rfl ((congrFun F.1 0).trans s_0) rfl ((congrFun (F.2.1 0 (by decide)) 9).trans r_0_9) ?_
                              refine X_iconst (v := (0 : Int32)) rfl rfl rfl ?_
                              refine X_iload rfl rfl rfl ?_
                              refine X_iload_n rfl rfl rfl rfl ?_
                              refine X_callV (as := [.ref 354, .int (0 : Int32), .int (3 : Int32), .int s]) (st := []) rfl rfl rfl (by decide) rfl (Nat.le_of_ble_eq_true rfl) (by decide) (Nat.le_of_ble_eq_true rfl) rfl ((congrFun F.1 2).trans s_2) (by decide) ?_
                              refine LW_ls (ls' := [some (.ref 2), some (.ref 354), some (.int (0 : Int32)), some (.int (3 : Int32)), some (.int s), none, none]) rfl ?_
                              refine X_iload_n rfl rfl rfl rfl ?_
                              refine X_iconst (v := (1 : Int32)) rfl rfl rfl ?_
                              refine X_icmp_lt (tgt := 23) rfl rfl rfl (fun q => absurd q (by decide)) (fun _ => ?_)
                              refine X_iload_n rfl rfl rfl rfl ?_
                              refine X_bipush (v := (8 : Int32)) rfl rfl rfl ?_
                              refine X_icmp_gt (tgt := 23) rfl rfl rfl (fun q => absurd q (by decide)) (fun _ => ?_)
                              refine X_iload_n rfl rfl rfl rfl ?_
                              refine X_if_lt (tgt := 23) rfl rfl rfl (fun q => absurd q (by decide)) (fun _ => ?_)
                              refine X_iload_n rfl rfl rfl rfl ?_
                              refine X_iload_n rfl rfl rfl rfl ?_
                              refine X_iadd (v := (3 : Int32)) rfl rfl rfl ?_
                              refine X_aload_n rfl rfl rfl rfl ?_
                              refine X_alen (t0 := 0) (v := (8 : Int32)) rfl rfl ((congrFun F.1 354).trans s_354) rfl rfl ?_
                              refine X_icmp_le (tgt := 25) rfl rfl rfl (fun _ => ?_) (fun q => absurd q (by decide))
                              refine X_iload rfl rfl rfl ?_
                              refine X_if_lt (tgt := 46) rfl rfl rfl (fun h45 => ?_) (fun h45 => ?_)
                              · refine X_iconst (v := (-1 : Int32)) rfl rfl rfl ?_
                                refine LW_ireturn (st := []) rfl rfl rfl ?_
                                refine LW_ireturn (st := []) rfl rfl rfl ⟨congrArg (fun z => some (Value.int z)) ?_, (Fr_putI (Fr_putI (Fr_putI E (by decide)) (by decide)) (by decide))⟩
                                simp only [Int32.lt_iff_toInt_lt, Int32.le_iff_toInt_le, ← Int32.toInt_inj, (show (0 : Int32).toInt = 0 from rfl), (show (97 : Int32).toInt = 97 from rfl), (show (122 : Int32).toInt = 122 from rfl)] at h1 h2 h3 h4 h5 h6 h7 h8 h9 h10 h41 h42 h43 h44 h45
                                unfold f_wordB
                                rw [if_neg (by omega)]
                              · refine X_iload rfl rfl rfl ?_
                                refine X_bipush (v := (9 : Int32)) rfl rfl rfl ?_
                                refine X_icmp_gt (tgt := 46) rfl rfl rfl (fun h46 => ?_) (fun h46 => ?_)
                                · refine X_iconst (v := (-1 : Int32)) rfl rfl rfl ?_
                                  refine LW_ireturn (st := []) rfl rfl rfl ?_
                                  refine LW_ireturn (st := []) rfl rfl rfl ⟨congrArg (fun z => some (Value.int z)) ?_, (Fr_putI (Fr_putI (Fr_putI E (by decide)) (by decide)) (by decide))⟩
                                  simp only [Int32.lt_iff_toInt_lt, Int32.le_iff_toInt_le, ← Int32.toInt_inj, (show (0 : Int32).toInt = 0 from rfl), (show (9 : Int32).toInt = 9 from rfl), (show (97 : Int32).toInt = 97 from rfl), (show (122 : Int32).toInt = 122 from rfl)] at h1 h2 h3 h4 h5 h6 h7 h8 h9 h10 h41 h42 h43 h44 h45 h46
                                  unfold f_wordB
                                  rw [if_neg (by omega)]
                                · refine X_aload_n rfl rfl rfl rfl ?_
                                  refine X_getI (v := (0 : Int32)) rfl rfl rfl ((congrFun F.1 2).trans s_2) rfl ((congrFun (F.2.2 2 (by decide)).1 0).trans i_2_0) ?_
                                  refine X_bipush (v := (24 : Int32)) rfl rfl rfl ?_
                                  refine X_icmp_lt (tgt := 48) rfl rfl rfl (fun _ => ?_) (fun q => absurd q (by decide))
                                  refine X_aload_n rfl rfl rfl rfl ?_
                                  refine X_aload_n rfl rfl rfl rfl ?_
                                  refine X_iload_n rfl rfl rfl rfl ?_
                                  refine X_iload_n rfl rfl rfl rfl ?_
                                  refine X_callV (as := [.ref 354, .int (0 : Int32), .int (3 : Int32)]) (st := []) rfl rfl rfl (by decide) rfl (Nat.le_of_ble_eq_true rfl) (by decide) (Nat.le_of_ble_eq_true rfl) rfl ((congrFun F.1 2).trans s_2) (by decide) ?_
                                  refine LW_ls (ls' := [some (.ref 2), some (.ref 354), some (.int (0 : Int32)), some (.int (3 : Int32)), none, none, none]) rfl ?_
                                  refine X_iconst (v := (0 : Int32)) rfl rfl rfl ?_
                                  refine X_istore (i := 4) (ls' := [some (.ref 2), some (.ref 354), some (.int (0 : Int32)), some (.int (3 : Int32)), some (.int (0 : Int32)), none, none]) rfl rfl (Nat.le_of_ble_eq_true rfl) rfl ?_
                                  refine X_iload rfl rfl rfl ?_
                                  refine X_aload_n rfl rfl rfl rfl ?_
                                  refine X_getI (v := (0 : Int32)) rfl rfl rfl ((congrFun F.1 2).trans s_2) rfl ((congrFun (F.2.2 2 (by decide)).1 0).trans i_2_0) ?_
                                  refine X_icmp_ge (tgt := 91) rfl rfl rfl (fun _ => ?_) (fun q => absurd q (by decide))
                                  refine X_iconst (v := (0 : Int32)) rfl rfl rfl ?_
                                  refine LW_ireturn (st := []) rfl rfl rfl ?_
                                  refine X_if_eq (tgt := 60) rfl rfl rfl (fun _ => ?_) (fun q => absurd q (by decide))
                                  refine X_iconst (v := (0 : Int32)) rfl rfl rfl ?_
                                  refine X_istore (i := 5) (ls' := [some (.ref 2), some (.ref 354), some (.int (0 : Int32)), some (.int (3 : Int32)), some (.int s), some (.int (0 : Int32)), none]) rfl rfl (Nat.le_of_ble_eq_true rfl) rfl ?_
                                  refine X_iconst (v := (0 : Int32)) rfl rfl rfl ?_
                                  refine X_istore (i := 6) (ls' := [some (.ref 2), some (.ref 354), some (.int (0 : Int32)), some (.int (3 : Int32)), some (.int s), some (.int (0 : Int32)), some (.int (0 : Int32))]) rfl rfl (Nat.le_of_ble_eq_true rfl) rfl ?_
                                  refine X_iload rfl rfl rfl ?_
                                  refine X_iload_n rfl rfl rfl rfl ?_
                                  refine X_icmp_ge (tgt := 112) rfl rfl rfl (fun q => absurd q (by decide)) (fun _ => ?_)
                                  refine X_aload_n rfl rfl rfl rfl ?_
                                  refine X_getR (a := 6) rfl rfl rfl ((congrFun F.1 2).trans s_2) rfl ((congrFun (F.2.1 2 (by decide)) 5).trans r_2_5) ?_
                                  refine X_aload_n rfl rfl rfl rfl ?_
                                  refine X_getI (v := (0 : Int32)) rfl rfl rfl ((congrFun F.1 2).trans s_2) rfl ((congrFun (F.2.2 2 (by decide)).1 0).trans i_2_0) ?_
                                  refine X_bipush (v := (8 : Int32)) rfl rfl rfl ?_
                                  refine X_imul (v := (0 : Int32)) rfl rfl rfl ?_
                                  refine X_iload rfl rfl rfl ?_
                                  refine X_iadd (v := (0 : Int32)) rfl rfl rfl ?_
                                  refine X_aload_n rfl rfl rfl rfl ?_
                                  refine X_iload_n rfl rfl rfl rfl ?_
                                  refine X_iload rfl rfl rfl ?_
                                  refine X_iadd (v := (0 : Int32)) rfl rfl rfl ?_
                                  refine X_iald (v := (b0 - (97 : Int32))) rfl rfl ((congrFun F.1 354).trans s_354) (vp_in_d rfl) rfl ?_
                                  refine X_iast (k0 := 0) rfl rfl ((congrFun F.1 6).trans s_6) (vp_in_d rfl) rfl ?_
                                  refine X_iload rfl rfl rfl ?_
                                  refine X_iconst (v := (1 : Int32)) rfl rfl rfl ?_
                                  refine X_aload_n rfl rfl rfl rfl ?_
                                  refine X_iload_n rfl rfl rfl rfl ?_
                                  refine X_iload rfl rfl rfl ?_
                                  refine X_iadd (v := (0 : Int32)) rfl rfl rfl ?_
                                  refine X_iald (v := (b0 - (97 : Int32))) rfl rfl ((congrFun F.1 354).trans s_354) (vp_in_d rfl) rfl ?_
                                  refine X_ishl (v := ((1 : Int32) <<< ((b0 - (97 : Int32)) &&& 31))) rfl rfl rfl ?_
                                  refine X_ior (v := ((0 : Int32) ||| ((1 : Int32) <<< ((b0 - (97 : Int32)) &&& 31)))) rfl rfl rfl ?_
                                  refine X_istore (i := 5) (ls' := [some (.ref 2), some (.ref 354), some (.int (0 : Int32)), some (.int (3 : Int32)), some (.int s), some (.int ((0 : Int32) ||| ((1 : Int32) <<< ((b0 - (97 : Int32)) &&& 31)))), some (.int (0 : Int32))]) rfl rfl (Nat.le_of_ble_eq_true rfl) rfl ?_
                                  refine X_iinc (v := (1 : Int32)) (ls' := [some (.ref 2), some (.ref 354), some (.int (0 : Int32)), some (.int (3 : Int32)), some (.int s), some (.int ((0 : Int32) ||| ((1 : Int32) <<< ((b0 - (97 : Int32)) &&& 31)))), some (.int (1 : Int32))]) rfl rfl rfl rfl rfl ?_
                                  refine LW_goto (tgt := 66) rfl rfl ?_
                                  refine X_iload rfl rfl rfl ?_
                                  refine X_iload_n rfl rfl rfl rfl ?_
                                  refine X_icmp_ge (tgt := 112) rfl rfl rfl (fun q => absurd q (by decide)) (fun _ => ?_)
                                  refine X_aload_n rfl rfl rfl rfl ?_
                                  refine X_getR (a := 6) rfl rfl rfl ((congrFun F.1 2).trans s_2) rfl ((congrFun (F.2.1 2 (by decide)) 5).trans r_2_5) ?_
                                  refine X_aload_n rfl rfl rfl rfl ?_
                                  refine X_getI (v := (0 : Int32)) rfl rfl rfl ((congrFun F.1 2).trans s_2) rfl ((congrFun (F.2.2 2 (by decide)).1 0).trans i_2_0) ?_
                                  refine X_bipush (v := (8 : Int32)) rfl rfl rfl ?_
                                  refine X_imul (v := (0 : Int32)) rfl rfl rfl ?_
                                  refine X_iload rfl rfl rfl ?_
                                  refine X_iadd (v := (1 : Int32)) rfl rfl rfl ?_
                                  refine X_aload_n rfl rfl rfl rfl ?_
                                  refine X_iload_n rfl rfl rfl rfl ?_
                                  refine X_iload rfl rfl rfl ?_
                                  refine X_iadd (v := (1 : Int32)) rfl rfl rfl ?_
                                  refine X_iald (v := (b1 - (97 : Int32))) rfl rfl ((congrFun F.1 354).trans s_354) (vp_in_d rfl) rfl ?_
                                  refine X_iast (k0 := 1) rfl rfl ((congrFun F.1 6).trans s_6) (vp_in_d rfl) rfl ?_
                                  refine X_iload rfl rfl rfl ?_
                                  refine X_iconst (v := (1 : Int32)) rfl rfl rfl ?_
                                  refine X_aload_n rfl rfl rfl rfl ?_
                                  refine X_iload_n rfl rfl rfl rfl ?_
                                  refine X_iload rfl rfl rfl ?_
                                  refine X_iadd (v := (1 : Int32)) rfl rfl rfl ?_
                                  refine X_iald (v := (b1 - (97 : Int32))) rfl rfl ((congrFun F.1 354).trans s_354) (vp_in_d rfl) rfl ?_
                                  refine X_ishl (v := ((1 : Int32) <<< ((b1 - (97 : Int32)) &&& 31))) rfl rfl rfl ?_
                                  refine X_ior (v := (((0 : Int32) ||| ((1 : Int32) <<< ((b0 - (97 : Int32)) &&& 31))) ||| ((1 : Int32) <<< ((b1 - (97 : Int32)) &&& 31)))) rfl rfl rfl ?_
                                  refine X_istore (i := 5) (ls' := [some (.ref 2), some (.ref 354), some (.int (0 : Int32)), some (.int (3 : Int32)), some (.int s), some (.int (((0 : Int32) ||| ((1 : Int32) <<< ((b0 - (97 : Int32)) &&& 31))) ||| ((1 : Int32) <<< ((b1 - (97 : Int32)) &&& 31)))), some (.int (1 : Int32))]) rfl rfl (Nat.le_of_ble_eq_true rfl) rfl ?_
                                  refine X_iinc (v := (2 : Int32)) (ls' := [some (.ref 2), some (.ref 354), some (.int (0 : Int32)), some (.int (3 : Int32)), some (.int s), some (.int (((0 : Int32) ||| ((1 : Int32) <<< ((b0 - (97 : Int32)) &&& 31))) ||| ((1 : Int32) <<< ((b1 - (97 : Int32)) &&& 31)))), some (.int (2 : Int32))]) rfl rfl rfl rfl rfl ?_
                                  refine LW_goto (tgt := 66) rfl rfl ?_
                                  refine X_iload rfl rfl rfl ?_
                                  refine X_iload_n rfl rfl rfl rfl ?_
                                  refine X_icmp_ge (tgt := 112) rfl rfl rfl (fun q => absurd q (by decide)) (fun _ => ?_)
                                  refine X_aload_n rfl rfl rfl rfl ?_
                                  refine X_getR (a := 6) rfl rfl rfl ((congrFun F.1 2).trans s_2) rfl ((congrFun (F.2.1 2 (by decide)) 5).trans r_2_5) ?_
                                  refine X_aload_n rfl rfl rfl rfl ?_
                                  refine X_getI (v := (0 : Int32)) rfl rfl rfl ((congrFun F.1 2).trans s_2) rfl ((congrFun (F.2.2 2 (by decide)).1 0).trans i_2_0) ?_
                                  refine X_bipush (v := (8 : Int32)) rfl rfl rfl ?_
                                  refine X_imul (v := (0 : Int32)) rfl rfl rfl ?_
                                  refine X_iload rfl rfl rfl ?_
                                  refine X_iadd (v := (2 : Int32)) rfl rfl rfl ?_
                                  refine X_aload_n rfl rfl rfl rfl ?_
                                  refine X_iload_n rfl rfl rfl rfl ?_
                                  refine X_iload rfl rfl rfl ?_
                                  refine X_iadd (v := (2 : Int32)) rfl rfl rfl ?_
                                  refine X_iald (v := (b2 - (97 : Int32))) rfl rfl ((congrFun F.1 354).trans s_354) (vp_in_d rfl) rfl ?_
                                  refine X_iast (k0 := 2) rfl rfl ((congrFun F.1 6).trans s_6) (vp_in_d rfl) rfl ?_
                                  refine X_iload rfl rfl rfl ?_
                                  refine X_iconst (v := (1 : Int32)) rfl rfl rfl ?_
                                  refine X_aload_n rfl rfl rfl rfl ?_
                                  refine X_iload_n rfl rfl rfl rfl ?_
                                  refine X_iload rfl rfl rfl ?_
                                  refine X_iadd (v := (2 : Int32)) rfl rfl rfl ?_
                                  refine X_iald (v := (b2 - (97 : Int32))) rfl rfl ((congrFun F.1 354).trans s_354) (vp_in_d rfl) rfl ?_
                                  refine X_ishl (v := ((1 : Int32) <<< ((b2 - (97 : Int32)) &&& 31))) rfl rfl rfl ?_
                                  refine X_ior (v := ((((0 : Int32) ||| ((1 : Int32) <<< ((b0 - (97 : Int32)) &&& 31))) ||| ((1 : Int32) <<< ((b1 - (97 : Int32)) &&& 31))) ||| ((1 : Int32) <<< ((b2 - (97 : Int32)) &&& 31)))) rfl rfl rfl ?_
                                  refine X_istore (i := 5) (ls' := [some (.ref 2), some (.ref 354), some (.int (0 : Int32)), some (.int (3 : Int32)), some (.int s), some (.int ((((0 : Int32) ||| ((1 : Int32) <<< ((b0 - (97 : Int32)) &&& 31))) ||| ((1 : Int32) <<< ((b1 - (97 : Int32)) &&& 31))) ||| ((1 : Int32) <<< ((b2 - (97 : Int32)) &&& 31)))), some (.int (2 : Int32))]) rfl rfl (Nat.le_of_ble_eq_true rfl) rfl ?_
                                  refine X_iinc (v := (3 : Int32)) (ls' := [some (.ref 2), some (.ref 354), some (.int (0 : Int32)), some (.int (3 : Int32)), some (.int s), some (.int ((((0 : Int32) ||| ((1 : Int32) <<< ((b0 - (97 : Int32)) &&& 31))) ||| ((1 : Int32) <<< ((b1 - (97 : Int32)) &&& 31))) ||| ((1 : Int32) <<< ((b2 - (97 : Int32)) &&& 31)))), some (.int (3 : Int32))]) rfl rfl rfl rfl rfl ?_
                                  refine LW_goto (tgt := 66) rfl rfl ?_
                                  refine X_iload rfl rfl rfl ?_
                                  refine X_iload_n rfl rfl rfl rfl ?_
                                  refine X_icmp_ge (tgt := 112) rfl rfl rfl (fun _ => ?_) (fun q => absurd q (by decide))
                                  refine X_aload_n rfl rfl rfl rfl ?_
                                  refine X_getR (a := 3) rfl rfl rfl ((congrFun F.1 2).trans s_2) rfl ((congrFun (F.2.1 2 (by decide)) 2).trans r_2_2) ?_
                                  refine X_aload_n rfl rfl rfl rfl ?_
                                  refine X_getI (v := (0 : Int32)) rfl rfl rfl ((congrFun F.1 2).trans s_2) rfl ((congrFun (F.2.2 2 (by decide)).1 0).trans i_2_0) ?_
                                  refine X_iload_n rfl rfl rfl rfl ?_
                                  refine X_iast (k0 := 0) rfl rfl ((congrFun F.1 3).trans s_3) (vp_in_d rfl) rfl ?_
                                  refine X_aload_n rfl rfl rfl rfl ?_
                                  refine X_getR (a := 4) rfl rfl rfl ((congrFun F.1 2).trans s_2) rfl ((congrFun (F.2.1 2 (by decide)) 3).trans r_2_3) ?_
                                  refine X_aload_n rfl rfl rfl rfl ?_
                                  refine X_getI (v := (0 : Int32)) rfl rfl rfl ((congrFun F.1 2).trans s_2) rfl ((congrFun (F.2.2 2 (by decide)).1 0).trans i_2_0) ?_
                                  refine X_iload rfl rfl rfl ?_
                                  refine X_iast (k0 := 0) rfl rfl ((congrFun F.1 4).trans s_4) (vp_in_d rfl) rfl ?_
                                  refine X_aload_n rfl rfl rfl rfl ?_
                                  refine X_getR (a := 5) rfl rfl rfl ((congrFun F.1 2).trans s_2) rfl ((congrFun (F.2.1 2 (by decide)) 4).trans r_2_4) ?_
                                  refine X_aload_n rfl rfl rfl rfl ?_
                                  refine X_getI (v := (0 : Int32)) rfl rfl rfl ((congrFun F.1 2).trans s_2) rfl ((congrFun (F.2.2 2 (by decide)).1 0).trans i_2_0) ?_
                                  refine X_iload rfl rfl rfl ?_
                                  refine X_iast (k0 := 0) rfl rfl ((congrFun F.1 5).trans s_5) (vp_in_d rfl) rfl ?_
                                  refine X_aload_n rfl rfl rfl rfl ?_
                                  refine X_dup rfl rfl rfl ?_
                                  refine X_getI (v := (0 : Int32)) rfl rfl rfl ((congrFun F.1 2).trans s_2) rfl ((congrFun (F.2.2 2 (by decide)).1 0).trans i_2_0) ?_
                                  refine X_iconst (v := (1 : Int32)) rfl rfl rfl ?_
                                  refine X_iadd (v := (1 : Int32)) rfl rfl rfl ?_
                                  refine X_putI rfl rfl rfl ((congrFun F.1 2).trans s_2) rfl rfl rfl rfl ?_
                                  refine X_aload_n rfl rfl rfl rfl ?_
                                  refine X_getI (v := (1 : Int32)) rfl rfl rfl ((congrFun F.1 2).trans s_2) rfl rfl ?_
                                  refine X_iconst (v := (1 : Int32)) rfl rfl rfl ?_
                                  refine X_isub (v := (0 : Int32)) rfl rfl rfl ?_
                                  refine LW_ireturn (st := []) rfl rfl rfl ?_
                                  refine LW_ireturn (st := []) rfl rfl rfl ⟨congrArg (fun z => some (Value.int z)) ?_, (Fr_putI (Fr_putI (Fr_putI (Fr_putI (Fr_putI (Fr_putI (Fr_putI (Fr_putI (Fr_putI (Fr_putI E (by decide)) (by decide)) (by decide)) (by decide)) (by decide)) (by decide)) (by decide)) (by decide)) (by decide)) (by decide))⟩
                                  simp only [Int32.lt_iff_toInt_lt, Int32.le_iff_toInt_le, ← Int32.toInt_inj, (show (0 : Int32).toInt = 0 from rfl), (show (9 : Int32).toInt = 9 from rfl), (show (97 : Int32).toInt = 97 from rfl), (show (122 : Int32).toInt = 122 from rfl)] at h1 h2 h3 h4 h5 h6 h7 h8 h9 h10 h41 h42 h43 h44 h45 h46
                                  unfold f_wordB
                                  rw [if_pos (by omega)]
                  · refine X_iconst (v := (-1 : Int32)) rfl rfl rfl ?_
                    refine LW_ireturn (st := []) rfl rfl rfl ⟨congrArg (fun z => some (Value.int z)) ?_, (Fr_putI (Fr_putI E (by decide)) (by decide))⟩
                    simp only [Int32.lt_iff_toInt_lt, Int32.le_iff_toInt_le, ← Int32.toInt_inj, (show (0 : Int32).toInt = 0 from rfl), (show (97 : Int32).toInt = 97 from rfl), (show (122 : Int32).toInt = 122 from rfl)] at h1 h2 h3 h4 h5 h6 h7 h8 h9
                    unfold f_wordB
                    rw [if_neg (by omega)]
              · refine X_iconst (v := (1 : Int32)) rfl rfl rfl ?_
                refine X_istore (i := 5) (ls' := [some (.ref 0), some (.int a), some (.int c), some (.int s), some (.int (2 : Int32)), some (.int (1 : Int32)), some (.int (2 : Int32)), some (.int b2)]) rfl rfl (Nat.le_of_ble_eq_true rfl) rfl ?_
                refine LW_goto (tgt := 88) rfl rfl ?_
                refine X_iinc (v := (3 : Int32)) (ls' := [some (.ref 0), some (.int a), some (.int c), some (.int s), some (.int (2 : Int32)), some (.int (1 : Int32)), some (.int (3 : Int32)), some (.int b2)]) rfl rfl rfl rfl rfl ?_
                refine LW_goto (tgt := 9) rfl rfl ?_
                refine X_iload rfl rfl rfl ?_
                refine X_bipush (v := (8 : Int32)) rfl rfl rfl ?_
                refine X_icmp_ge (tgt := 94) rfl rfl rfl (fun q => absurd q (by decide)) (fun _ => ?_)
                refine X_iload rfl rfl rfl ?_
                refine X_iconst (v := (4 : Int32)) rfl rfl rfl ?_
                refine X_icmp_ge (tgt := 26) rfl rfl rfl (fun q => absurd q (by decide)) (fun _ => ?_)
                refine X_iload_n rfl rfl rfl rfl ?_
                refine LW_goto (tgt := 27) rfl rfl ?_
                refine X_bipush (v := (8 : Int32)) rfl rfl rfl ?_
                refine X_iload rfl rfl rfl ?_
                refine X_iconst (v := (4 : Int32)) rfl rfl rfl ?_
                refine X_irem (v := (3 : Int32)) rfl rfl (by decide) rfl ?_
                refine X_imul (v := (24 : Int32)) rfl rfl rfl ?_
                refine X_iushr (v := ((a).toUInt32 >>> (((24 : Int32)).toUInt32 &&& Int32.toUInt32 31)).toInt32) rfl rfl rfl ?_
                refine X_sipush (v := (255 : Int32)) rfl rfl rfl ?_
                refine X_iand (v := b3) rfl rfl hb3 ?_
                refine X_istore (i := 7) (ls' := [some (.ref 0), some (.int a), some (.int c), some (.int s), some (.int (2 : Int32)), some (.int (1 : Int32)), some (.int (3 : Int32)), some (.int b3)]) rfl rfl (Nat.le_of_ble_eq_true rfl) rfl ?_
                refine X_iload rfl rfl rfl ?_
                refine X_if_ne (tgt := 52) rfl rfl rfl (fun h47 => ?_) (fun h47 => ?_)
                · refine X_iload rfl rfl rfl ?_
                  refine X_if_ne (tgt := 71) rfl rfl rfl (fun _ => ?_) (fun q => absurd q (by decide))
                  refine X_iconst (v := (-1 : Int32)) rfl rfl rfl ?_
                  refine LW_ireturn (st := []) rfl rfl rfl ⟨congrArg (fun z => some (Value.int z)) ?_, (Fr_putI (Fr_putI E (by decide)) (by decide))⟩
                  simp only [Int32.lt_iff_toInt_lt, Int32.le_iff_toInt_le, ← Int32.toInt_inj, (show (0 : Int32).toInt = 0 from rfl), (show (97 : Int32).toInt = 97 from rfl), (show (122 : Int32).toInt = 122 from rfl)] at h1 h2 h3 h4 h5 h6 h7 h47
                  unfold f_wordB
                  rw [if_neg (by omega)]
                · refine X_iconst (v := (1 : Int32)) rfl rfl rfl ?_
                  refine X_istore (i := 5) (ls' := [some (.ref 0), some (.int a), some (.int c), some (.int s), some (.int (2 : Int32)), some (.int (1 : Int32)), some (.int (3 : Int32)), some (.int b3)]) rfl rfl (Nat.le_of_ble_eq_true rfl) rfl ?_
                  refine LW_goto (tgt := 88) rfl rfl ?_
                  refine X_iinc (v := (4 : Int32)) (ls' := [some (.ref 0), some (.int a), some (.int c), some (.int s), some (.int (2 : Int32)), some (.int (1 : Int32)), some (.int (4 : Int32)), some (.int b3)]) rfl rfl rfl rfl rfl ?_
                  refine LW_goto (tgt := 9) rfl rfl ?_
                  refine X_iload rfl rfl rfl ?_
                  refine X_bipush (v := (8 : Int32)) rfl rfl rfl ?_
                  refine X_icmp_ge (tgt := 94) rfl rfl rfl (fun q => absurd q (by decide)) (fun _ => ?_)
                  refine X_iload rfl rfl rfl ?_
                  refine X_iconst (v := (4 : Int32)) rfl rfl rfl ?_
                  refine X_icmp_ge (tgt := 26) rfl rfl rfl (fun _ => ?_) (fun q => absurd q (by decide))
                  refine X_iload_n rfl rfl rfl rfl ?_
                  refine X_bipush (v := (8 : Int32)) rfl rfl rfl ?_
                  refine X_iload rfl rfl rfl ?_
                  refine X_iconst (v := (4 : Int32)) rfl rfl rfl ?_
                  refine X_irem (v := (0 : Int32)) rfl rfl (by decide) rfl ?_
                  refine X_imul (v := (0 : Int32)) rfl rfl rfl ?_
                  refine X_iushr (v := ((c).toUInt32 >>> (((0 : Int32)).toUInt32 &&& Int32.toUInt32 31)).toInt32) rfl rfl rfl ?_
                  refine X_sipush (v := (255 : Int32)) rfl rfl rfl ?_
                  refine X_iand (v := b4) rfl rfl hb4 ?_
                  refine X_istore (i := 7) (ls' := [some (.ref 0), some (.int a), some (.int c), some (.int s), some (.int (2 : Int32)), some (.int (1 : Int32)), some (.int (4 : Int32)), some (.int b4)]) rfl rfl (Nat.le_of_ble_eq_true rfl) rfl ?_
                  refine X_iload rfl rfl rfl ?_
                  refine X_if_ne (tgt := 52) rfl rfl rfl (fun h48 => ?_) (fun h48 => ?_)
                  · refine X_iload rfl rfl rfl ?_
                    refine X_if_ne (tgt := 71) rfl rfl rfl (fun _ => ?_) (fun q => absurd q (by decide))
                    refine X_iconst (v := (-1 : Int32)) rfl rfl rfl ?_
                    refine LW_ireturn (st := []) rfl rfl rfl ⟨congrArg (fun z => some (Value.int z)) ?_, (Fr_putI (Fr_putI E (by decide)) (by decide))⟩
                    simp only [Int32.lt_iff_toInt_lt, Int32.le_iff_toInt_le, ← Int32.toInt_inj, (show (0 : Int32).toInt = 0 from rfl), (show (97 : Int32).toInt = 97 from rfl), (show (122 : Int32).toInt = 122 from rfl)] at h1 h2 h3 h4 h5 h6 h7 h47 h48
                    unfold f_wordB
                    rw [if_neg (by omega)]
                  · refine X_iconst (v := (1 : Int32)) rfl rfl rfl ?_
                    refine X_istore (i := 5) (ls' := [some (.ref 0), some (.int a), some (.int c), some (.int s), some (.int (2 : Int32)), some (.int (1 : Int32)), some (.int (4 : Int32)), some (.int b4)]) rfl rfl (Nat.le_of_ble_eq_true rfl) rfl ?_
                    refine LW_goto (tgt := 88) rfl rfl ?_
                    refine X_iinc (v := (5 : Int32)) (ls' := [some (.ref 0), some (.int a), some (.int c), some (.int s), some (.int (2 : Int32)), some (.int (1 : Int32)), some (.int (5 : Int32)), some (.int b4)]) rfl rfl rfl rfl rfl ?_
                    refine LW_goto (tgt := 9) rfl rfl ?_
                    refine X_iload rfl rfl rfl ?_
                    refine X_bipush (v := (8 : Int32)) rfl rfl rfl ?_
                    refine X_icmp_ge (tgt := 94) rfl rfl rfl (fun q => absurd q (by decide)) (fun _ => ?_)
                    refine X_iload rfl rfl rfl ?_
                    refine X_iconst (v := (4 : Int32)) rfl rfl rfl ?_
                    refine X_icmp_ge (tgt := 26) rfl rfl rfl (fun _ => ?_) (fun q => absurd q (by decide))
                    refine X_iload_n rfl rfl rfl rfl ?_
                    refine X_bipush (v := (8 : Int32)) rfl rfl rfl ?_
                    refine X_iload rfl rfl rfl ?_
                    refine X_iconst (v := (4 : Int32)) rfl rfl rfl ?_
                    refine X_irem (v := (1 : Int32)) rfl rfl (by decide) rfl ?_
                    refine X_imul (v := (8 : Int32)) rfl rfl rfl ?_
                    refine X_iushr (v := ((c).toUInt32 >>> (((8 : Int32)).toUInt32 &&& Int32.toUInt32 31)).toInt32) rfl rfl rfl ?_
                    refine X_sipush (v := (255 : Int32)) rfl rfl rfl ?_
                    refine X_iand (v := b5) rfl rfl hb5 ?_
                    refine X_istore (i := 7) (ls' := [some (.ref 0), some (.int a), some (.int c), some (.int s), some (.int (2 : Int32)), some (.int (1 : Int32)), some (.int (5 : Int32)), some (.int b5)]) rfl rfl (Nat.le_of_ble_eq_true rfl) rfl ?_
                    refine X_iload rfl rfl rfl ?_
                    refine X_if_ne (tgt := 52) rfl rfl rfl (fun h49 => ?_) (fun h49 => ?_)
                    · refine X_iload rfl rfl rfl ?_
                      refine X_if_ne (tgt := 71) rfl rfl rfl (fun _ => ?_) (fun q => absurd q (by decide))
                      refine X_iconst (v := (-1 : Int32)) rfl rfl rfl ?_
                      refine LW_ireturn (st := []) rfl rfl rfl ⟨congrArg (fun z => some (Value.int z)) ?_, (Fr_putI (Fr_putI E (by decide)) (by decide))⟩
                      simp only [Int32.lt_iff_toInt_lt, Int32.le_iff_toInt_le, ← Int32.toInt_inj, (show (0 : Int32).toInt = 0 from rfl), (show (97 : Int32).toInt = 97 from rfl), (show (122 : Int32).toInt = 122 from rfl)] at h1 h2 h3 h4 h5 h6 h7 h47 h48 h49
                      unfold f_wordB
                      rw [if_neg (by omega)]
                    · refine X_iconst (v := (1 : Int32)) rfl rfl rfl ?_
                      refine X_istore (i := 5) (ls' := [some (.ref 0), some (.int a), some (.int c), some (.int s), some (.int (2 : Int32)), some (.int (1 : Int32)), some (.int (5 : Int32)), some (.int b5)]) rfl rfl (Nat.le_of_ble_eq_true rfl) rfl ?_
                      refine LW_goto (tgt := 88) rfl rfl ?_
                      refine X_iinc (v := (6 : Int32)) (ls' := [some (.ref 0), some (.int a), some (.int c), some (.int s), some (.int (2 : Int32)), some (.int (1 : Int32)), some (.int (6 : Int32)), some (.int b5)]) rfl rfl rfl rfl rfl ?_
                      refine LW_goto (tgt := 9) rfl rfl ?_
                      refine X_iload rfl rfl rfl ?_
                      refine X_bipush (v := (8 : Int32)) rfl rfl rfl ?_
                      refine X_icmp_ge (tgt := 94) rfl rfl rfl (fun q => absurd q (by decide)) (fun _ => ?_)
                      refine X_iload rfl rfl rfl ?_
                      refine X_iconst (v := (4 : Int32)) rfl rfl rfl ?_
                      refine X_icmp_ge (tgt := 26) rfl rfl rfl (fun _ => ?_) (fun q => absurd q (by decide))
                      refine X_iload_n rfl rfl rfl rfl ?_
                      refine X_bipush (v := (8 : Int32)) rfl rfl rfl ?_
                      refine X_iload rfl rfl rfl ?_
                      refine X_iconst (v := (4 : Int32)) rfl rfl rfl ?_
                      refine X_irem (v := (2 : Int32)) rfl rfl (by decide) rfl ?_
                      refine X_imul (v := (16 : Int32)) rfl rfl rfl ?_
                      refine X_iushr (v := ((c).toUInt32 >>> (((16 : Int32)).toUInt32 &&& Int32.toUInt32 31)).toInt32) rfl rfl rfl ?_
                      refine X_sipush (v := (255 : Int32)) rfl rfl rfl ?_
                      refine X_iand (v := b6) rfl rfl hb6 ?_
                      refine X_istore (i := 7) (ls' := [some (.ref 0), some (.int a), some (.int c), some (.int s), some (.int (2 : Int32)), some (.int (1 : Int32)), some (.int (6 : Int32)), some (.int b6)]) rfl rfl (Nat.le_of_ble_eq_true rfl) rfl ?_
                      refine X_iload rfl rfl rfl ?_
                      refine X_if_ne (tgt := 52) rfl rfl rfl (fun h50 => ?_) (fun h50 => ?_)
                      · refine X_iload rfl rfl rfl ?_
                        refine X_if_ne (tgt := 71) rfl rfl rfl (fun _ => ?_) (fun q => absurd q (by decide))
                        refine X_iconst (v := (-1 : Int32)) rfl rfl rfl ?_
                        refine LW_ireturn (st := []) rfl rfl rfl ⟨congrArg (fun z => some (Value.int z)) ?_, (Fr_putI (Fr_putI E (by decide)) (by decide))⟩
                        simp only [Int32.lt_iff_toInt_lt, Int32.le_iff_toInt_le, ← Int32.toInt_inj, (show (0 : Int32).toInt = 0 from rfl), (show (97 : Int32).toInt = 97 from rfl), (show (122 : Int32).toInt = 122 from rfl)] at h1 h2 h3 h4 h5 h6 h7 h47 h48 h49 h50
                        unfold f_wordB
                        rw [if_neg (by omega)]
                      · refine X_iconst (v := (1 : Int32)) rfl rfl rfl ?_
                        refine X_istore (i := 5) (ls' := [some (.ref 0), some (.int a), some (.int c), some (.int s), some (.int (2 : Int32)), some (.int (1 : Int32)), some (.int (6 : Int32)), some (.int b6)]) rfl rfl (Nat.le_of_ble_eq_true rfl) rfl ?_
                        refine LW_goto (tgt := 88) rfl rfl ?_
                        refine X_iinc (v := (7 : Int32)) (ls' := [some (.ref 0), some (.int a), some (.int c), some (.int s), some (.int (2 : Int32)), some (.int (1 : Int32)), some (.int (7 : Int32)), some (.int b6)]) rfl rfl rfl rfl rfl ?_
                        refine LW_goto (tgt := 9) rfl rfl ?_
                        refine X_iload rfl rfl rfl ?_
                        refine X_bipush (v := (8 : Int32)) rfl rfl rfl ?_
                        refine X_icmp_ge (tgt := 94) rfl rfl rfl (fun q => absurd q (by decide)) (fun _ => ?_)
                        refine X_iload rfl rfl rfl ?_
                        refine X_iconst (v := (4 : Int32)) rfl rfl rfl ?_
                        refine X_icmp_ge (tgt := 26) rfl rfl rfl (fun _ => ?_) (fun q => absurd q (by decide))
                        refine X_iload_n rfl rfl rfl rfl ?_
                        refine X_bipush (v := (8 : Int32)) rfl rfl rfl ?_
                        refine X_iload rfl rfl rfl ?_
                        refine X_iconst (v := (4 : Int32)) rfl rfl rfl ?_
                        refine X_irem (v := (3 : Int32)) rfl rfl (by decide) rfl ?_
                        refine X_imul (v := (24 : Int32)) rfl rfl rfl ?_
                        refine X_iushr (v := ((c).toUInt32 >>> (((24 : Int32)).toUInt32 &&& Int32.toUInt32 31)).toInt32) rfl rfl rfl ?_
                        refine X_sipush (v := (255 : Int32)) rfl rfl rfl ?_
                        refine X_iand (v := b7) rfl rfl hb7 ?_
                        refine X_istore (i := 7) (ls' := [some (.ref 0), some (.int a), some (.int c), some (.int s), some (.int (2 : Int32)), some (.int (1 : Int32)), some (.int (7 : Int32)), some (.int b7)]) rfl rfl (Nat.le_of_ble_eq_true rfl) rfl ?_
                        refine X_iload rfl rfl rfl ?_
                        refine X_if_ne (tgt := 52) rfl rfl rfl (fun h51 => ?_) (fun h51 => ?_)
                        · refine X_iload rfl rfl rfl ?_
                          refine X_if_ne (tgt := 71) rfl rfl rfl (fun _ => ?_) (fun q => absurd q (by decide))
                          refine X_iconst (v := (-1 : Int32)) rfl rfl rfl ?_
                          refine LW_ireturn (st := []) rfl rfl rfl ⟨congrArg (fun z => some (Value.int z)) ?_, (Fr_putI (Fr_putI E (by decide)) (by decide))⟩
                          simp only [Int32.lt_iff_toInt_lt, Int32.le_iff_toInt_le, ← Int32.toInt_inj, (show (0 : Int32).toInt = 0 from rfl), (show (97 : Int32).toInt = 97 from rfl), (show (122 : Int32).toInt = 122 from rfl)] at h1 h2 h3 h4 h5 h6 h7 h47 h48 h49 h50 h51
                          unfold f_wordB
                          rw [if_neg (by omega)]
                        · refine X_iconst (v := (1 : Int32)) rfl rfl rfl ?_
                          refine X_istore (i := 5) (ls' := [some (.ref 0), some (.int a), some (.int c), some (.int s), some (.int (2 : Int32)), some (.int (1 : Int32)), some (.int (7 : Int32)), some (.int b7)]) rfl rfl (Nat.le_of_ble_eq_true rfl) rfl ?_
                          refine LW_goto (tgt := 88) rfl rfl ?_
                          refine X_iinc (v := (8 : Int32)) (ls' := [some (.ref 0), some (.int a), some (.int c), some (.int s), some (.int (2 : Int32)), some (.int (1 : Int32)), some (.int (8 : Int32)), some (.int b7)]) rfl rfl rfl rfl rfl ?_
                          refine LW_goto (tgt := 9) rfl rfl ?_
                          refine X_iload rfl rfl rfl ?_
                          refine X_bipush (v := (8 : Int32)) rfl rfl rfl ?_
                          refine X_icmp_ge (tgt := 94) rfl rfl rfl (fun _ => ?_) (fun q => absurd q (by decide))
                          refine X_aload_n rfl rfl rfl rfl ?_
                          refine X_getR (a := 1) rfl rfl rfl ((congrFun F.1 0).trans s_0) rfl ((congrFun (F.2.1 0 (by decide)) 0).trans r_0_0) ?_
                          refine X_getR (a := 2) rfl rfl rfl ((congrFun F.1 1).trans s_1) rfl ((congrFun (F.2.1 1 (by decide)) 0).trans r_1_0) ?_
                          refine X_aload_n rfl rfl rfl rfl ?_
                          refine X_getR (a := 354) rfl rfl rfl ((congrFun F.1 0).trans s_0) rfl ((congrFun (F.2.1 0 (by decide)) 9).trans r_0_9) ?_
                          refine X_iconst (v := (0 : Int32)) rfl rfl rfl ?_
                          refine X_iload rfl rfl rfl ?_
                          refine X_iload_n rfl rfl rfl rfl ?_
                          refine X_callV (as := [.ref 354, .int (0 : Int32), .int (2 : Int32), .int s]) (st := []) rfl rfl rfl (by decide) rfl (Nat.le_of_ble_eq_true rfl) (by decide) (Nat.le_of_ble_eq_true rfl) rfl ((congrFun F.1 2).trans s_2) (by decide) ?_
                          refine LW_ls (ls' := [some (.ref 2), some (.ref 354), some (.int (0 : Int32)), some (.int (2 : Int32)), some (.int s), none, none]) rfl ?_
                          refine X_iload_n rfl rfl rfl rfl ?_
                          refine X_iconst (v := (1 : Int32)) rfl rfl rfl ?_
                          refine X_icmp_lt (tgt := 23) rfl rfl rfl (fun q => absurd q (by decide)) (fun _ => ?_)
                          refine X_iload_n rfl rfl rfl rfl ?_
                          refine X_bipush (v := (8 : Int32)) rfl rfl rfl ?_
                          refine X_icmp_gt (tgt := 23) rfl rfl rfl (fun q => absurd q (by decide)) (fun _ => ?_)
                          refine X_iload_n rfl rfl rfl rfl ?_
                          refine X_if_lt (tgt := 23) rfl rfl rfl (fun q => absurd q (by decide)) (fun _ => ?_)
                          refine X_iload_n rfl rfl rfl rfl ?_
                          refine X_iload_n rfl rfl rfl rfl ?_
                          refine X_iadd (v := (2 : Int32)) rfl rfl rfl ?_
                          refine X_aload_n rfl rfl rfl rfl ?_
                          refine X_alen (t0 := 0) (v := (8 : Int32)) rfl rfl ((congrFun F.1 354).trans s_354) rfl rfl ?_
                          refine X_icmp_le (tgt := 25) rfl rfl rfl (fun _ => ?_) (fun q => absurd q (by decide))
                          refine X_iload rfl rfl rfl ?_
                          refine X_if_lt (tgt := 46) rfl rfl rfl (fun h52 => ?_) (fun h52 => ?_)
                          · refine X_iconst (v := (-1 : Int32)) rfl rfl rfl ?_
                            refine LW_ireturn (st := []) rfl rfl rfl ?_
                            refine LW_ireturn (st := []) rfl rfl rfl ⟨congrArg (fun z => some (Value.int z)) ?_, (Fr_putI (Fr_putI E (by decide)) (by decide))⟩
                            simp only [Int32.lt_iff_toInt_lt, Int32.le_iff_toInt_le, ← Int32.toInt_inj, (show (0 : Int32).toInt = 0 from rfl), (show (97 : Int32).toInt = 97 from rfl), (show (122 : Int32).toInt = 122 from rfl)] at h1 h2 h3 h4 h5 h6 h7 h47 h48 h49 h50 h51 h52
                            unfold f_wordB
                            rw [if_neg (by omega)]
                          · refine X_iload rfl rfl rfl ?_
                            refine X_bipush (v := (9 : Int32)) rfl rfl rfl ?_
                            refine X_icmp_gt (tgt := 46) rfl rfl rfl (fun h53 => ?_) (fun h53 => ?_)
                            · refine X_iconst (v := (-1 : Int32)) rfl rfl rfl ?_
                              refine LW_ireturn (st := []) rfl rfl rfl ?_
                              refine LW_ireturn (st := []) rfl rfl rfl ⟨congrArg (fun z => some (Value.int z)) ?_, (Fr_putI (Fr_putI E (by decide)) (by decide))⟩
                              simp only [Int32.lt_iff_toInt_lt, Int32.le_iff_toInt_le, ← Int32.toInt_inj, (show (0 : Int32).toInt = 0 from rfl), (show (9 : Int32).toInt = 9 from rfl), (show (97 : Int32).toInt = 97 from rfl), (show (122 : Int32).toInt = 122 from rfl)] at h1 h2 h3 h4 h5 h6 h7 h47 h48 h49 h50 h51 h52 h53
                              unfold f_wordB
                              rw [if_neg (by omega)]
                            · refine X_aload_n rfl rfl rfl rfl ?_
                              refine X_getI (v := (0 : Int32)) rfl rfl rfl ((congrFun F.1 2).trans s_2) rfl ((congrFun (F.2.2 2 (by decide)).1 0).trans i_2_0) ?_
                              refine X_bipush (v := (24 : Int32)) rfl rfl rfl ?_
                              refine X_icmp_lt (tgt := 48) rfl rfl rfl (fun _ => ?_) (fun q => absurd q (by decide))
                              refine X_aload_n rfl rfl rfl rfl ?_
                              refine X_aload_n rfl rfl rfl rfl ?_
                              refine X_iload_n rfl rfl rfl rfl ?_
                              refine X_iload_n rfl rfl rfl rfl ?_
                              refine X_callV (as := [.ref 354, .int (0 : Int32), .int (2 : Int32)]) (st := []) rfl rfl rfl (by decide) rfl (Nat.le_of_ble_eq_true rfl) (by decide) (Nat.le_of_ble_eq_true rfl) rfl ((congrFun F.1 2).trans s_2) (by decide) ?_
                              refine LW_ls (ls' := [some (.ref 2), some (.ref 354), some (.int (0 : Int32)), some (.int (2 : Int32)), none, none, none]) rfl ?_
                              refine X_iconst (v := (0 : Int32)) rfl rfl rfl ?_
                              refine X_istore (i := 4) (ls' := [some (.ref 2), some (.ref 354), some (.int (0 : Int32)), some (.int (2 : Int32)), some (.int (0 : Int32)), none, none]) rfl rfl (Nat.le_of_ble_eq_true rfl) rfl ?_
                              refine X_iload rfl rfl rfl ?_
                              refine X_aload_n rfl rfl rfl rfl ?_
                              refine X_getI (v := (0 : Int32)) rfl rfl rfl ((congrFun F.1 2).trans s_2) rfl ((congrFun (F.2.2 2 (by decide)).1 0).trans i_2_0) ?_
                              refine X_icmp_ge (tgt := 91) rfl rfl rfl (fun _ => ?_) (fun q => absurd q (by decide))
                              refine X_iconst (v := (0 : Int32)) rfl rfl rfl ?_
                              refine LW_ireturn (st := []) rfl rfl rfl ?_
                              refine X_if_eq (tgt := 60) rfl rfl rfl (fun _ => ?_) (fun q => absurd q (by decide))
                              refine X_iconst (v := (0 : Int32)) rfl rfl rfl ?_
                              refine X_istore (i := 5) (ls' := [some (.ref 2), some (.ref 354), some (.int (0 : Int32)), some (.int (2 : Int32)), some (.int s), some (.int (0 : Int32)), none]) rfl rfl (Nat.le_of_ble_eq_true rfl) rfl ?_
                              refine X_iconst (v := (0 : Int32)) rfl rfl rfl ?_
                              refine X_istore (i := 6) (ls' := [some (.ref 2), some (.ref 354), some (.int (0 : Int32)), some (.int (2 : Int32)), some (.int s), some (.int (0 : Int32)), some (.int (0 : Int32))]) rfl rfl (Nat.le_of_ble_eq_true rfl) rfl ?_
                              refine X_iload rfl rfl rfl ?_
                              refine X_iload_n rfl rfl rfl rfl ?_
                              refine X_icmp_ge (tgt := 112) rfl rfl rfl (fun q => absurd q (by decide)) (fun _ => ?_)
                              refine X_aload_n rfl rfl rfl rfl ?_
                              refine X_getR (a := 6) rfl rfl rfl ((congrFun F.1 2).trans s_2) rfl ((congrFun (F.2.1 2 (by decide)) 5).trans r_2_5) ?_
                              refine X_aload_n rfl rfl rfl rfl ?_
                              refine X_getI (v := (0 : Int32)) rfl rfl rfl ((congrFun F.1 2).trans s_2) rfl ((congrFun (F.2.2 2 (by decide)).1 0).trans i_2_0) ?_
                              refine X_bipush (v := (8 : Int32)) rfl rfl rfl ?_
                              refine X_imul (v := (0 : Int32)) rfl rfl rfl ?_
                              refine X_iload rfl rfl rfl ?_
                              refine X_iadd (v := (0 : Int32)) rfl rfl rfl ?_
                              refine X_aload_n rfl rfl rfl rfl ?_
                              refine X_iload_n rfl rfl rfl rfl ?_
                              refine X_iload rfl rfl rfl ?_
                              refine X_iadd (v := (0 : Int32)) rfl rfl rfl ?_
                              refine X_iald (v := (b0 - (97 : Int32))) rfl rfl ((congrFun F.1 354).trans s_354) (vp_in_d rfl) rfl ?_
                              refine X_iast (k0 := 0) rfl rfl ((congrFun F.1 6).trans s_6) (vp_in_d rfl) rfl ?_
                              refine X_iload rfl rfl rfl ?_
                              refine X_iconst (v := (1 : Int32)) rfl rfl rfl ?_
                              refine X_aload_n rfl rfl rfl rfl ?_
                              refine X_iload_n rfl rfl rfl rfl ?_
                              refine X_iload rfl rfl rfl ?_
                              refine X_iadd (v := (0 : Int32)) rfl rfl rfl ?_
                              refine X_iald (v := (b0 - (97 : Int32))) rfl rfl ((congrFun F.1 354).trans s_354) (vp_in_d rfl) rfl ?_
                              refine X_ishl (v := ((1 : Int32) <<< ((b0 - (97 : Int32)) &&& 31))) rfl rfl rfl ?_
                              refine X_ior (v := ((0 : Int32) ||| ((1 : Int32) <<< ((b0 - (97 : Int32)) &&& 31)))) rfl rfl rfl ?_
                              refine X_istore (i := 5) (ls' := [some (.ref 2), some (.ref 354), some (.int (0 : Int32)), some (.int (2 : Int32)), some (.int s), some (.int ((0 : Int32) ||| ((1 : Int32) <<< ((b0 - (97 : Int32)) &&& 31)))), some (.int (0 : Int32))]) rfl rfl (Nat.le_of_ble_eq_true rfl) rfl ?_
                              refine X_iinc (v := (1 : Int32)) (ls' := [some (.ref 2), some (.ref 354), some (.int (0 : Int32)), some (.int (2 : Int32)), some (.int s), some (.int ((0 : Int32) ||| ((1 : Int32) <<< ((b0 - (97 : Int32)) &&& 31)))), some (.int (1 : Int32))]) rfl rfl rfl rfl rfl ?_
                              refine LW_goto (tgt := 66) rfl rfl ?_
                              refine X_iload rfl rfl rfl ?_
                              refine X_iload_n rfl rfl rfl rfl ?_
                              refine X_icmp_ge (tgt := 112) rfl rfl rfl (fun q => absurd q (by decide)) (fun _ => ?_)
                              refine X_aload_n rfl rfl rfl rfl ?_
                              refine X_getR (a := 6) rfl rfl rfl ((congrFun F.1 2).trans s_2) rfl ((congrFun (F.2.1 2 (by decide)) 5).trans r_2_5) ?_
                              refine X_aload_n rfl rfl rfl rfl ?_
                              refine X_getI (v := (0 : Int32)) rfl rfl rfl ((congrFun F.1 2).trans s_2) rfl ((congrFun (F.2.2 2 (by decide)).1 0).trans i_2_0) ?_
                              refine X_bipush (v := (8 : Int32)) rfl rfl rfl ?_
                              refine X_imul (v := (0 : Int32)) rfl rfl rfl ?_
                              refine X_iload rfl rfl rfl ?_
                              refine X_iadd (v := (1 : Int32)) rfl rfl rfl ?_
                              refine X_aload_n rfl rfl rfl rfl ?_
                              refine X_iload_n rfl rfl rfl rfl ?_
                              refine X_iload rfl rfl rfl ?_
                              refine X_iadd (v := (1 : Int32)) rfl rfl rfl ?_
                              refine X_iald (v := (b1 - (97 : Int32))) rfl rfl ((congrFun F.1 354).trans s_354) (vp_in_d rfl) rfl ?_
                              refine X_iast (k0 := 1) rfl rfl ((congrFun F.1 6).trans s_6) (vp_in_d rfl) rfl ?_
                              refine X_iload rfl rfl rfl ?_
                              refine X_iconst (v := (1 : Int32)) rfl rfl rfl ?_
                              refine X_aload_n rfl rfl rfl rfl ?_
                              refine X_iload_n rfl rfl rfl rfl ?_
                              refine X_iload rfl rfl rfl ?_
                              refine X_iadd (v := (1 : Int32)) rfl rfl rfl ?_
                              refine X_iald (v := (b1 - (97 : Int32))) rfl rfl ((congrFun F.1 354).trans s_354) (vp_in_d rfl) rfl ?_
                              refine X_ishl (v := ((1 : Int32) <<< ((b1 - (97 : Int32)) &&& 31))) rfl rfl rfl ?_
                              refine X_ior (v := (((0 : Int32) ||| ((1 : Int32) <<< ((b0 - (97 : Int32)) &&& 31))) ||| ((1 : Int32) <<< ((b1 - (97 : Int32)) &&& 31)))) rfl rfl rfl ?_
                              refine X_istore (i := 5) (ls' := [some (.ref 2), some (.ref 354), some (.int (0 : Int32)), some (.int (2 : Int32)), some (.int s), some (.int (((0 : Int32) ||| ((1 : Int32) <<< ((b0 - (97 : Int32)) &&& 31))) ||| ((1 : Int32) <<< ((b1 - (97 : Int32)) &&& 31)))), some (.int (1 : Int32))]) rfl rfl (Nat.le_of_ble_eq_true rfl) rfl ?_
                              refine X_iinc (v := (2 : Int32)) (ls' := [some (.ref 2), some (.ref 354), some (.int (0 : Int32)), some (.int (2 : Int32)), some (.int s), some (.int (((0 : Int32) ||| ((1 : Int32) <<< ((b0 - (97 : Int32)) &&& 31))) ||| ((1 : Int32) <<< ((b1 - (97 : Int32)) &&& 31)))), some (.int (2 : Int32))]) rfl rfl rfl rfl rfl ?_
                              refine LW_goto (tgt := 66) rfl rfl ?_
                              refine X_iload rfl rfl rfl ?_
                              refine X_iload_n rfl rfl rfl rfl ?_
                              refine X_icmp_ge (tgt := 112) rfl rfl rfl (fun _ => ?_) (fun q => absurd q (by decide))
                              refine X_aload_n rfl rfl rfl rfl ?_
                              refine X_getR (a := 3) rfl rfl rfl ((congrFun F.1 2).trans s_2) rfl ((congrFun (F.2.1 2 (by decide)) 2).trans r_2_2) ?_
                              refine X_aload_n rfl rfl rfl rfl ?_
                              refine X_getI (v := (0 : Int32)) rfl rfl rfl ((congrFun F.1 2).trans s_2) rfl ((congrFun (F.2.2 2 (by decide)).1 0).trans i_2_0) ?_
                              refine X_iload_n rfl rfl rfl rfl ?_
                              refine X_iast (k0 := 0) rfl rfl ((congrFun F.1 3).trans s_3) (vp_in_d rfl) rfl ?_
                              refine X_aload_n rfl rfl rfl rfl ?_
                              refine X_getR (a := 4) rfl rfl rfl ((congrFun F.1 2).trans s_2) rfl ((congrFun (F.2.1 2 (by decide)) 3).trans r_2_3) ?_
                              refine X_aload_n rfl rfl rfl rfl ?_
                              refine X_getI (v := (0 : Int32)) rfl rfl rfl ((congrFun F.1 2).trans s_2) rfl ((congrFun (F.2.2 2 (by decide)).1 0).trans i_2_0) ?_
                              refine X_iload rfl rfl rfl ?_
                              refine X_iast (k0 := 0) rfl rfl ((congrFun F.1 4).trans s_4) (vp_in_d rfl) rfl ?_
                              refine X_aload_n rfl rfl rfl rfl ?_
                              refine X_getR (a := 5) rfl rfl rfl ((congrFun F.1 2).trans s_2) rfl ((congrFun (F.2.1 2 (by decide)) 4).trans r_2_4) ?_
                              refine X_aload_n rfl rfl rfl rfl ?_
                              refine X_getI (v := (0 : Int32)) rfl rfl rfl ((congrFun F.1 2).trans s_2) rfl ((congrFun (F.2.2 2 (by decide)).1 0).trans i_2_0) ?_
                              refine X_iload rfl rfl rfl ?_
                              refine X_iast (k0 := 0) rfl rfl ((congrFun F.1 5).trans s_5) (vp_in_d rfl) rfl ?_
                              refine X_aload_n rfl rfl rfl rfl ?_
                              refine X_dup rfl rfl rfl ?_
                              refine X_getI (v := (0 : Int32)) rfl rfl rfl ((congrFun F.1 2).trans s_2) rfl ((congrFun (F.2.2 2 (by decide)).1 0).trans i_2_0) ?_
                              refine X_iconst (v := (1 : Int32)) rfl rfl rfl ?_
                              refine X_iadd (v := (1 : Int32)) rfl rfl rfl ?_
                              refine X_putI rfl rfl rfl ((congrFun F.1 2).trans s_2) rfl rfl rfl rfl ?_
                              refine X_aload_n rfl rfl rfl rfl ?_
                              refine X_getI (v := (1 : Int32)) rfl rfl rfl ((congrFun F.1 2).trans s_2) rfl rfl ?_
                              refine X_iconst (v := (1 : Int32)) rfl rfl rfl ?_
                              refine X_isub (v := (0 : Int32)) rfl rfl rfl ?_
                              refine LW_ireturn (st := []) rfl rfl rfl ?_
                              refine LW_ireturn (st := []) rfl rfl rfl ⟨congrArg (fun z => some (Value.int z)) ?_, (Fr_putI (Fr_putI (Fr_putI (Fr_putI (Fr_putI (Fr_putI (Fr_putI (Fr_putI E (by decide)) (by decide)) (by decide)) (by decide)) (by decide)) (by decide)) (by decide)) (by decide))⟩
                              simp only [Int32.lt_iff_toInt_lt, Int32.le_iff_toInt_le, ← Int32.toInt_inj, (show (0 : Int32).toInt = 0 from rfl), (show (9 : Int32).toInt = 9 from rfl), (show (97 : Int32).toInt = 97 from rfl), (show (122 : Int32).toInt = 122 from rfl)] at h1 h2 h3 h4 h5 h6 h7 h47 h48 h49 h50 h51 h52 h53
                              unfold f_wordB
                              rw [if_pos (by omega)]
            · refine X_iconst (v := (-1 : Int32)) rfl rfl rfl ?_
              refine LW_ireturn (st := []) rfl rfl rfl ⟨congrArg (fun z => some (Value.int z)) ?_, (Fr_putI E (by decide))⟩
              simp only [Int32.lt_iff_toInt_lt, Int32.le_iff_toInt_le, ← Int32.toInt_inj, (show (0 : Int32).toInt = 0 from rfl), (show (97 : Int32).toInt = 97 from rfl), (show (122 : Int32).toInt = 122 from rfl)] at h1 h2 h3 h4 h5 h6
              unfold f_wordB
              rw [if_neg (by omega)]
        · refine X_iconst (v := (1 : Int32)) rfl rfl rfl ?_
          refine X_istore (i := 5) (ls' := [some (.ref 0), some (.int a), some (.int c), some (.int s), some (.int (1 : Int32)), some (.int (1 : Int32)), some (.int (1 : Int32)), some (.int b1)]) rfl rfl (Nat.le_of_ble_eq_true rfl) rfl ?_
          refine LW_goto (tgt := 88) rfl rfl ?_
          refine X_iinc (v := (2 : Int32)) (ls' := [some (.ref 0), some (.int a), some (.int c), some (.int s), some (.int (1 : Int32)), some (.int (1 : Int32)), some (.int (2 : Int32)), some (.int b1)]) rfl rfl rfl rfl rfl ?_
          refine LW_goto (tgt := 9) rfl rfl ?_
          refine X_iload rfl rfl rfl ?_
          refine X_bipush (v := (8 : Int32)) rfl rfl rfl ?_
          refine X_icmp_ge (tgt := 94) rfl rfl rfl (fun q => absurd q (by decide)) (fun _ => ?_)
          refine X_iload rfl rfl rfl ?_
          refine X_iconst (v := (4 : Int32)) rfl rfl rfl ?_
          refine X_icmp_ge (tgt := 26) rfl rfl rfl (fun q => absurd q (by decide)) (fun _ => ?_)
          refine X_iload_n rfl rfl rfl rfl ?_
          refine LW_goto (tgt := 27) rfl rfl ?_
          refine X_bipush (v := (8 : Int32)) rfl rfl rfl ?_
          refine X_iload rfl rfl rfl ?_
          refine X_iconst (v := (4 : Int32)) rfl rfl rfl ?_
          refine X_irem (v := (2 : Int32)) rfl rfl (by decide) rfl ?_
          refine X_imul (v := (16 : Int32)) rfl rfl rfl ?_
          refine X_iushr (v := ((a).toUInt32 >>> (((16 : Int32)).toUInt32 &&& Int32.toUInt32 31)).toInt32) rfl rfl rfl ?_
          refine X_sipush (v := (255 : Int32)) rfl rfl rfl ?_
          refine X_iand (v := b2) rfl rfl hb2 ?_
          refine X_istore (i := 7) (ls' := [some (.ref 0), some (.int a), some (.int c), some (.int s), some (.int (1 : Int32)), some (.int (1 : Int32)), some (.int (2 : Int32)), some (.int b2)]) rfl rfl (Nat.le_of_ble_eq_true rfl) rfl ?_
          refine X_iload rfl rfl rfl ?_
          refine X_if_ne (tgt := 52) rfl rfl rfl (fun h54 => ?_) (fun h54 => ?_)
          · refine X_iload rfl rfl rfl ?_
            refine X_if_ne (tgt := 71) rfl rfl rfl (fun _ => ?_) (fun q => absurd q (by decide))
            refine X_iconst (v := (-1 : Int32)) rfl rfl rfl ?_
            refine LW_ireturn (st := []) rfl rfl rfl ⟨congrArg (fun z => some (Value.int z)) ?_, (Fr_putI E (by decide))⟩
            simp only [Int32.lt_iff_toInt_lt, Int32.le_iff_toInt_le, ← Int32.toInt_inj, (show (0 : Int32).toInt = 0 from rfl), (show (97 : Int32).toInt = 97 from rfl), (show (122 : Int32).toInt = 122 from rfl)] at h1 h2 h3 h4 h54
            unfold f_wordB
            rw [if_neg (by omega)]
          · refine X_iconst (v := (1 : Int32)) rfl rfl rfl ?_
            refine X_istore (i := 5) (ls' := [some (.ref 0), some (.int a), some (.int c), some (.int s), some (.int (1 : Int32)), some (.int (1 : Int32)), some (.int (2 : Int32)), some (.int b2)]) rfl rfl (Nat.le_of_ble_eq_true rfl) rfl ?_
            refine LW_goto (tgt := 88) rfl rfl ?_
            refine X_iinc (v := (3 : Int32)) (ls' := [some (.ref 0), some (.int a), some (.int c), some (.int s), some (.int (1 : Int32)), some (.int (1 : Int32)), some (.int (3 : Int32)), some (.int b2)]) rfl rfl rfl rfl rfl ?_
            refine LW_goto (tgt := 9) rfl rfl ?_
            refine X_iload rfl rfl rfl ?_
            refine X_bipush (v := (8 : Int32)) rfl rfl rfl ?_
            refine X_icmp_ge (tgt := 94) rfl rfl rfl (fun q => absurd q (by decide)) (fun _ => ?_)
            refine X_iload rfl rfl rfl ?_
            refine X_iconst (v := (4 : Int32)) rfl rfl rfl ?_
            refine X_icmp_ge (tgt := 26) rfl rfl rfl (fun q => absurd q (by decide)) (fun _ => ?_)
            refine X_iload_n rfl rfl rfl rfl ?_
            refine LW_goto (tgt := 27) rfl rfl ?_
            refine X_bipush (v := (8 : Int32)) rfl rfl rfl ?_
            refine X_iload rfl rfl rfl ?_
            refine X_iconst (v := (4 : Int32)) rfl rfl rfl ?_
            refine X_irem (v := (3 : Int32)) rfl rfl (by decide) rfl ?_
            refine X_imul (v := (24 : Int32)) rfl rfl rfl ?_
            refine X_iushr (v := ((a).toUInt32 >>> (((24 : Int32)).toUInt32 &&& Int32.toUInt32 31)).toInt32) rfl rfl rfl ?_
            refine X_sipush (v := (255 : Int32)) rfl rfl rfl ?_
            refine X_iand (v := b3) rfl rfl hb3 ?_
            refine X_istore (i := 7) (ls' := [some (.ref 0), some (.int a), some (.int c), some (.int s), some (.int (1 : Int32)), some (.int (1 : Int32)), some (.int (3 : Int32)), some (.int b3)]) rfl rfl (Nat.le_of_ble_eq_true rfl) rfl ?_
            refine X_iload rfl rfl rfl ?_
            refine X_if_ne (tgt := 52) rfl rfl rfl (fun h55 => ?_) (fun h55 => ?_)
            · refine X_iload rfl rfl rfl ?_
              refine X_if_ne (tgt := 71) rfl rfl rfl (fun _ => ?_) (fun q => absurd q (by decide))
              refine X_iconst (v := (-1 : Int32)) rfl rfl rfl ?_
              refine LW_ireturn (st := []) rfl rfl rfl ⟨congrArg (fun z => some (Value.int z)) ?_, (Fr_putI E (by decide))⟩
              simp only [Int32.lt_iff_toInt_lt, Int32.le_iff_toInt_le, ← Int32.toInt_inj, (show (0 : Int32).toInt = 0 from rfl), (show (97 : Int32).toInt = 97 from rfl), (show (122 : Int32).toInt = 122 from rfl)] at h1 h2 h3 h4 h54 h55
              unfold f_wordB
              rw [if_neg (by omega)]
            · refine X_iconst (v := (1 : Int32)) rfl rfl rfl ?_
              refine X_istore (i := 5) (ls' := [some (.ref 0), some (.int a), some (.int c), some (.int s), some (.int (1 : Int32)), some (.int (1 : Int32)), some (.int (3 : Int32)), some (.int b3)]) rfl rfl (Nat.le_of_ble_eq_true rfl) rfl ?_
              refine LW_goto (tgt := 88) rfl rfl ?_
              refine X_iinc (v := (4 : Int32)) (ls' := [some (.ref 0), some (.int a), some (.int c), some (.int s), some (.int (1 : Int32)), some (.int (1 : Int32)), some (.int (4 : Int32)), some (.int b3)]) rfl rfl rfl rfl rfl ?_
              refine LW_goto (tgt := 9) rfl rfl ?_
              refine X_iload rfl rfl rfl ?_
              refine X_bipush (v := (8 : Int32)) rfl rfl rfl ?_
              refine X_icmp_ge (tgt := 94) rfl rfl rfl (fun q => absurd q (by decide)) (fun _ => ?_)
              refine X_iload rfl rfl rfl ?_
              refine X_iconst (v := (4 : Int32)) rfl rfl rfl ?_
              refine X_icmp_ge (tgt := 26) rfl rfl rfl (fun _ => ?_) (fun q => absurd q (by decide))
              refine X_iload_n rfl rfl rfl rfl ?_
              refine X_bipush (v := (8 : Int32)) rfl rfl rfl ?_
              refine X_iload rfl rfl rfl ?_
              refine X_iconst (v := (4 : Int32)) rfl rfl rfl ?_
              refine X_irem (v := (0 : Int32)) rfl rfl (by decide) rfl ?_
              refine X_imul (v := (0 : Int32)) rfl rfl rfl ?_
              refine X_iushr (v := ((c).toUInt32 >>> (((0 : Int32)).toUInt32 &&& Int32.toUInt32 31)).toInt32) rfl rfl rfl ?_
              refine X_sipush (v := (255 : Int32)) rfl rfl rfl ?_
              refine X_iand (v := b4) rfl rfl hb4 ?_
              refine X_istore (i := 7) (ls' := [some (.ref 0), some (.int a), some (.int c), some (.int s), some (.int (1 : Int32)), some (.int (1 : Int32)), some (.int (4 : Int32)), some (.int b4)]) rfl rfl (Nat.le_of_ble_eq_true rfl) rfl ?_
              refine X_iload rfl rfl rfl ?_
              refine X_if_ne (tgt := 52) rfl rfl rfl (fun h56 => ?_) (fun h56 => ?_)
              · refine X_iload rfl rfl rfl ?_
                refine X_if_ne (tgt := 71) rfl rfl rfl (fun _ => ?_) (fun q => absurd q (by decide))
                refine X_iconst (v := (-1 : Int32)) rfl rfl rfl ?_
                refine LW_ireturn (st := []) rfl rfl rfl ⟨congrArg (fun z => some (Value.int z)) ?_, (Fr_putI E (by decide))⟩
                simp only [Int32.lt_iff_toInt_lt, Int32.le_iff_toInt_le, ← Int32.toInt_inj, (show (0 : Int32).toInt = 0 from rfl), (show (97 : Int32).toInt = 97 from rfl), (show (122 : Int32).toInt = 122 from rfl)] at h1 h2 h3 h4 h54 h55 h56
                unfold f_wordB
                rw [if_neg (by omega)]
              · refine X_iconst (v := (1 : Int32)) rfl rfl rfl ?_
                refine X_istore (i := 5) (ls' := [some (.ref 0), some (.int a), some (.int c), some (.int s), some (.int (1 : Int32)), some (.int (1 : Int32)), some (.int (4 : Int32)), some (.int b4)]) rfl rfl (Nat.le_of_ble_eq_true rfl) rfl ?_
                refine LW_goto (tgt := 88) rfl rfl ?_
                refine X_iinc (v := (5 : Int32)) (ls' := [some (.ref 0), some (.int a), some (.int c), some (.int s), some (.int (1 : Int32)), some (.int (1 : Int32)), some (.int (5 : Int32)), some (.int b4)]) rfl rfl rfl rfl rfl ?_
                refine LW_goto (tgt := 9) rfl rfl ?_
                refine X_iload rfl rfl rfl ?_
                refine X_bipush (v := (8 : Int32)) rfl rfl rfl ?_
                refine X_icmp_ge (tgt := 94) rfl rfl rfl (fun q => absurd q (by decide)) (fun _ => ?_)
                refine X_iload rfl rfl rfl ?_
                refine X_iconst (v := (4 : Int32)) rfl rfl rfl ?_
                refine X_icmp_ge (tgt := 26) rfl rfl rfl (fun _ => ?_) (fun q => absurd q (by decide))
                refine X_iload_n rfl rfl rfl rfl ?_
                refine X_bipush (v := (8 : Int32)) rfl rfl rfl ?_
                refine X_iload rfl rfl rfl ?_
                refine X_iconst (v := (4 : Int32)) rfl rfl rfl ?_
                refine X_irem (v := (1 : Int32)) rfl rfl (by decide) rfl ?_
                refine X_imul (v := (8 : Int32)) rfl rfl rfl ?_
                refine X_iushr (v := ((c).toUInt32 >>> (((8 : Int32)).toUInt32 &&& Int32.toUInt32 31)).toInt32) rfl rfl rfl ?_
                refine X_sipush (v := (255 : Int32)) rfl rfl rfl ?_
                refine X_iand (v := b5) rfl rfl hb5 ?_
                refine X_istore (i := 7) (ls' := [some (.ref 0), some (.int a), some (.int c), some (.int s), some (.int (1 : Int32)), some (.int (1 : Int32)), some (.int (5 : Int32)), some (.int b5)]) rfl rfl (Nat.le_of_ble_eq_true rfl) rfl ?_
                refine X_iload rfl rfl rfl ?_
                refine X_if_ne (tgt := 52) rfl rfl rfl (fun h57 => ?_) (fun h57 => ?_)
                · refine X_iload rfl rfl rfl ?_
                  refine X_if_ne (tgt := 71) rfl rfl rfl (fun _ => ?_) (fun q => absurd q (by decide))
                  refine X_iconst (v := (-1 : Int32)) rfl rfl rfl ?_
                  refine LW_ireturn (st := []) rfl rfl rfl ⟨congrArg (fun z => some (Value.int z)) ?_, (Fr_putI E (by decide))⟩
                  simp only [Int32.lt_iff_toInt_lt, Int32.le_iff_toInt_le, ← Int32.toInt_inj, (show (0 : Int32).toInt = 0 from rfl), (show (97 : Int32).toInt = 97 from rfl), (show (122 : Int32).toInt = 122 from rfl)] at h1 h2 h3 h4 h54 h55 h56 h57
                  unfold f_wordB
                  rw [if_neg (by omega)]
                · refine X_iconst (v := (1 : Int32)) rfl rfl rfl ?_
                  refine X_istore (i := 5) (ls' := [some (.ref 0), some (.int a), some (.int c), some (.int s), some (.int (1 : Int32)), some (.int (1 : Int32)), some (.int (5 : Int32)), some (.int b5)]) rfl rfl (Nat.le_of_ble_eq_true rfl) rfl ?_
                  refine LW_goto (tgt := 88) rfl rfl ?_
                  refine X_iinc (v := (6 : Int32)) (ls' := [some (.ref 0), some (.int a), some (.int c), some (.int s), some (.int (1 : Int32)), some (.int (1 : Int32)), some (.int (6 : Int32)), some (.int b5)]) rfl rfl rfl rfl rfl ?_
                  refine LW_goto (tgt := 9) rfl rfl ?_
                  refine X_iload rfl rfl rfl ?_
                  refine X_bipush (v := (8 : Int32)) rfl rfl rfl ?_
                  refine X_icmp_ge (tgt := 94) rfl rfl rfl (fun q => absurd q (by decide)) (fun _ => ?_)
                  refine X_iload rfl rfl rfl ?_
                  refine X_iconst (v := (4 : Int32)) rfl rfl rfl ?_
                  refine X_icmp_ge (tgt := 26) rfl rfl rfl (fun _ => ?_) (fun q => absurd q (by decide))
                  refine X_iload_n rfl rfl rfl rfl ?_
                  refine X_bipush (v := (8 : Int32)) rfl rfl rfl ?_
                  refine X_iload rfl rfl rfl ?_
                  refine X_iconst (v := (4 : Int32)) rfl rfl rfl ?_
                  refine X_irem (v := (2 : Int32)) rfl rfl (by decide) rfl ?_
                  refine X_imul (v := (16 : Int32)) rfl rfl rfl ?_
                  refine X_iushr (v := ((c).toUInt32 >>> (((16 : Int32)).toUInt32 &&& Int32.toUInt32 31)).toInt32) rfl rfl rfl ?_
                  refine X_sipush (v := (255 : Int32)) rfl rfl rfl ?_
                  refine X_iand (v := b6) rfl rfl hb6 ?_
                  refine X_istore (i := 7) (ls' := [some (.ref 0), some (.int a), some (.int c), some (.int s), some (.int (1 : Int32)), some (.int (1 : Int32)), some (.int (6 : Int32)), some (.int b6)]) rfl rfl (Nat.le_of_ble_eq_true rfl) rfl ?_
                  refine X_iload rfl rfl rfl ?_
                  refine X_if_ne (tgt := 52) rfl rfl rfl (fun h58 => ?_) (fun h58 => ?_)
                  · refine X_iload rfl rfl rfl ?_
                    refine X_if_ne (tgt := 71) rfl rfl rfl (fun _ => ?_) (fun q => absurd q (by decide))
                    refine X_iconst (v := (-1 : Int32)) rfl rfl rfl ?_
                    refine LW_ireturn (st := []) rfl rfl rfl ⟨congrArg (fun z => some (Value.int z)) ?_, (Fr_putI E (by decide))⟩
                    simp only [Int32.lt_iff_toInt_lt, Int32.le_iff_toInt_le, ← Int32.toInt_inj, (show (0 : Int32).toInt = 0 from rfl), (show (97 : Int32).toInt = 97 from rfl), (show (122 : Int32).toInt = 122 from rfl)] at h1 h2 h3 h4 h54 h55 h56 h57 h58
                    unfold f_wordB
                    rw [if_neg (by omega)]
                  · refine X_iconst (v := (1 : Int32)) rfl rfl rfl ?_
                    refine X_istore (i := 5) (ls' := [some (.ref 0), some (.int a), some (.int c), some (.int s), some (.int (1 : Int32)), some (.int (1 : Int32)), some (.int (6 : Int32)), some (.int b6)]) rfl rfl (Nat.le_of_ble_eq_true rfl) rfl ?_
                    refine LW_goto (tgt := 88) rfl rfl ?_
                    refine X_iinc (v := (7 : Int32)) (ls' := [some (.ref 0), some (.int a), some (.int c), some (.int s), some (.int (1 : Int32)), some (.int (1 : Int32)), some (.int (7 : Int32)), some (.int b6)]) rfl rfl rfl rfl rfl ?_
                    refine LW_goto (tgt := 9) rfl rfl ?_
                    refine X_iload rfl rfl rfl ?_
                    refine X_bipush (v := (8 : Int32)) rfl rfl rfl ?_
                    refine X_icmp_ge (tgt := 94) rfl rfl rfl (fun q => absurd q (by decide)) (fun _ => ?_)
                    refine X_iload rfl rfl rfl ?_
                    refine X_iconst (v := (4 : Int32)) rfl rfl rfl ?_
                    refine X_icmp_ge (tgt := 26) rfl rfl rfl (fun _ => ?_) (fun q => absurd q (by decide))
                    refine X_iload_n rfl rfl rfl rfl ?_
                    refine X_bipush (v := (8 : Int32)) rfl rfl rfl ?_
                    refine X_iload rfl rfl rfl ?_
                    refine X_iconst (v := (4 : Int32)) rfl rfl rfl ?_
                    refine X_irem (v := (3 : Int32)) rfl rfl (by decide) rfl ?_
                    refine X_imul (v := (24 : Int32)) rfl rfl rfl ?_
                    refine X_iushr (v := ((c).toUInt32 >>> (((24 : Int32)).toUInt32 &&& Int32.toUInt32 31)).toInt32) rfl rfl rfl ?_
                    refine X_sipush (v := (255 : Int32)) rfl rfl rfl ?_
                    refine X_iand (v := b7) rfl rfl hb7 ?_
                    refine X_istore (i := 7) (ls' := [some (.ref 0), some (.int a), some (.int c), some (.int s), some (.int (1 : Int32)), some (.int (1 : Int32)), some (.int (7 : Int32)), some (.int b7)]) rfl rfl (Nat.le_of_ble_eq_true rfl) rfl ?_
                    refine X_iload rfl rfl rfl ?_
                    refine X_if_ne (tgt := 52) rfl rfl rfl (fun h59 => ?_) (fun h59 => ?_)
                    · refine X_iload rfl rfl rfl ?_
                      refine X_if_ne (tgt := 71) rfl rfl rfl (fun _ => ?_) (fun q => absurd q (by decide))
                      refine X_iconst (v := (-1 : Int32)) rfl rfl rfl ?_
                      refine LW_ireturn (st := []) rfl rfl rfl ⟨congrArg (fun z => some (Value.int z)) ?_, (Fr_putI E (by decide))⟩
                      simp only [Int32.lt_iff_toInt_lt, Int32.le_iff_toInt_le, ← Int32.toInt_inj, (show (0 : Int32).toInt = 0 from rfl), (show (97 : Int32).toInt = 97 from rfl), (show (122 : Int32).toInt = 122 from rfl)] at h1 h2 h3 h4 h54 h55 h56 h57 h58 h59
                      unfold f_wordB
                      rw [if_neg (by omega)]
                    · refine X_iconst (v := (1 : Int32)) rfl rfl rfl ?_
                      refine X_istore (i := 5) (ls' := [some (.ref 0), some (.int a), some (.int c), some (.int s), some (.int (1 : Int32)), some (.int (1 : Int32)), some (.int (7 : Int32)), some (.int b7)]) rfl rfl (Nat.le_of_ble_eq_true rfl) rfl ?_
                      refine LW_goto (tgt := 88) rfl rfl ?_
                      refine X_iinc (v := (8 : Int32)) (ls' := [some (.ref 0), some (.int a), some (.int c), some (.int s), some (.int (1 : Int32)), some (.int (1 : Int32)), some (.int (8 : Int32)), some (.int b7)]) rfl rfl rfl rfl rfl ?_
                      refine LW_goto (tgt := 9) rfl rfl ?_
                      refine X_iload rfl rfl rfl ?_
                      refine X_bipush (v := (8 : Int32)) rfl rfl rfl ?_
                      refine X_icmp_ge (tgt := 94) rfl rfl rfl (fun _ => ?_) (fun q => absurd q (by decide))
                      refine X_aload_n rfl rfl rfl rfl ?_
                      refine X_getR (a := 1) rfl rfl rfl ((congrFun F.1 0).trans s_0) rfl ((congrFun (F.2.1 0 (by decide)) 0).trans r_0_0) ?_
                      refine X_getR (a := 2) rfl rfl rfl ((congrFun F.1 1).trans s_1) rfl ((congrFun (F.2.1 1 (by decide)) 0).trans r_1_0) ?_
                      refine X_aload_n rfl rfl rfl rfl ?_
                      refine X_getR (a := 354) rfl rfl rfl ((congrFun F.1 0).trans s_0) rfl ((congrFun (F.2.1 0 (by decide)) 9).trans r_0_9) ?_
                      refine X_iconst (v := (0 : Int32)) rfl rfl rfl ?_
                      refine X_iload rfl rfl rfl ?_
                      refine X_iload_n rfl rfl rfl rfl ?_
                      refine X_callV (as := [.ref 354, .int (0 : Int32), .int (1 : Int32), .int s]) (st := []) rfl rfl rfl (by decide) rfl (Nat.le_of_ble_eq_true rfl) (by decide) (Nat.le_of_ble_eq_true rfl) rfl ((congrFun F.1 2).trans s_2) (by decide) ?_
                      refine LW_ls (ls' := [some (.ref 2), some (.ref 354), some (.int (0 : Int32)), some (.int (1 : Int32)), some (.int s), none, none]) rfl ?_
                      refine X_iload_n rfl rfl rfl rfl ?_
                      refine X_iconst (v := (1 : Int32)) rfl rfl rfl ?_
                      refine X_icmp_lt (tgt := 23) rfl rfl rfl (fun q => absurd q (by decide)) (fun _ => ?_)
                      refine X_iload_n rfl rfl rfl rfl ?_
                      refine X_bipush (v := (8 : Int32)) rfl rfl rfl ?_
                      refine X_icmp_gt (tgt := 23) rfl rfl rfl (fun q => absurd q (by decide)) (fun _ => ?_)
                      refine X_iload_n rfl rfl rfl rfl ?_
                      refine X_if_lt (tgt := 23) rfl rfl rfl (fun q => absurd q (by decide)) (fun _ => ?_)
                      refine X_iload_n rfl rfl rfl rfl ?_
                      refine X_iload_n rfl rfl rfl rfl ?_
                      refine X_iadd (v := (1 : Int32)) rfl rfl rfl ?_
                      refine X_aload_n rfl rfl rfl rfl ?_
                      refine X_alen (t0 := 0) (v := (8 : Int32)) rfl rfl ((congrFun F.1 354).trans s_354) rfl rfl ?_
                      refine X_icmp_le (tgt := 25) rfl rfl rfl (fun _ => ?_) (fun q => absurd q (by decide))
                      refine X_iload rfl rfl rfl ?_
                      refine X_if_lt (tgt := 46) rfl rfl rfl (fun h60 => ?_) (fun h60 => ?_)
                      · refine X_iconst (v := (-1 : Int32)) rfl rfl rfl ?_
                        refine LW_ireturn (st := []) rfl rfl rfl ?_
                        refine LW_ireturn (st := []) rfl rfl rfl ⟨congrArg (fun z => some (Value.int z)) ?_, (Fr_putI E (by decide))⟩
                        simp only [Int32.lt_iff_toInt_lt, Int32.le_iff_toInt_le, ← Int32.toInt_inj, (show (0 : Int32).toInt = 0 from rfl), (show (97 : Int32).toInt = 97 from rfl), (show (122 : Int32).toInt = 122 from rfl)] at h1 h2 h3 h4 h54 h55 h56 h57 h58 h59 h60
                        unfold f_wordB
                        rw [if_neg (by omega)]
                      · refine X_iload rfl rfl rfl ?_
                        refine X_bipush (v := (9 : Int32)) rfl rfl rfl ?_
                        refine X_icmp_gt (tgt := 46) rfl rfl rfl (fun h61 => ?_) (fun h61 => ?_)
                        · refine X_iconst (v := (-1 : Int32)) rfl rfl rfl ?_
                          refine LW_ireturn (st := []) rfl rfl rfl ?_
                          refine LW_ireturn (st := []) rfl rfl rfl ⟨congrArg (fun z => some (Value.int z)) ?_, (Fr_putI E (by decide))⟩
                          simp only [Int32.lt_iff_toInt_lt, Int32.le_iff_toInt_le, ← Int32.toInt_inj, (show (0 : Int32).toInt = 0 from rfl), (show (9 : Int32).toInt = 9 from rfl), (show (97 : Int32).toInt = 97 from rfl), (show (122 : Int32).toInt = 122 from rfl)] at h1 h2 h3 h4 h54 h55 h56 h57 h58 h59 h60 h61
                          unfold f_wordB
                          rw [if_neg (by omega)]
                        · refine X_aload_n rfl rfl rfl rfl ?_
                          refine X_getI (v := (0 : Int32)) rfl rfl rfl ((congrFun F.1 2).trans s_2) rfl ((congrFun (F.2.2 2 (by decide)).1 0).trans i_2_0) ?_
                          refine X_bipush (v := (24 : Int32)) rfl rfl rfl ?_
                          refine X_icmp_lt (tgt := 48) rfl rfl rfl (fun _ => ?_) (fun q => absurd q (by decide))
                          refine X_aload_n rfl rfl rfl rfl ?_
                          refine X_aload_n rfl rfl rfl rfl ?_
                          refine X_iload_n rfl rfl rfl rfl ?_
                          refine X_iload_n rfl rfl rfl rfl ?_
                          refine X_callV (as := [.ref 354, .int (0 : Int32), .int (1 : Int32)]) (st := []) rfl rfl rfl (by decide) rfl (Nat.le_of_ble_eq_true rfl) (by decide) (Nat.le_of_ble_eq_true rfl) rfl ((congrFun F.1 2).trans s_2) (by decide) ?_
                          refine LW_ls (ls' := [some (.ref 2), some (.ref 354), some (.int (0 : Int32)), some (.int (1 : Int32)), none, none, none]) rfl ?_
                          refine X_iconst (v := (0 : Int32)) rfl rfl rfl ?_
                          refine X_istore (i := 4) (ls' := [some (.ref 2), some (.ref 354), some (.int (0 : Int32)), some (.int (1 : Int32)), some (.int (0 : Int32)), none, none]) rfl rfl (Nat.le_of_ble_eq_true rfl) rfl ?_
                          refine X_iload rfl rfl rfl ?_
                          refine X_aload_n rfl rfl rfl rfl ?_
                          refine X_getI (v := (0 : Int32)) rfl rfl rfl ((congrFun F.1 2).trans s_2) rfl ((congrFun (F.2.2 2 (by decide)).1 0).trans i_2_0) ?_
                          refine X_icmp_ge (tgt := 91) rfl rfl rfl (fun _ => ?_) (fun q => absurd q (by decide))
                          refine X_iconst (v := (0 : Int32)) rfl rfl rfl ?_
                          refine LW_ireturn (st := []) rfl rfl rfl ?_
                          refine X_if_eq (tgt := 60) rfl rfl rfl (fun _ => ?_) (fun q => absurd q (by decide))
                          refine X_iconst (v := (0 : Int32)) rfl rfl rfl ?_
                          refine X_istore (i := 5) (ls' := [some (.ref 2), some (.ref 354), some (.int (0 : Int32)), some (.int (1 : Int32)), some (.int s), some (.int (0 : Int32)), none]) rfl rfl (Nat.le_of_ble_eq_true rfl) rfl ?_
                          refine X_iconst (v := (0 : Int32)) rfl rfl rfl ?_
                          refine X_istore (i := 6) (ls' := [some (.ref 2), some (.ref 354), some (.int (0 : Int32)), some (.int (1 : Int32)), some (.int s), some (.int (0 : Int32)), some (.int (0 : Int32))]) rfl rfl (Nat.le_of_ble_eq_true rfl) rfl ?_
                          refine X_iload rfl rfl rfl ?_
                          refine X_iload_n rfl rfl rfl rfl ?_
                          refine X_icmp_ge (tgt := 112) rfl rfl rfl (fun q => absurd q (by decide)) (fun _ => ?_)
                          refine X_aload_n rfl rfl rfl rfl ?_
                          refine X_getR (a := 6) rfl rfl rfl ((congrFun F.1 2).trans s_2) rfl ((congrFun (F.2.1 2 (by decide)) 5).trans r_2_5) ?_
                          refine X_aload_n rfl rfl rfl rfl ?_
                          refine X_getI (v := (0 : Int32)) rfl rfl rfl ((congrFun F.1 2).trans s_2) rfl ((congrFun (F.2.2 2 (by decide)).1 0).trans i_2_0) ?_
                          refine X_bipush (v := (8 : Int32)) rfl rfl rfl ?_
                          refine X_imul (v := (0 : Int32)) rfl rfl rfl ?_
                          refine X_iload rfl rfl rfl ?_
                          refine X_iadd (v := (0 : Int32)) rfl rfl rfl ?_
                          refine X_aload_n rfl rfl rfl rfl ?_
                          refine X_iload_n rfl rfl rfl rfl ?_
                          refine X_iload rfl rfl rfl ?_
                          refine X_iadd (v := (0 : Int32)) rfl rfl rfl ?_
                          refine X_iald (v := (b0 - (97 : Int32))) rfl rfl ((congrFun F.1 354).trans s_354) (vp_in_d rfl) rfl ?_
                          refine X_iast (k0 := 0) rfl rfl ((congrFun F.1 6).trans s_6) (vp_in_d rfl) rfl ?_
                          refine X_iload rfl rfl rfl ?_
                          refine X_iconst (v := (1 : Int32)) rfl rfl rfl ?_
                          refine X_aload_n rfl rfl rfl rfl ?_
                          refine X_iload_n rfl rfl rfl rfl ?_
                          refine X_iload rfl rfl rfl ?_
                          refine X_iadd (v := (0 : Int32)) rfl rfl rfl ?_
                          refine X_iald (v := (b0 - (97 : Int32))) rfl rfl ((congrFun F.1 354).trans s_354) (vp_in_d rfl) rfl ?_
                          refine X_ishl (v := ((1 : Int32) <<< ((b0 - (97 : Int32)) &&& 31))) rfl rfl rfl ?_
                          refine X_ior (v := ((0 : Int32) ||| ((1 : Int32) <<< ((b0 - (97 : Int32)) &&& 31)))) rfl rfl rfl ?_
                          refine X_istore (i := 5) (ls' := [some (.ref 2), some (.ref 354), some (.int (0 : Int32)), some (.int (1 : Int32)), some (.int s), some (.int ((0 : Int32) ||| ((1 : Int32) <<< ((b0 - (97 : Int32)) &&& 31)))), some (.int (0 : Int32))]) rfl rfl (Nat.le_of_ble_eq_true rfl) rfl ?_
                          refine X_iinc (v := (1 : Int32)) (ls' := [some (.ref 2), some (.ref 354), some (.int (0 : Int32)), some (.int (1 : Int32)), some (.int s), some (.int ((0 : Int32) ||| ((1 : Int32) <<< ((b0 - (97 : Int32)) &&& 31)))), some (.int (1 : Int32))]) rfl rfl rfl rfl rfl ?_
                          refine LW_goto (tgt := 66) rfl rfl ?_
                          refine X_iload rfl rfl rfl ?_
                          refine X_iload_n rfl rfl rfl rfl ?_
                          refine X_icmp_ge (tgt := 112) rfl rfl rfl (fun _ => ?_) (fun q => absurd q (by decide))
                          refine X_aload_n rfl rfl rfl rfl ?_
                          refine X_getR (a := 3) rfl rfl rfl ((congrFun F.1 2).trans s_2) rfl ((congrFun (F.2.1 2 (by decide)) 2).trans r_2_2) ?_
                          refine X_aload_n rfl rfl rfl rfl ?_
                          refine X_getI (v := (0 : Int32)) rfl rfl rfl ((congrFun F.1 2).trans s_2) rfl ((congrFun (F.2.2 2 (by decide)).1 0).trans i_2_0) ?_
                          refine X_iload_n rfl rfl rfl rfl ?_
                          refine X_iast (k0 := 0) rfl rfl ((congrFun F.1 3).trans s_3) (vp_in_d rfl) rfl ?_
                          refine X_aload_n rfl rfl rfl rfl ?_
                          refine X_getR (a := 4) rfl rfl rfl ((congrFun F.1 2).trans s_2) rfl ((congrFun (F.2.1 2 (by decide)) 3).trans r_2_3) ?_
                          refine X_aload_n rfl rfl rfl rfl ?_
                          refine X_getI (v := (0 : Int32)) rfl rfl rfl ((congrFun F.1 2).trans s_2) rfl ((congrFun (F.2.2 2 (by decide)).1 0).trans i_2_0) ?_
                          refine X_iload rfl rfl rfl ?_
                          refine X_iast (k0 := 0) rfl rfl ((congrFun F.1 4).trans s_4) (vp_in_d rfl) rfl ?_
                          refine X_aload_n rfl rfl rfl rfl ?_
                          refine X_getR (a := 5) rfl rfl rfl ((congrFun F.1 2).trans s_2) rfl ((congrFun (F.2.1 2 (by decide)) 4).trans r_2_4) ?_
                          refine X_aload_n rfl rfl rfl rfl ?_
                          refine X_getI (v := (0 : Int32)) rfl rfl rfl ((congrFun F.1 2).trans s_2) rfl ((congrFun (F.2.2 2 (by decide)).1 0).trans i_2_0) ?_
                          refine X_iload rfl rfl rfl ?_
                          refine X_iast (k0 := 0) rfl rfl ((congrFun F.1 5).trans s_5) (vp_in_d rfl) rfl ?_
                          refine X_aload_n rfl rfl rfl rfl ?_
                          refine X_dup rfl rfl rfl ?_
                          refine X_getI (v := (0 : Int32)) rfl rfl rfl ((congrFun F.1 2).trans s_2) rfl ((congrFun (F.2.2 2 (by decide)).1 0).trans i_2_0) ?_
                          refine X_iconst (v := (1 : Int32)) rfl rfl rfl ?_
                          refine X_iadd (v := (1 : Int32)) rfl rfl rfl ?_
                          refine X_putI rfl rfl rfl ((congrFun F.1 2).trans s_2) rfl rfl rfl rfl ?_
                          refine X_aload_n rfl rfl rfl rfl ?_
                          refine X_getI (v := (1 : Int32)) rfl rfl rfl ((congrFun F.1 2).trans s_2) rfl rfl ?_
                          refine X_iconst (v := (1 : Int32)) rfl rfl rfl ?_
                          refine X_isub (v := (0 : Int32)) rfl rfl rfl ?_
                          refine LW_ireturn (st := []) rfl rfl rfl ?_
                          refine LW_ireturn (st := []) rfl rfl rfl ⟨congrArg (fun z => some (Value.int z)) ?_, (Fr_putI (Fr_putI (Fr_putI (Fr_putI (Fr_putI (Fr_putI E (by decide)) (by decide)) (by decide)) (by decide)) (by decide)) (by decide))⟩
                          simp only [Int32.lt_iff_toInt_lt, Int32.le_iff_toInt_le, ← Int32.toInt_inj, (show (0 : Int32).toInt = 0 from rfl), (show (9 : Int32).toInt = 9 from rfl), (show (97 : Int32).toInt = 97 from rfl), (show (122 : Int32).toInt = 122 from rfl)] at h1 h2 h3 h4 h54 h55 h56 h57 h58 h59 h60 h61
                          unfold f_wordB
                          rw [if_pos (by omega)]
      · refine X_iconst (v := (-1 : Int32)) rfl rfl rfl ?_
        refine LW_ireturn (st := []) rfl rfl rfl ⟨congrArg (fun z => some (Value.int z)) ?_, E⟩
        simp only [Int32.lt_iff_toInt_lt, Int32.le_iff_toInt_le, ← Int32.toInt_inj, (show (0 : Int32).toInt = 0 from rfl), (show (97 : Int32).toInt = 97 from rfl), (show (122 : Int32).toInt = 122 from rfl)] at h1 h2 h3
        unfold f_wordB
        rw [if_neg (by omega)]
  · refine X_iconst (v := (1 : Int32)) rfl rfl rfl ?_
    refine X_istore (i := 5) (ls' := [some (.ref 0), some (.int a), some (.int c), some (.int s), some (.int (0 : Int32)), some (.int (1 : Int32)), some (.int (0 : Int32)), some (.int b0)]) rfl rfl (Nat.le_of_ble_eq_true rfl) rfl ?_
    refine LW_goto (tgt := 88) rfl rfl ?_
    refine X_iinc (v := (1 : Int32)) (ls' := [some (.ref 0), some (.int a), some (.int c), some (.int s), some (.int (0 : Int32)), some (.int (1 : Int32)), some (.int (1 : Int32)), some (.int b0)]) rfl rfl rfl rfl rfl ?_
    refine LW_goto (tgt := 9) rfl rfl ?_
    refine X_iload rfl rfl rfl ?_
    refine X_bipush (v := (8 : Int32)) rfl rfl rfl ?_
    refine X_icmp_ge (tgt := 94) rfl rfl rfl (fun q => absurd q (by decide)) (fun _ => ?_)
    refine X_iload rfl rfl rfl ?_
    refine X_iconst (v := (4 : Int32)) rfl rfl rfl ?_
    refine X_icmp_ge (tgt := 26) rfl rfl rfl (fun q => absurd q (by decide)) (fun _ => ?_)
    refine X_iload_n rfl rfl rfl rfl ?_
    refine LW_goto (tgt := 27) rfl rfl ?_
    refine X_bipush (v := (8 : Int32)) rfl rfl rfl ?_
    refine X_iload rfl rfl rfl ?_
    refine X_iconst (v := (4 : Int32)) rfl rfl rfl ?_
    refine X_irem (v := (1 : Int32)) rfl rfl (by decide) rfl ?_
    refine X_imul (v := (8 : Int32)) rfl rfl rfl ?_
    refine X_iushr (v := ((a).toUInt32 >>> (((8 : Int32)).toUInt32 &&& Int32.toUInt32 31)).toInt32) rfl rfl rfl ?_
    refine X_sipush (v := (255 : Int32)) rfl rfl rfl ?_
    refine X_iand (v := b1) rfl rfl hb1 ?_
    refine X_istore (i := 7) (ls' := [some (.ref 0), some (.int a), some (.int c), some (.int s), some (.int (0 : Int32)), some (.int (1 : Int32)), some (.int (1 : Int32)), some (.int b1)]) rfl rfl (Nat.le_of_ble_eq_true rfl) rfl ?_
    refine X_iload rfl rfl rfl ?_
    refine X_if_ne (tgt := 52) rfl rfl rfl (fun h62 => ?_) (fun h62 => ?_)
    · refine X_iload rfl rfl rfl ?_
      refine X_if_ne (tgt := 71) rfl rfl rfl (fun _ => ?_) (fun q => absurd q (by decide))
      refine X_iconst (v := (-1 : Int32)) rfl rfl rfl ?_
      refine LW_ireturn (st := []) rfl rfl rfl ⟨congrArg (fun z => some (Value.int z)) ?_, E⟩
      simp only [Int32.lt_iff_toInt_lt, Int32.le_iff_toInt_le, ← Int32.toInt_inj, (show (0 : Int32).toInt = 0 from rfl)] at h1 h62
      unfold f_wordB
      rw [if_neg (by omega)]
    · refine X_iconst (v := (1 : Int32)) rfl rfl rfl ?_
      refine X_istore (i := 5) (ls' := [some (.ref 0), some (.int a), some (.int c), some (.int s), some (.int (0 : Int32)), some (.int (1 : Int32)), some (.int (1 : Int32)), some (.int b1)]) rfl rfl (Nat.le_of_ble_eq_true rfl) rfl ?_
      refine LW_goto (tgt := 88) rfl rfl ?_
      refine X_iinc (v := (2 : Int32)) (ls' := [some (.ref 0), some (.int a), some (.int c), some (.int s), some (.int (0 : Int32)), some (.int (1 : Int32)), some (.int (2 : Int32)), some (.int b1)]) rfl rfl rfl rfl rfl ?_
      refine LW_goto (tgt := 9) rfl rfl ?_
      refine X_iload rfl rfl rfl ?_
      refine X_bipush (v := (8 : Int32)) rfl rfl rfl ?_
      refine X_icmp_ge (tgt := 94) rfl rfl rfl (fun q => absurd q (by decide)) (fun _ => ?_)
      refine X_iload rfl rfl rfl ?_
      refine X_iconst (v := (4 : Int32)) rfl rfl rfl ?_
      refine X_icmp_ge (tgt := 26) rfl rfl rfl (fun q => absurd q (by decide)) (fun _ => ?_)
      refine X_iload_n rfl rfl rfl rfl ?_
      refine LW_goto (tgt := 27) rfl rfl ?_
      refine X_bipush (v := (8 : Int32)) rfl rfl rfl ?_
      refine X_iload rfl rfl rfl ?_
      refine X_iconst (v := (4 : Int32)) rfl rfl rfl ?_
      refine X_irem (v := (2 : Int32)) rfl rfl (by decide) rfl ?_
      refine X_imul (v := (16 : Int32)) rfl rfl rfl ?_
      refine X_iushr (v := ((a).toUInt32 >>> (((16 : Int32)).toUInt32 &&& Int32.toUInt32 31)).toInt32) rfl rfl rfl ?_
      refine X_sipush (v := (255 : Int32)) rfl rfl rfl ?_
      refine X_iand (v := b2) rfl rfl hb2 ?_
      refine X_istore (i := 7) (ls' := [some (.ref 0), some (.int a), some (.int c), some (.int s), some (.int (0 : Int32)), some (.int (1 : Int32)), some (.int (2 : Int32)), some (.int b2)]) rfl rfl (Nat.le_of_ble_eq_true rfl) rfl ?_
      refine X_iload rfl rfl rfl ?_
      refine X_if_ne (tgt := 52) rfl rfl rfl (fun h63 => ?_) (fun h63 => ?_)
      · refine X_iload rfl rfl rfl ?_
        refine X_if_ne (tgt := 71) rfl rfl rfl (fun _ => ?_) (fun q => absurd q (by decide))
        refine X_iconst (v := (-1 : Int32)) rfl rfl rfl ?_
        refine LW_ireturn (st := []) rfl rfl rfl ⟨congrArg (fun z => some (Value.int z)) ?_, E⟩
        simp only [Int32.lt_iff_toInt_lt, Int32.le_iff_toInt_le, ← Int32.toInt_inj, (show (0 : Int32).toInt = 0 from rfl)] at h1 h62 h63
        unfold f_wordB
        rw [if_neg (by omega)]
      · refine X_iconst (v := (1 : Int32)) rfl rfl rfl ?_
        refine X_istore (i := 5) (ls' := [some (.ref 0), some (.int a), some (.int c), some (.int s), some (.int (0 : Int32)), some (.int (1 : Int32)), some (.int (2 : Int32)), some (.int b2)]) rfl rfl (Nat.le_of_ble_eq_true rfl) rfl ?_
        refine LW_goto (tgt := 88) rfl rfl ?_
        refine X_iinc (v := (3 : Int32)) (ls' := [some (.ref 0), some (.int a), some (.int c), some (.int s), some (.int (0 : Int32)), some (.int (1 : Int32)), some (.int (3 : Int32)), some (.int b2)]) rfl rfl rfl rfl rfl ?_
        refine LW_goto (tgt := 9) rfl rfl ?_
        refine X_iload rfl rfl rfl ?_
        refine X_bipush (v := (8 : Int32)) rfl rfl rfl ?_
        refine X_icmp_ge (tgt := 94) rfl rfl rfl (fun q => absurd q (by decide)) (fun _ => ?_)
        refine X_iload rfl rfl rfl ?_
        refine X_iconst (v := (4 : Int32)) rfl rfl rfl ?_
        refine X_icmp_ge (tgt := 26) rfl rfl rfl (fun q => absurd q (by decide)) (fun _ => ?_)
        refine X_iload_n rfl rfl rfl rfl ?_
        refine LW_goto (tgt := 27) rfl rfl ?_
        refine X_bipush (v := (8 : Int32)) rfl rfl rfl ?_
        refine X_iload rfl rfl rfl ?_
        refine X_iconst (v := (4 : Int32)) rfl rfl rfl ?_
        refine X_irem (v := (3 : Int32)) rfl rfl (by decide) rfl ?_
        refine X_imul (v := (24 : Int32)) rfl rfl rfl ?_
        refine X_iushr (v := ((a).toUInt32 >>> (((24 : Int32)).toUInt32 &&& Int32.toUInt32 31)).toInt32) rfl rfl rfl ?_
        refine X_sipush (v := (255 : Int32)) rfl rfl rfl ?_
        refine X_iand (v := b3) rfl rfl hb3 ?_
        refine X_istore (i := 7) (ls' := [some (.ref 0), some (.int a), some (.int c), some (.int s), some (.int (0 : Int32)), some (.int (1 : Int32)), some (.int (3 : Int32)), some (.int b3)]) rfl rfl (Nat.le_of_ble_eq_true rfl) rfl ?_
        refine X_iload rfl rfl rfl ?_
        refine X_if_ne (tgt := 52) rfl rfl rfl (fun h64 => ?_) (fun h64 => ?_)
        · refine X_iload rfl rfl rfl ?_
          refine X_if_ne (tgt := 71) rfl rfl rfl (fun _ => ?_) (fun q => absurd q (by decide))
          refine X_iconst (v := (-1 : Int32)) rfl rfl rfl ?_
          refine LW_ireturn (st := []) rfl rfl rfl ⟨congrArg (fun z => some (Value.int z)) ?_, E⟩
          simp only [Int32.lt_iff_toInt_lt, Int32.le_iff_toInt_le, ← Int32.toInt_inj, (show (0 : Int32).toInt = 0 from rfl)] at h1 h62 h63 h64
          unfold f_wordB
          rw [if_neg (by omega)]
        · refine X_iconst (v := (1 : Int32)) rfl rfl rfl ?_
          refine X_istore (i := 5) (ls' := [some (.ref 0), some (.int a), some (.int c), some (.int s), some (.int (0 : Int32)), some (.int (1 : Int32)), some (.int (3 : Int32)), some (.int b3)]) rfl rfl (Nat.le_of_ble_eq_true rfl) rfl ?_
          refine LW_goto (tgt := 88) rfl rfl ?_
          refine X_iinc (v := (4 : Int32)) (ls' := [some (.ref 0), some (.int a), some (.int c), some (.int s), some (.int (0 : Int32)), some (.int (1 : Int32)), some (.int (4 : Int32)), some (.int b3)]) rfl rfl rfl rfl rfl ?_
          refine LW_goto (tgt := 9) rfl rfl ?_
          refine X_iload rfl rfl rfl ?_
          refine X_bipush (v := (8 : Int32)) rfl rfl rfl ?_
          refine X_icmp_ge (tgt := 94) rfl rfl rfl (fun q => absurd q (by decide)) (fun _ => ?_)
          refine X_iload rfl rfl rfl ?_
          refine X_iconst (v := (4 : Int32)) rfl rfl rfl ?_
          refine X_icmp_ge (tgt := 26) rfl rfl rfl (fun _ => ?_) (fun q => absurd q (by decide))
          refine X_iload_n rfl rfl rfl rfl ?_
          refine X_bipush (v := (8 : Int32)) rfl rfl rfl ?_
          refine X_iload rfl rfl rfl ?_
          refine X_iconst (v := (4 : Int32)) rfl rfl rfl ?_
          refine X_irem (v := (0 : Int32)) rfl rfl (by decide) rfl ?_
          refine X_imul (v := (0 : Int32)) rfl rfl rfl ?_
          refine X_iushr (v := ((c).toUInt32 >>> (((0 : Int32)).toUInt32 &&& Int32.toUInt32 31)).toInt32) rfl rfl rfl ?_
          refine X_sipush (v := (255 : Int32)) rfl rfl rfl ?_
          refine X_iand (v := b4) rfl rfl hb4 ?_
          refine X_istore (i := 7) (ls' := [some (.ref 0), some (.int a), some (.int c), some (.int s), some (.int (0 : Int32)), some (.int (1 : Int32)), some (.int (4 : Int32)), some (.int b4)]) rfl rfl (Nat.le_of_ble_eq_true rfl) rfl ?_
          refine X_iload rfl rfl rfl ?_
          refine X_if_ne (tgt := 52) rfl rfl rfl (fun h65 => ?_) (fun h65 => ?_)
          · refine X_iload rfl rfl rfl ?_
            refine X_if_ne (tgt := 71) rfl rfl rfl (fun _ => ?_) (fun q => absurd q (by decide))
            refine X_iconst (v := (-1 : Int32)) rfl rfl rfl ?_
            refine LW_ireturn (st := []) rfl rfl rfl ⟨congrArg (fun z => some (Value.int z)) ?_, E⟩
            simp only [Int32.lt_iff_toInt_lt, Int32.le_iff_toInt_le, ← Int32.toInt_inj, (show (0 : Int32).toInt = 0 from rfl)] at h1 h62 h63 h64 h65
            unfold f_wordB
            rw [if_neg (by omega)]
          · refine X_iconst (v := (1 : Int32)) rfl rfl rfl ?_
            refine X_istore (i := 5) (ls' := [some (.ref 0), some (.int a), some (.int c), some (.int s), some (.int (0 : Int32)), some (.int (1 : Int32)), some (.int (4 : Int32)), some (.int b4)]) rfl rfl (Nat.le_of_ble_eq_true rfl) rfl ?_
            refine LW_goto (tgt := 88) rfl rfl ?_
            refine X_iinc (v := (5 : Int32)) (ls' := [some (.ref 0), some (.int a), some (.int c), some (.int s), some (.int (0 : Int32)), some (.int (1 : Int32)), some (.int (5 : Int32)), some (.int b4)]) rfl rfl rfl rfl rfl ?_
            refine LW_goto (tgt := 9) rfl rfl ?_
            refine X_iload rfl rfl rfl ?_
            refine X_bipush (v := (8 : Int32)) rfl rfl rfl ?_
            refine X_icmp_ge (tgt := 94) rfl rfl rfl (fun q => absurd q (by decide)) (fun _ => ?_)
            refine X_iload rfl rfl rfl ?_
            refine X_iconst (v := (4 : Int32)) rfl rfl rfl ?_
            refine X_icmp_ge (tgt := 26) rfl rfl rfl (fun _ => ?_) (fun q => absurd q (by decide))
            refine X_iload_n rfl rfl rfl rfl ?_
            refine X_bipush (v := (8 : Int32)) rfl rfl rfl ?_
            refine X_iload rfl rfl rfl ?_
            refine X_iconst (v := (4 : Int32)) rfl rfl rfl ?_
            refine X_irem (v := (1 : Int32)) rfl rfl (by decide) rfl ?_
            refine X_imul (v := (8 : Int32)) rfl rfl rfl ?_
            refine X_iushr (v := ((c).toUInt32 >>> (((8 : Int32)).toUInt32 &&& Int32.toUInt32 31)).toInt32) rfl rfl rfl ?_
            refine X_sipush (v := (255 : Int32)) rfl rfl rfl ?_
            refine X_iand (v := b5) rfl rfl hb5 ?_
            refine X_istore (i := 7) (ls' := [some (.ref 0), some (.int a), some (.int c), some (.int s), some (.int (0 : Int32)), some (.int (1 : Int32)), some (.int (5 : Int32)), some (.int b5)]) rfl rfl (Nat.le_of_ble_eq_true rfl) rfl ?_
            refine X_iload rfl rfl rfl ?_
            refine X_if_ne (tgt := 52) rfl rfl rfl (fun h66 => ?_) (fun h66 => ?_)
            · refine X_iload rfl rfl rfl ?_
              refine X_if_ne (tgt := 71) rfl rfl rfl (fun _ => ?_) (fun q => absurd q (by decide))
              refine X_iconst (v := (-1 : Int32)) rfl rfl rfl ?_
              refine LW_ireturn (st := []) rfl rfl rfl ⟨congrArg (fun z => some (Value.int z)) ?_, E⟩
              simp only [Int32.lt_iff_toInt_lt, Int32.le_iff_toInt_le, ← Int32.toInt_inj, (show (0 : Int32).toInt = 0 from rfl)] at h1 h62 h63 h64 h65 h66
              unfold f_wordB
              rw [if_neg (by omega)]
            · refine X_iconst (v := (1 : Int32)) rfl rfl rfl ?_
              refine X_istore (i := 5) (ls' := [some (.ref 0), some (.int a), some (.int c), some (.int s), some (.int (0 : Int32)), some (.int (1 : Int32)), some (.int (5 : Int32)), some (.int b5)]) rfl rfl (Nat.le_of_ble_eq_true rfl) rfl ?_
              refine LW_goto (tgt := 88) rfl rfl ?_
              refine X_iinc (v := (6 : Int32)) (ls' := [some (.ref 0), some (.int a), some (.int c), some (.int s), some (.int (0 : Int32)), some (.int (1 : Int32)), some (.int (6 : Int32)), some (.int b5)]) rfl rfl rfl rfl rfl ?_
              refine LW_goto (tgt := 9) rfl rfl ?_
              refine X_iload rfl rfl rfl ?_
              refine X_bipush (v := (8 : Int32)) rfl rfl rfl ?_
              refine X_icmp_ge (tgt := 94) rfl rfl rfl (fun q => absurd q (by decide)) (fun _ => ?_)
              refine X_iload rfl rfl rfl ?_
              refine X_iconst (v := (4 : Int32)) rfl rfl rfl ?_
              refine X_icmp_ge (tgt := 26) rfl rfl rfl (fun _ => ?_) (fun q => absurd q (by decide))
              refine X_iload_n rfl rfl rfl rfl ?_
              refine X_bipush (v := (8 : Int32)) rfl rfl rfl ?_
              refine X_iload rfl rfl rfl ?_
              refine X_iconst (v := (4 : Int32)) rfl rfl rfl ?_
              refine X_irem (v := (2 : Int32)) rfl rfl (by decide) rfl ?_
              refine X_imul (v := (16 : Int32)) rfl rfl rfl ?_
              refine X_iushr (v := ((c).toUInt32 >>> (((16 : Int32)).toUInt32 &&& Int32.toUInt32 31)).toInt32) rfl rfl rfl ?_
              refine X_sipush (v := (255 : Int32)) rfl rfl rfl ?_
              refine X_iand (v := b6) rfl rfl hb6 ?_
              refine X_istore (i := 7) (ls' := [some (.ref 0), some (.int a), some (.int c), some (.int s), some (.int (0 : Int32)), some (.int (1 : Int32)), some (.int (6 : Int32)), some (.int b6)]) rfl rfl (Nat.le_of_ble_eq_true rfl) rfl ?_
              refine X_iload rfl rfl rfl ?_
              refine X_if_ne (tgt := 52) rfl rfl rfl (fun h67 => ?_) (fun h67 => ?_)
              · refine X_iload rfl rfl rfl ?_
                refine X_if_ne (tgt := 71) rfl rfl rfl (fun _ => ?_) (fun q => absurd q (by decide))
                refine X_iconst (v := (-1 : Int32)) rfl rfl rfl ?_
                refine LW_ireturn (st := []) rfl rfl rfl ⟨congrArg (fun z => some (Value.int z)) ?_, E⟩
                simp only [Int32.lt_iff_toInt_lt, Int32.le_iff_toInt_le, ← Int32.toInt_inj, (show (0 : Int32).toInt = 0 from rfl)] at h1 h62 h63 h64 h65 h66 h67
                unfold f_wordB
                rw [if_neg (by omega)]
              · refine X_iconst (v := (1 : Int32)) rfl rfl rfl ?_
                refine X_istore (i := 5) (ls' := [some (.ref 0), some (.int a), some (.int c), some (.int s), some (.int (0 : Int32)), some (.int (1 : Int32)), some (.int (6 : Int32)), some (.int b6)]) rfl rfl (Nat.le_of_ble_eq_true rfl) rfl ?_
                refine LW_goto (tgt := 88) rfl rfl ?_
                refine X_iinc (v := (7 : Int32)) (ls' := [some (.ref 0), some (.int a), some (.int c), some (.int s), some (.int (0 : Int32)), some (.int (1 : Int32)), some (.int (7 : Int32)), some (.int b6)]) rfl rfl rfl rfl rfl ?_
                refine LW_goto (tgt := 9) rfl rfl ?_
                refine X_iload rfl rfl rfl ?_
                refine X_bipush (v := (8 : Int32)) rfl rfl rfl ?_
                refine X_icmp_ge (tgt := 94) rfl rfl rfl (fun q => absurd q (by decide)) (fun _ => ?_)
                refine X_iload rfl rfl rfl ?_
                refine X_iconst (v := (4 : Int32)) rfl rfl rfl ?_
                refine X_icmp_ge (tgt := 26) rfl rfl rfl (fun _ => ?_) (fun q => absurd q (by decide))
                refine X_iload_n rfl rfl rfl rfl ?_
                refine X_bipush (v := (8 : Int32)) rfl rfl rfl ?_
                refine X_iload rfl rfl rfl ?_
                refine X_iconst (v := (4 : Int32)) rfl rfl rfl ?_
                refine X_irem (v := (3 : Int32)) rfl rfl (by decide) rfl ?_
                refine X_imul (v := (24 : Int32)) rfl rfl rfl ?_
                refine X_iushr (v := ((c).toUInt32 >>> (((24 : Int32)).toUInt32 &&& Int32.toUInt32 31)).toInt32) rfl rfl rfl ?_
                refine X_sipush (v := (255 : Int32)) rfl rfl rfl ?_
                refine X_iand (v := b7) rfl rfl hb7 ?_
                refine X_istore (i := 7) (ls' := [some (.ref 0), some (.int a), some (.int c), some (.int s), some (.int (0 : Int32)), some (.int (1 : Int32)), some (.int (7 : Int32)), some (.int b7)]) rfl rfl (Nat.le_of_ble_eq_true rfl) rfl ?_
                refine X_iload rfl rfl rfl ?_
                refine X_if_ne (tgt := 52) rfl rfl rfl (fun h68 => ?_) (fun h68 => ?_)
                · refine X_iload rfl rfl rfl ?_
                  refine X_if_ne (tgt := 71) rfl rfl rfl (fun _ => ?_) (fun q => absurd q (by decide))
                  refine X_iconst (v := (-1 : Int32)) rfl rfl rfl ?_
                  refine LW_ireturn (st := []) rfl rfl rfl ⟨congrArg (fun z => some (Value.int z)) ?_, E⟩
                  simp only [Int32.lt_iff_toInt_lt, Int32.le_iff_toInt_le, ← Int32.toInt_inj, (show (0 : Int32).toInt = 0 from rfl)] at h1 h62 h63 h64 h65 h66 h67 h68
                  unfold f_wordB
                  rw [if_neg (by omega)]
                · refine X_iconst (v := (1 : Int32)) rfl rfl rfl ?_
                  refine X_istore (i := 5) (ls' := [some (.ref 0), some (.int a), some (.int c), some (.int s), some (.int (0 : Int32)), some (.int (1 : Int32)), some (.int (7 : Int32)), some (.int b7)]) rfl rfl (Nat.le_of_ble_eq_true rfl) rfl ?_
                  refine LW_goto (tgt := 88) rfl rfl ?_
                  refine X_iinc (v := (8 : Int32)) (ls' := [some (.ref 0), some (.int a), some (.int c), some (.int s), some (.int (0 : Int32)), some (.int (1 : Int32)), some (.int (8 : Int32)), some (.int b7)]) rfl rfl rfl rfl rfl ?_
                  refine LW_goto (tgt := 9) rfl rfl ?_
                  refine X_iload rfl rfl rfl ?_
                  refine X_bipush (v := (8 : Int32)) rfl rfl rfl ?_
                  refine X_icmp_ge (tgt := 94) rfl rfl rfl (fun _ => ?_) (fun q => absurd q (by decide))
                  refine X_aload_n rfl rfl rfl rfl ?_
                  refine X_getR (a := 1) rfl rfl rfl ((congrFun F.1 0).trans s_0) rfl ((congrFun (F.2.1 0 (by decide)) 0).trans r_0_0) ?_
                  refine X_getR (a := 2) rfl rfl rfl ((congrFun F.1 1).trans s_1) rfl ((congrFun (F.2.1 1 (by decide)) 0).trans r_1_0) ?_
                  refine X_aload_n rfl rfl rfl rfl ?_
                  refine X_getR (a := 354) rfl rfl rfl ((congrFun F.1 0).trans s_0) rfl ((congrFun (F.2.1 0 (by decide)) 9).trans r_0_9) ?_
                  refine X_iconst (v := (0 : Int32)) rfl rfl rfl ?_
                  refine X_iload rfl rfl rfl ?_
                  refine X_iload_n rfl rfl rfl rfl ?_
                  refine X_callV (as := [.ref 354, .int (0 : Int32), .int (0 : Int32), .int s]) (st := []) rfl rfl rfl (by decide) rfl (Nat.le_of_ble_eq_true rfl) (by decide) (Nat.le_of_ble_eq_true rfl) rfl ((congrFun F.1 2).trans s_2) (by decide) ?_
                  refine LW_ls (ls' := [some (.ref 2), some (.ref 354), some (.int (0 : Int32)), some (.int (0 : Int32)), some (.int s), none, none]) rfl ?_
                  refine X_iload_n rfl rfl rfl rfl ?_
                  refine X_iconst (v := (1 : Int32)) rfl rfl rfl ?_
                  refine X_icmp_lt (tgt := 23) rfl rfl rfl (fun _ => ?_) (fun q => absurd q (by decide))
                  refine X_iconst (v := (-1 : Int32)) rfl rfl rfl ?_
                  refine LW_ireturn (st := []) rfl rfl rfl ?_
                  refine LW_ireturn (st := []) rfl rfl rfl ⟨congrArg (fun z => some (Value.int z)) ?_, E⟩
                  simp only [Int32.lt_iff_toInt_lt, Int32.le_iff_toInt_le, ← Int32.toInt_inj, (show (0 : Int32).toInt = 0 from rfl)] at h1 h62 h63 h64 h65 h66 h67 h68
                  unfold f_wordB
                  rw [if_neg (by omega)]
set_option maxRecDepth 10000 in
set_option maxHeartbeats 40000000 in
theorem r_word {g : LH} (F : Fr g) (a c s b0 b1 b2 b3 b4 b5 b6 b7 : Int32) (hb0 : ((a >>> ((0 : Int32) &&& 31)) &&& (255 : Int32)) = b0) (hb1 : ((a >>> ((8 : Int32) &&& 31)) &&& (255 : Int32)) = b1) (hb2 : ((a >>> ((16 : Int32) &&& 31)) &&& (255 : Int32)) = b2) (hb3 : ((a >>> ((24 : Int32) &&& 31)) &&& (255 : Int32)) = b3) (hb4 : ((c >>> ((0 : Int32) &&& 31)) &&& (255 : Int32)) = b4) (hb5 : ((c >>> ((8 : Int32) &&& 31)) &&& (255 : Int32)) = b5) (hb6 : ((c >>> ((16 : Int32) &&& 31)) &&& (255 : Int32)) = b6) (hb7 : ((c >>> ((24 : Int32) &&& 31)) &&& (255 : Int32)) = b7) : LW 189 30 0 0 0 (lEnt (mL 189) [.ref 355, .int a, .int c, .int s]) [] g (fun v _ => v = some (.int (f_wordB b0 b1 b2 b3 b4 b5 b6 b7 s))) := by
  refine LW_ls (ls' := [some (.ref 355), some (.int a), some (.int c), some (.int s)]) rfl ?_
  refine X_aload_n rfl rfl rfl rfl ?_
  refine X_iconst (v := (0 : Int32)) rfl rfl rfl ?_
  refine X_putI rfl rfl rfl ((congrFun F.1 355).trans s_355) rfl rfl rfl rfl ?_
  refine X_iload_n rfl rfl rfl rfl ?_
  refine X_iconst (v := (0 : Int32)) rfl rfl rfl ?_
  refine X_bipush (v := (9 : Int32)) rfl rfl rfl ?_
  refine X_callS (as := [.int s, .int (0 : Int32), .int (9 : Int32)]) (st := []) rfl rfl rfl (by decide) rfl (Nat.le_of_ble_eq_true rfl) (by decide) (Nat.le_of_ble_eq_true rfl) rfl ?_
  refine LW_ls (ls' := [some (.int s), some (.int (0 : Int32)), some (.int (9 : Int32))]) rfl ?_
  refine X_iload_n rfl rfl rfl rfl ?_
  refine X_iload_n rfl rfl rfl rfl ?_
  refine X_icmp_lt (tgt := 14) rfl rfl rfl (fun h1 => ?_) (fun h1 => ?_)
  · refine X_iconst (v := (0 : Int32)) rfl rfl rfl ?_
    refine LW_ireturn (st := []) rfl rfl rfl ?_
    refine X_if_eq (tgt := 33) rfl rfl rfl (fun _ => ?_) (fun q => absurd q (by decide))
    refine X_iconst (v := (-1 : Int32)) rfl rfl rfl ?_
    refine LW_ireturn (st := []) rfl rfl rfl (congrArg (fun z => some (Value.int z)) ?_)
    simp only [Int32.lt_iff_toInt_lt, Int32.le_iff_toInt_le, ← Int32.toInt_inj, (show (0 : Int32).toInt = 0 from rfl)] at h1
    unfold f_wordB
    rw [if_neg (by omega)]
  · refine X_iload_n rfl rfl rfl rfl ?_
    refine X_iload_n rfl rfl rfl rfl ?_
    refine X_icmp_gt (tgt := 14) rfl rfl rfl (fun h2 => ?_) (fun h2 => ?_)
    · refine X_iconst (v := (0 : Int32)) rfl rfl rfl ?_
      refine LW_ireturn (st := []) rfl rfl rfl ?_
      refine X_if_eq (tgt := 33) rfl rfl rfl (fun _ => ?_) (fun q => absurd q (by decide))
      refine X_iconst (v := (-1 : Int32)) rfl rfl rfl ?_
      refine LW_ireturn (st := []) rfl rfl rfl (congrArg (fun z => some (Value.int z)) ?_)
      simp only [Int32.lt_iff_toInt_lt, Int32.le_iff_toInt_le, ← Int32.toInt_inj, (show (0 : Int32).toInt = 0 from rfl), (show (9 : Int32).toInt = 9 from rfl)] at h1 h2
      unfold f_wordB
      rw [if_neg (by omega)]
    · refine X_iconst (v := (1 : Int32)) rfl rfl rfl ?_
      refine LW_goto (tgt := 15) rfl rfl ?_
      refine LW_ireturn (st := []) rfl rfl rfl ?_
      refine X_if_eq (tgt := 33) rfl rfl rfl (fun q => absurd q (by decide)) (fun _ => ?_)
      refine X_aload_n rfl rfl rfl rfl ?_
      refine X_iload_n rfl rfl rfl rfl ?_
      refine X_iconst (v := (0 : Int32)) rfl rfl rfl ?_
      refine X_callV (as := [.int a, .int (0 : Int32)]) (st := []) rfl rfl rfl (by decide) rfl (Nat.le_of_ble_eq_true rfl) (by decide) (Nat.le_of_ble_eq_true rfl) rfl ((congrFun F.1 355).trans s_355) (by decide) ?_
      refine LW_ls (ls' := [some (.ref 355), some (.int a), some (.int (0 : Int32)), none, none]) rfl ?_
      refine X_iconst (v := (0 : Int32)) rfl rfl rfl ?_
      refine X_istore_n (i := 3) (ls' := [some (.ref 355), some (.int a), some (.int (0 : Int32)), some (.int (0 : Int32)), none]) rfl rfl rfl (Nat.le_of_ble_eq_true rfl) rfl ?_
      refine X_iload_n rfl rfl rfl rfl ?_
      refine X_iconst (v := (4 : Int32)) rfl rfl rfl ?_
      refine X_icmp_ge (tgt := 91) rfl rfl rfl (fun q => absurd q (by decide)) (fun _ => ?_)
      refine X_iload_n rfl rfl rfl rfl ?_
      refine X_bipush (v := (8 : Int32)) rfl rfl rfl ?_
      refine X_iload_n rfl rfl rfl rfl ?_
      refine X_imul (v := (0 : Int32)) rfl rfl rfl ?_
      refine X_ishr (v := (a >>> ((0 : Int32) &&& 31))) rfl rfl rfl ?_
      refine X_sipush (v := (255 : Int32)) rfl rfl rfl ?_
      refine X_iand (v := b0) rfl rfl hb0 ?_
      refine X_istore (i := 4) (ls' := [some (.ref 355), some (.int a), some (.int (0 : Int32)), some (.int (0 : Int32)), some (.int b0)]) rfl rfl (Nat.le_of_ble_eq_true rfl) rfl ?_
      refine X_iload rfl rfl rfl ?_
      refine X_if_ne (tgt := 37) rfl rfl rfl (fun h3 => ?_) (fun h3 => ?_)
      · refine X_iload rfl rfl rfl ?_
        refine X_bipush (v := (97 : Int32)) rfl rfl rfl ?_
        refine X_bipush (v := (122 : Int32)) rfl rfl rfl ?_
        refine X_callS (as := [.int b0, .int (97 : Int32), .int (122 : Int32)]) (st := []) rfl rfl rfl (by decide) rfl (Nat.le_of_ble_eq_true rfl) (by decide) (Nat.le_of_ble_eq_true rfl) rfl ?_
        refine LW_ls (ls' := [some (.int b0), some (.int (97 : Int32)), some (.int (122 : Int32))]) rfl ?_
        refine X_iload_n rfl rfl rfl rfl ?_
        refine X_iload_n rfl rfl rfl rfl ?_
        refine X_icmp_lt (tgt := 14) rfl rfl rfl (fun h4 => ?_) (fun h4 => ?_)
        · refine X_iconst (v := (0 : Int32)) rfl rfl rfl ?_
          refine LW_ireturn (st := []) rfl rfl rfl ?_
          refine X_if_eq (tgt := 59) rfl rfl rfl (fun _ => ?_) (fun q => absurd q (by decide))
          refine X_iconst (v := (0 : Int32)) rfl rfl rfl ?_
          refine LW_ireturn (st := []) rfl rfl rfl ?_
          refine X_if_eq (tgt := 33) rfl rfl rfl (fun _ => ?_) (fun q => absurd q (by decide))
          refine X_iconst (v := (-1 : Int32)) rfl rfl rfl ?_
          refine LW_ireturn (st := []) rfl rfl rfl (congrArg (fun z => some (Value.int z)) ?_)
          simp only [Int32.lt_iff_toInt_lt, Int32.le_iff_toInt_le, ← Int32.toInt_inj, (show (0 : Int32).toInt = 0 from rfl), (show (9 : Int32).toInt = 9 from rfl), (show (97 : Int32).toInt = 97 from rfl)] at h1 h2 h3 h4
          unfold f_wordB
          rw [if_neg (by omega)]
        · refine X_iload_n rfl rfl rfl rfl ?_
          refine X_iload_n rfl rfl rfl rfl ?_
          refine X_icmp_gt (tgt := 14) rfl rfl rfl (fun h5 => ?_) (fun h5 => ?_)
          · refine X_iconst (v := (0 : Int32)) rfl rfl rfl ?_
            refine LW_ireturn (st := []) rfl rfl rfl ?_
            refine X_if_eq (tgt := 59) rfl rfl rfl (fun _ => ?_) (fun q => absurd q (by decide))
            refine X_iconst (v := (0 : Int32)) rfl rfl rfl ?_
            refine LW_ireturn (st := []) rfl rfl rfl ?_
            refine X_if_eq (tgt := 33) rfl rfl rfl (fun _ => ?_) (fun q => absurd q (by decide))
            refine X_iconst (v := (-1 : Int32)) rfl rfl rfl ?_
            refine LW_ireturn (st := []) rfl rfl rfl (congrArg (fun z => some (Value.int z)) ?_)
            simp only [Int32.lt_iff_toInt_lt, Int32.le_iff_toInt_le, ← Int32.toInt_inj, (show (0 : Int32).toInt = 0 from rfl), (show (9 : Int32).toInt = 9 from rfl), (show (97 : Int32).toInt = 97 from rfl), (show (122 : Int32).toInt = 122 from rfl)] at h1 h2 h3 h4 h5
            unfold f_wordB
            rw [if_neg (by omega)]
          · refine X_iconst (v := (1 : Int32)) rfl rfl rfl ?_
            refine LW_goto (tgt := 15) rfl rfl ?_
            refine LW_ireturn (st := []) rfl rfl rfl ?_
            refine X_if_eq (tgt := 59) rfl rfl rfl (fun q => absurd q (by decide)) (fun _ => ?_)
            refine X_aload_n rfl rfl rfl rfl ?_
            refine X_getI (v := (0 : Int32)) rfl rfl rfl ((congrFun F.1 355).trans s_355) rfl rfl ?_
            refine X_iload_n rfl rfl rfl rfl ?_
            refine X_iload_n rfl rfl rfl rfl ?_
            refine X_iadd (v := (0 : Int32)) rfl rfl rfl ?_
            refine X_icmp_ge (tgt := 61) rfl rfl rfl (fun _ => ?_) (fun q => absurd q (by decide))
            refine X_aload_n rfl rfl rfl rfl ?_
            refine X_getR (a := 359) rfl rfl rfl ((congrFun F.1 355).trans s_355) rfl ((congrFun (F.2.1 355 (by decide)) 3).trans r_355_3) ?_
            refine X_aload_n rfl rfl rfl rfl ?_
            refine X_getI (v := (0 : Int32)) rfl rfl rfl ((congrFun F.1 355).trans s_355) rfl rfl ?_
            refine X_iload rfl rfl rfl ?_
            refine X_bipush (v := (97 : Int32)) rfl rfl rfl ?_
            refine X_isub (v := (b0 - (97 : Int32))) rfl rfl rfl ?_
            refine X_iast (k0 := 0) rfl rfl ((congrFun F.1 359).trans s_359) (vp_in_d rfl) rfl ?_
            refine X_aload_n rfl rfl rfl rfl ?_
            refine X_dup rfl rfl rfl ?_
            refine X_getI (v := (0 : Int32)) rfl rfl rfl ((congrFun F.1 355).trans s_355) rfl rfl ?_
            refine X_iconst (v := (1 : Int32)) rfl rfl rfl ?_
            refine X_iadd (v := (1 : Int32)) rfl rfl rfl ?_
            refine X_putI rfl rfl rfl ((congrFun F.1 355).trans s_355) rfl rfl rfl rfl ?_
            refine X_iinc (v := (1 : Int32)) (ls' := [some (.ref 355), some (.int a), some (.int (0 : Int32)), some (.int (1 : Int32)), some (.int b0)]) rfl rfl rfl rfl rfl ?_
            refine LW_goto (tgt := 2) rfl rfl ?_
            refine X_iload_n rfl rfl rfl rfl ?_
            refine X_iconst (v := (4 : Int32)) rfl rfl rfl ?_
            refine X_icmp_ge (tgt := 91) rfl rfl rfl (fun q => absurd q (by decide)) (fun _ => ?_)
            refine X_iload_n rfl rfl rfl rfl ?_
            refine X_bipush (v := (8 : Int32)) rfl rfl rfl ?_
            refine X_iload_n rfl rfl rfl rfl ?_
            refine X_imul (v := (8 : Int32)) rfl rfl rfl ?_
            refine X_ishr (v := (a >>> ((8 : Int32) &&& 31))) rfl rfl rfl ?_
            refine X_sipush (v := (255 : Int32)) rfl rfl rfl ?_
            refine X_iand (v := b1) rfl rfl hb1 ?_
            refine X_istore (i := 4) (ls' := [some (.ref 355), some (.int a), some (.int (0 : Int32)), some (.int (1 : Int32)), some (.int b1)]) rfl rfl (Nat.le_of_ble_eq_true rfl) rfl ?_
            refine X_iload rfl rfl rfl ?_
            refine X_if_ne (tgt := 37) rfl rfl rfl (fun h6 => ?_) (fun h6 => ?_)
            · refine X_iload rfl rfl rfl ?_
              refine X_bipush (v := (97 : Int32)) rfl rfl rfl ?_
              refine X_bipush (v := (122 : Int32)) rfl rfl rfl ?_
              refine X_callS (as := [.int b1, .int (97 : Int32), .int (122 : Int32)]) (st := []) rfl rfl rfl (by decide) rfl (Nat.le_of_ble_eq_true rfl) (by decide) (Nat.le_of_ble_eq_true rfl) rfl ?_
              refine LW_ls (ls' := [some (.int b1), some (.int (97 : Int32)), some (.int (122 : Int32))]) rfl ?_
              refine X_iload_n rfl rfl rfl rfl ?_
              refine X_iload_n rfl rfl rfl rfl ?_
              refine X_icmp_lt (tgt := 14) rfl rfl rfl (fun h7 => ?_) (fun h7 => ?_)
              · refine X_iconst (v := (0 : Int32)) rfl rfl rfl ?_
                refine LW_ireturn (st := []) rfl rfl rfl ?_
                refine X_if_eq (tgt := 59) rfl rfl rfl (fun _ => ?_) (fun q => absurd q (by decide))
                refine X_iconst (v := (0 : Int32)) rfl rfl rfl ?_
                refine LW_ireturn (st := []) rfl rfl rfl ?_
                refine X_if_eq (tgt := 33) rfl rfl rfl (fun _ => ?_) (fun q => absurd q (by decide))
                refine X_iconst (v := (-1 : Int32)) rfl rfl rfl ?_
                refine LW_ireturn (st := []) rfl rfl rfl (congrArg (fun z => some (Value.int z)) ?_)
                simp only [Int32.lt_iff_toInt_lt, Int32.le_iff_toInt_le, ← Int32.toInt_inj, (show (0 : Int32).toInt = 0 from rfl), (show (9 : Int32).toInt = 9 from rfl), (show (97 : Int32).toInt = 97 from rfl), (show (122 : Int32).toInt = 122 from rfl)] at h1 h2 h3 h4 h5 h6 h7
                unfold f_wordB
                rw [if_neg (by omega)]
              · refine X_iload_n rfl rfl rfl rfl ?_
                refine X_iload_n rfl rfl rfl rfl ?_
                refine X_icmp_gt (tgt := 14) rfl rfl rfl (fun h8 => ?_) (fun h8 => ?_)
                · refine X_iconst (v := (0 : Int32)) rfl rfl rfl ?_
                  refine LW_ireturn (st := []) rfl rfl rfl ?_
                  refine X_if_eq (tgt := 59) rfl rfl rfl (fun _ => ?_) (fun q => absurd q (by decide))
                  refine X_iconst (v := (0 : Int32)) rfl rfl rfl ?_
                  refine LW_ireturn (st := []) rfl rfl rfl ?_
                  refine X_if_eq (tgt := 33) rfl rfl rfl (fun _ => ?_) (fun q => absurd q (by decide))
                  refine X_iconst (v := (-1 : Int32)) rfl rfl rfl ?_
                  refine LW_ireturn (st := []) rfl rfl rfl (congrArg (fun z => some (Value.int z)) ?_)
                  simp only [Int32.lt_iff_toInt_lt, Int32.le_iff_toInt_le, ← Int32.toInt_inj, (show (0 : Int32).toInt = 0 from rfl), (show (9 : Int32).toInt = 9 from rfl), (show (97 : Int32).toInt = 97 from rfl), (show (122 : Int32).toInt = 122 from rfl)] at h1 h2 h3 h4 h5 h6 h7 h8
                  unfold f_wordB
                  rw [if_neg (by omega)]
                · refine X_iconst (v := (1 : Int32)) rfl rfl rfl ?_
                  refine LW_goto (tgt := 15) rfl rfl ?_
                  refine LW_ireturn (st := []) rfl rfl rfl ?_
                  refine X_if_eq (tgt := 59) rfl rfl rfl (fun q => absurd q (by decide)) (fun _ => ?_)
                  refine X_aload_n rfl rfl rfl rfl ?_
                  refine X_getI (v := (1 : Int32)) rfl rfl rfl ((congrFun F.1 355).trans s_355) rfl rfl ?_
                  refine X_iload_n rfl rfl rfl rfl ?_
                  refine X_iload_n rfl rfl rfl rfl ?_
                  refine X_iadd (v := (1 : Int32)) rfl rfl rfl ?_
                  refine X_icmp_ge (tgt := 61) rfl rfl rfl (fun _ => ?_) (fun q => absurd q (by decide))
                  refine X_aload_n rfl rfl rfl rfl ?_
                  refine X_getR (a := 359) rfl rfl rfl ((congrFun F.1 355).trans s_355) rfl ((congrFun (F.2.1 355 (by decide)) 3).trans r_355_3) ?_
                  refine X_aload_n rfl rfl rfl rfl ?_
                  refine X_getI (v := (1 : Int32)) rfl rfl rfl ((congrFun F.1 355).trans s_355) rfl rfl ?_
                  refine X_iload rfl rfl rfl ?_
                  refine X_bipush (v := (97 : Int32)) rfl rfl rfl ?_
                  refine X_isub (v := (b1 - (97 : Int32))) rfl rfl rfl ?_
                  refine X_iast (k0 := 1) rfl rfl ((congrFun F.1 359).trans s_359) (vp_in_d rfl) rfl ?_
                  refine X_aload_n rfl rfl rfl rfl ?_
                  refine X_dup rfl rfl rfl ?_
                  refine X_getI (v := (1 : Int32)) rfl rfl rfl ((congrFun F.1 355).trans s_355) rfl rfl ?_
                  refine X_iconst (v := (1 : Int32)) rfl rfl rfl ?_
                  refine X_iadd (v := (2 : Int32)) rfl rfl rfl ?_
                  refine X_putI rfl rfl rfl ((congrFun F.1 355).trans s_355) rfl rfl rfl rfl ?_
                  refine X_iinc (v := (2 : Int32)) (ls' := [some (.ref 355), some (.int a), some (.int (0 : Int32)), some (.int (2 : Int32)), some (.int b1)]) rfl rfl rfl rfl rfl ?_
                  refine LW_goto (tgt := 2) rfl rfl ?_
                  refine X_iload_n rfl rfl rfl rfl ?_
                  refine X_iconst (v := (4 : Int32)) rfl rfl rfl ?_
                  refine X_icmp_ge (tgt := 91) rfl rfl rfl (fun q => absurd q (by decide)) (fun _ => ?_)
                  refine X_iload_n rfl rfl rfl rfl ?_
                  refine X_bipush (v := (8 : Int32)) rfl rfl rfl ?_
                  refine X_iload_n rfl rfl rfl rfl ?_
                  refine X_imul (v := (16 : Int32)) rfl rfl rfl ?_
                  refine X_ishr (v := (a >>> ((16 : Int32) &&& 31))) rfl rfl rfl ?_
                  refine X_sipush (v := (255 : Int32)) rfl rfl rfl ?_
                  refine X_iand (v := b2) rfl rfl hb2 ?_
                  refine X_istore (i := 4) (ls' := [some (.ref 355), some (.int a), some (.int (0 : Int32)), some (.int (2 : Int32)), some (.int b2)]) rfl rfl (Nat.le_of_ble_eq_true rfl) rfl ?_
                  refine X_iload rfl rfl rfl ?_
                  refine X_if_ne (tgt := 37) rfl rfl rfl (fun h9 => ?_) (fun h9 => ?_)
                  · refine X_iload rfl rfl rfl ?_
                    refine X_bipush (v := (97 : Int32)) rfl rfl rfl ?_
                    refine X_bipush (v := (122 : Int32)) rfl rfl rfl ?_
                    refine X_callS (as := [.int b2, .int (97 : Int32), .int (122 : Int32)]) (st := []) rfl rfl rfl (by decide) rfl (Nat.le_of_ble_eq_true rfl) (by decide) (Nat.le_of_ble_eq_true rfl) rfl ?_
                    refine LW_ls (ls' := [some (.int b2), some (.int (97 : Int32)), some (.int (122 : Int32))]) rfl ?_
                    refine X_iload_n rfl rfl rfl rfl ?_
                    refine X_iload_n rfl rfl rfl rfl ?_
                    refine X_icmp_lt (tgt := 14) rfl rfl rfl (fun h10 => ?_) (fun h10 => ?_)
                    · refine X_iconst (v := (0 : Int32)) rfl rfl rfl ?_
                      refine LW_ireturn (st := []) rfl rfl rfl ?_
                      refine X_if_eq (tgt := 59) rfl rfl rfl (fun _ => ?_) (fun q => absurd q (by decide))
                      refine X_iconst (v := (0 : Int32)) rfl rfl rfl ?_
                      refine LW_ireturn (st := []) rfl rfl rfl ?_
                      refine X_if_eq (tgt := 33) rfl rfl rfl (fun _ => ?_) (fun q => absurd q (by decide))
                      refine X_iconst (v := (-1 : Int32)) rfl rfl rfl ?_
                      refine LW_ireturn (st := []) rfl rfl rfl (congrArg (fun z => some (Value.int z)) ?_)
                      simp only [Int32.lt_iff_toInt_lt, Int32.le_iff_toInt_le, ← Int32.toInt_inj, (show (0 : Int32).toInt = 0 from rfl), (show (9 : Int32).toInt = 9 from rfl), (show (97 : Int32).toInt = 97 from rfl), (show (122 : Int32).toInt = 122 from rfl)] at h1 h2 h3 h4 h5 h6 h7 h8 h9 h10
                      unfold f_wordB
                      rw [if_neg (by omega)]
                    · refine X_iload_n rfl rfl rfl rfl ?_
                      refine X_iload_n rfl rfl rfl rfl ?_
                      refine X_icmp_gt (tgt := 14) rfl rfl rfl (fun h11 => ?_) (fun h11 => ?_)
                      · refine X_iconst (v := (0 : Int32)) rfl rfl rfl ?_
                        refine LW_ireturn (st := []) rfl rfl rfl ?_
                        refine X_if_eq (tgt := 59) rfl rfl rfl (fun _ => ?_) (fun q => absurd q (by decide))
                        refine X_iconst (v := (0 : Int32)) rfl rfl rfl ?_
                        refine LW_ireturn (st := []) rfl rfl rfl ?_
                        refine X_if_eq (tgt := 33) rfl rfl rfl (fun _ => ?_) (fun q => absurd q (by decide))
                        refine X_iconst (v := (-1 : Int32)) rfl rfl rfl ?_
                        refine LW_ireturn (st := []) rfl rfl rfl (congrArg (fun z => some (Value.int z)) ?_)
                        simp only [Int32.lt_iff_toInt_lt, Int32.le_iff_toInt_le, ← Int32.toInt_inj, (show (0 : Int32).toInt = 0 from rfl), (show (9 : Int32).toInt = 9 from rfl), (show (97 : Int32).toInt = 97 from rfl), (show (122 : Int32).toInt = 122 from rfl)] at h1 h2 h3 h4 h5 h6 h7 h8 h9 h10 h11
                        unfold f_wordB
                        rw [if_neg (by omega)]
                      · refine X_iconst (v := (1 : Int32)) rfl rfl rfl ?_
                        refine LW_goto (tgt := 15) rfl rfl ?_
                        refine LW_ireturn (st := []) rfl rfl rfl ?_
                        refine X_if_eq (tgt := 59) rfl rfl rfl (fun q => absurd q (by decide)) (fun _ => ?_)
                        refine X_aload_n rfl rfl rfl rfl ?_
                        refine X_getI (v := (2 : Int32)) rfl rfl rfl ((congrFun F.1 355).trans s_355) rfl rfl ?_
                        refine X_iload_n rfl rfl rfl rfl ?_
                        refine X_iload_n rfl rfl rfl rfl ?_
                        refine X_iadd (v := (2 : Int32)) rfl rfl rfl ?_
                        refine X_icmp_ge (tgt := 61) rfl rfl rfl (fun _ => ?_) (fun q => absurd q (by decide))
                        refine X_aload_n rfl rfl rfl rfl ?_
                        refine X_getR (a := 359) rfl rfl rfl ((congrFun F.1 355).trans s_355) rfl ((congrFun (F.2.1 355 (by decide)) 3).trans r_355_3) ?_
                        refine X_aload_n rfl rfl rfl rfl ?_
                        refine X_getI (v := (2 : Int32)) rfl rfl rfl ((congrFun F.1 355).trans s_355) rfl rfl ?_
                        refine X_iload rfl rfl rfl ?_
                        refine X_bipush (v := (97 : Int32)) rfl rfl rfl ?_
                        refine X_isub (v := (b2 - (97 : Int32))) rfl rfl rfl ?_
                        refine X_iast (k0 := 2) rfl rfl ((congrFun F.1 359).trans s_359) (vp_in_d rfl) rfl ?_
                        refine X_aload_n rfl rfl rfl rfl ?_
                        refine X_dup rfl rfl rfl ?_
                        refine X_getI (v := (2 : Int32)) rfl rfl rfl ((congrFun F.1 355).trans s_355) rfl rfl ?_
                        refine X_iconst (v := (1 : Int32)) rfl rfl rfl ?_
                        refine X_iadd (v := (3 : Int32)) rfl rfl rfl ?_
                        refine X_putI rfl rfl rfl ((congrFun F.1 355).trans s_355) rfl rfl rfl rfl ?_
                        refine X_iinc (v := (3 : Int32)) (ls' := [some (.ref 355), some (.int a), some (.int (0 : Int32)), some (.int (3 : Int32)), some (.int b2)]) rfl rfl rfl rfl rfl ?_
                        refine LW_goto (tgt := 2) rfl rfl ?_
                        refine X_iload_n rfl rfl rfl rfl ?_
                        refine X_iconst (v := (4 : Int32)) rfl rfl rfl ?_
                        refine X_icmp_ge (tgt := 91) rfl rfl rfl (fun q => absurd q (by decide)) (fun _ => ?_)
                        refine X_iload_n rfl rfl rfl rfl ?_
                        refine X_bipush (v := (8 : Int32)) rfl rfl rfl ?_
                        refine X_iload_n rfl rfl rfl rfl ?_
                        refine X_imul (v := (24 : Int32)) rfl rfl rfl ?_
                        refine X_ishr (v := (a >>> ((24 : Int32) &&& 31))) rfl rfl rfl ?_
                        refine X_sipush (v := (255 : Int32)) rfl rfl rfl ?_
                        refine X_iand (v := b3) rfl rfl hb3 ?_
                        refine X_istore (i := 4) (ls' := [some (.ref 355), some (.int a), some (.int (0 : Int32)), some (.int (3 : Int32)), some (.int b3)]) rfl rfl (Nat.le_of_ble_eq_true rfl) rfl ?_
                        refine X_iload rfl rfl rfl ?_
                        refine X_if_ne (tgt := 37) rfl rfl rfl (fun h12 => ?_) (fun h12 => ?_)
                        · refine X_iload rfl rfl rfl ?_
                          refine X_bipush (v := (97 : Int32)) rfl rfl rfl ?_
                          refine X_bipush (v := (122 : Int32)) rfl rfl rfl ?_
                          refine X_callS (as := [.int b3, .int (97 : Int32), .int (122 : Int32)]) (st := []) rfl rfl rfl (by decide) rfl (Nat.le_of_ble_eq_true rfl) (by decide) (Nat.le_of_ble_eq_true rfl) rfl ?_
                          refine LW_ls (ls' := [some (.int b3), some (.int (97 : Int32)), some (.int (122 : Int32))]) rfl ?_
                          refine X_iload_n rfl rfl rfl rfl ?_
                          refine X_iload_n rfl rfl rfl rfl ?_
                          refine X_icmp_lt (tgt := 14) rfl rfl rfl (fun h13 => ?_) (fun h13 => ?_)
                          · refine X_iconst (v := (0 : Int32)) rfl rfl rfl ?_
                            refine LW_ireturn (st := []) rfl rfl rfl ?_
                            refine X_if_eq (tgt := 59) rfl rfl rfl (fun _ => ?_) (fun q => absurd q (by decide))
                            refine X_iconst (v := (0 : Int32)) rfl rfl rfl ?_
                            refine LW_ireturn (st := []) rfl rfl rfl ?_
                            refine X_if_eq (tgt := 33) rfl rfl rfl (fun _ => ?_) (fun q => absurd q (by decide))
                            refine X_iconst (v := (-1 : Int32)) rfl rfl rfl ?_
                            refine LW_ireturn (st := []) rfl rfl rfl (congrArg (fun z => some (Value.int z)) ?_)
                            simp only [Int32.lt_iff_toInt_lt, Int32.le_iff_toInt_le, ← Int32.toInt_inj, (show (0 : Int32).toInt = 0 from rfl), (show (9 : Int32).toInt = 9 from rfl), (show (97 : Int32).toInt = 97 from rfl), (show (122 : Int32).toInt = 122 from rfl)] at h1 h2 h3 h4 h5 h6 h7 h8 h9 h10 h11 h12 h13
                            unfold f_wordB
                            rw [if_neg (by omega)]
                          · refine X_iload_n rfl rfl rfl rfl ?_
                            refine X_iload_n rfl rfl rfl rfl ?_
                            refine X_icmp_gt (tgt := 14) rfl rfl rfl (fun h14 => ?_) (fun h14 => ?_)
                            · refine X_iconst (v := (0 : Int32)) rfl rfl rfl ?_
                              refine LW_ireturn (st := []) rfl rfl rfl ?_
                              refine X_if_eq (tgt := 59) rfl rfl rfl (fun _ => ?_) (fun q => absurd q (by decide))
                              refine X_iconst (v := (0 : Int32)) rfl rfl rfl ?_
                              refine LW_ireturn (st := []) rfl rfl rfl ?_
                              refine X_if_eq (tgt := 33) rfl rfl rfl (fun _ => ?_) (fun q => absurd q (by decide))
                              refine X_iconst (v := (-1 : Int32)) rfl rfl rfl ?_
                              refine LW_ireturn (st := []) rfl rfl rfl (congrArg (fun z => some (Value.int z)) ?_)
                              simp only [Int32.lt_iff_toInt_lt, Int32.le_iff_toInt_le, ← Int32.toInt_inj, (show (0 : Int32).toInt = 0 from rfl), (show (9 : Int32).toInt = 9 from rfl), (show (97 : Int32).toInt = 97 from rfl), (show (122 : Int32).toInt = 122 from rfl)] at h1 h2 h3 h4 h5 h6 h7 h8 h9 h10 h11 h12 h13 h14
                              unfold f_wordB
                              rw [if_neg (by omega)]
                            · refine X_iconst (v := (1 : Int32)) rfl rfl rfl ?_
                              refine LW_goto (tgt := 15) rfl rfl ?_
                              refine LW_ireturn (st := []) rfl rfl rfl ?_
                              refine X_if_eq (tgt := 59) rfl rfl rfl (fun q => absurd q (by decide)) (fun _ => ?_)
                              refine X_aload_n rfl rfl rfl rfl ?_
                              refine X_getI (v := (3 : Int32)) rfl rfl rfl ((congrFun F.1 355).trans s_355) rfl rfl ?_
                              refine X_iload_n rfl rfl rfl rfl ?_
                              refine X_iload_n rfl rfl rfl rfl ?_
                              refine X_iadd (v := (3 : Int32)) rfl rfl rfl ?_
                              refine X_icmp_ge (tgt := 61) rfl rfl rfl (fun _ => ?_) (fun q => absurd q (by decide))
                              refine X_aload_n rfl rfl rfl rfl ?_
                              refine X_getR (a := 359) rfl rfl rfl ((congrFun F.1 355).trans s_355) rfl ((congrFun (F.2.1 355 (by decide)) 3).trans r_355_3) ?_
                              refine X_aload_n rfl rfl rfl rfl ?_
                              refine X_getI (v := (3 : Int32)) rfl rfl rfl ((congrFun F.1 355).trans s_355) rfl rfl ?_
                              refine X_iload rfl rfl rfl ?_
                              refine X_bipush (v := (97 : Int32)) rfl rfl rfl ?_
                              refine X_isub (v := (b3 - (97 : Int32))) rfl rfl rfl ?_
                              refine X_iast (k0 := 3) rfl rfl ((congrFun F.1 359).trans s_359) (vp_in_d rfl) rfl ?_
                              refine X_aload_n rfl rfl rfl rfl ?_
                              refine X_dup rfl rfl rfl ?_
                              refine X_getI (v := (3 : Int32)) rfl rfl rfl ((congrFun F.1 355).trans s_355) rfl rfl ?_
                              refine X_iconst (v := (1 : Int32)) rfl rfl rfl ?_
                              refine X_iadd (v := (4 : Int32)) rfl rfl rfl ?_
                              refine X_putI rfl rfl rfl ((congrFun F.1 355).trans s_355) rfl rfl rfl rfl ?_
                              refine X_iinc (v := (4 : Int32)) (ls' := [some (.ref 355), some (.int a), some (.int (0 : Int32)), some (.int (4 : Int32)), some (.int b3)]) rfl rfl rfl rfl rfl ?_
                              refine LW_goto (tgt := 2) rfl rfl ?_
                              refine X_iload_n rfl rfl rfl rfl ?_
                              refine X_iconst (v := (4 : Int32)) rfl rfl rfl ?_
                              refine X_icmp_ge (tgt := 91) rfl rfl rfl (fun _ => ?_) (fun q => absurd q (by decide))
                              refine X_iconst (v := (1 : Int32)) rfl rfl rfl ?_
                              refine LW_ireturn (st := []) rfl rfl rfl ?_
                              refine X_if_eq (tgt := 33) rfl rfl rfl (fun q => absurd q (by decide)) (fun _ => ?_)
                              refine X_aload_n rfl rfl rfl rfl ?_
                              refine X_iload_n rfl rfl rfl rfl ?_
                              refine X_iconst (v := (4 : Int32)) rfl rfl rfl ?_
                              refine X_callV (as := [.int c, .int (4 : Int32)]) (st := []) rfl rfl rfl (by decide) rfl (Nat.le_of_ble_eq_true rfl) (by decide) (Nat.le_of_ble_eq_true rfl) rfl ((congrFun F.1 355).trans s_355) (by decide) ?_
                              refine LW_ls (ls' := [some (.ref 355), some (.int c), some (.int (4 : Int32)), none, none]) rfl ?_
                              refine X_iconst (v := (0 : Int32)) rfl rfl rfl ?_
                              refine X_istore_n (i := 3) (ls' := [some (.ref 355), some (.int c), some (.int (4 : Int32)), some (.int (0 : Int32)), none]) rfl rfl rfl (Nat.le_of_ble_eq_true rfl) rfl ?_
                              refine X_iload_n rfl rfl rfl rfl ?_
                              refine X_iconst (v := (4 : Int32)) rfl rfl rfl ?_
                              refine X_icmp_ge (tgt := 91) rfl rfl rfl (fun q => absurd q (by decide)) (fun _ => ?_)
                              refine X_iload_n rfl rfl rfl rfl ?_
                              refine X_bipush (v := (8 : Int32)) rfl rfl rfl ?_
                              refine X_iload_n rfl rfl rfl rfl ?_
                              refine X_imul (v := (0 : Int32)) rfl rfl rfl ?_
                              refine X_ishr (v := (c >>> ((0 : Int32) &&& 31))) rfl rfl rfl ?_
                              refine X_sipush (v := (255 : Int32)) rfl rfl rfl ?_
                              refine X_iand (v := b4) rfl rfl hb4 ?_
                              refine X_istore (i := 4) (ls' := [some (.ref 355), some (.int c), some (.int (4 : Int32)), some (.int (0 : Int32)), some (.int b4)]) rfl rfl (Nat.le_of_ble_eq_true rfl) rfl ?_
                              refine X_iload rfl rfl rfl ?_
                              refine X_if_ne (tgt := 37) rfl rfl rfl (fun h15 => ?_) (fun h15 => ?_)
                              · refine X_iload rfl rfl rfl ?_
                                refine X_bipush (v := (97 : Int32)) rfl rfl rfl ?_
                                refine X_bipush (v := (122 : Int32)) rfl rfl rfl ?_
                                refine X_callS (as := [.int b4, .int (97 : Int32), .int (122 : Int32)]) (st := []) rfl rfl rfl (by decide) rfl (Nat.le_of_ble_eq_true rfl) (by decide) (Nat.le_of_ble_eq_true rfl) rfl ?_
                                refine LW_ls (ls' := [some (.int b4), some (.int (97 : Int32)), some (.int (122 : Int32))]) rfl ?_
                                refine X_iload_n rfl rfl rfl rfl ?_
                                refine X_iload_n rfl rfl rfl rfl ?_
                                refine X_icmp_lt (tgt := 14) rfl rfl rfl (fun h16 => ?_) (fun h16 => ?_)
                                · refine X_iconst (v := (0 : Int32)) rfl rfl rfl ?_
                                  refine LW_ireturn (st := []) rfl rfl rfl ?_
                                  refine X_if_eq (tgt := 59) rfl rfl rfl (fun _ => ?_) (fun q => absurd q (by decide))
                                  refine X_iconst (v := (0 : Int32)) rfl rfl rfl ?_
                                  refine LW_ireturn (st := []) rfl rfl rfl ?_
                                  refine X_if_ne (tgt := 35) rfl rfl rfl (fun q => absurd q (by decide)) (fun _ => ?_)
                                  refine X_iconst (v := (-1 : Int32)) rfl rfl rfl ?_
                                  refine LW_ireturn (st := []) rfl rfl rfl (congrArg (fun z => some (Value.int z)) ?_)
                                  simp only [Int32.lt_iff_toInt_lt, Int32.le_iff_toInt_le, ← Int32.toInt_inj, (show (0 : Int32).toInt = 0 from rfl), (show (9 : Int32).toInt = 9 from rfl), (show (97 : Int32).toInt = 97 from rfl), (show (122 : Int32).toInt = 122 from rfl)] at h1 h2 h3 h4 h5 h6 h7 h8 h9 h10 h11 h12 h13 h14 h15 h16
                                  unfold f_wordB
                                  rw [if_neg (by omega)]
                                · refine X_iload_n rfl rfl rfl rfl ?_
                                  refine X_iload_n rfl rfl rfl rfl ?_
                                  refine X_icmp_gt (tgt := 14) rfl rfl rfl (fun h17 => ?_) (fun h17 => ?_)
                                  · refine X_iconst (v := (0 : Int32)) rfl rfl rfl ?_
                                    refine LW_ireturn (st := []) rfl rfl rfl ?_
                                    refine X_if_eq (tgt := 59) rfl rfl rfl (fun _ => ?_) (fun q => absurd q (by decide))
                                    refine X_iconst (v := (0 : Int32)) rfl rfl rfl ?_
                                    refine LW_ireturn (st := []) rfl rfl rfl ?_
                                    refine X_if_ne (tgt := 35) rfl rfl rfl (fun q => absurd q (by decide)) (fun _ => ?_)
                                    refine X_iconst (v := (-1 : Int32)) rfl rfl rfl ?_
                                    refine LW_ireturn (st := []) rfl rfl rfl (congrArg (fun z => some (Value.int z)) ?_)
                                    simp only [Int32.lt_iff_toInt_lt, Int32.le_iff_toInt_le, ← Int32.toInt_inj, (show (0 : Int32).toInt = 0 from rfl), (show (9 : Int32).toInt = 9 from rfl), (show (97 : Int32).toInt = 97 from rfl), (show (122 : Int32).toInt = 122 from rfl)] at h1 h2 h3 h4 h5 h6 h7 h8 h9 h10 h11 h12 h13 h14 h15 h16 h17
                                    unfold f_wordB
                                    rw [if_neg (by omega)]
                                  · refine X_iconst (v := (1 : Int32)) rfl rfl rfl ?_
                                    refine LW_goto (tgt := 15) rfl rfl ?_
                                    refine LW_ireturn (st := []) rfl rfl rfl ?_
                                    refine X_if_eq (tgt := 59) rfl rfl rfl (fun q => absurd q (by decide)) (fun _ => ?_)
                                    refine X_aload_n rfl rfl rfl rfl ?_
                                    refine X_getI (v := (4 : Int32)) rfl rfl rfl ((congrFun F.1 355).trans s_355) rfl rfl ?_
                                    refine X_iload_n rfl rfl rfl rfl ?_
                                    refine X_iload_n rfl rfl rfl rfl ?_
                                    refine X_iadd (v := (4 : Int32)) rfl rfl rfl ?_
                                    refine X_icmp_ge (tgt := 61) rfl rfl rfl (fun _ => ?_) (fun q => absurd q (by decide))
                                    refine X_aload_n rfl rfl rfl rfl ?_
                                    refine X_getR (a := 359) rfl rfl rfl ((congrFun F.1 355).trans s_355) rfl ((congrFun (F.2.1 355 (by decide)) 3).trans r_355_3) ?_
                                    refine X_aload_n rfl rfl rfl rfl ?_
                                    refine X_getI (v := (4 : Int32)) rfl rfl rfl ((congrFun F.1 355).trans s_355) rfl rfl ?_
                                    refine X_iload rfl rfl rfl ?_
                                    refine X_bipush (v := (97 : Int32)) rfl rfl rfl ?_
                                    refine X_isub (v := (b4 - (97 : Int32))) rfl rfl rfl ?_
                                    refine X_iast (k0 := 4) rfl rfl ((congrFun F.1 359).trans s_359) (vp_in_d rfl) rfl ?_
                                    refine X_aload_n rfl rfl rfl rfl ?_
                                    refine X_dup rfl rfl rfl ?_
                                    refine X_getI (v := (4 : Int32)) rfl rfl rfl ((congrFun F.1 355).trans s_355) rfl rfl ?_
                                    refine X_iconst (v := (1 : Int32)) rfl rfl rfl ?_
                                    refine X_iadd (v := (5 : Int32)) rfl rfl rfl ?_
                                    refine X_putI rfl rfl rfl ((congrFun F.1 355).trans s_355) rfl rfl rfl rfl ?_
                                    refine X_iinc (v := (1 : Int32)) (ls' := [some (.ref 355), some (.int c), some (.int (4 : Int32)), some (.int (1 : Int32)), some (.int b4)]) rfl rfl rfl rfl rfl ?_
                                    refine LW_goto (tgt := 2) rfl rfl ?_
                                    refine X_iload_n rfl rfl rfl rfl ?_
                                    refine X_iconst (v := (4 : Int32)) rfl rfl rfl ?_
                                    refine X_icmp_ge (tgt := 91) rfl rfl rfl (fun q => absurd q (by decide)) (fun _ => ?_)
                                    refine X_iload_n rfl rfl rfl rfl ?_
                                    refine X_bipush (v := (8 : Int32)) rfl rfl rfl ?_
                                    refine X_iload_n rfl rfl rfl rfl ?_
                                    refine X_imul (v := (8 : Int32)) rfl rfl rfl ?_
                                    refine X_ishr (v := (c >>> ((8 : Int32) &&& 31))) rfl rfl rfl ?_
                                    refine X_sipush (v := (255 : Int32)) rfl rfl rfl ?_
                                    refine X_iand (v := b5) rfl rfl hb5 ?_
                                    refine X_istore (i := 4) (ls' := [some (.ref 355), some (.int c), some (.int (4 : Int32)), some (.int (1 : Int32)), some (.int b5)]) rfl rfl (Nat.le_of_ble_eq_true rfl) rfl ?_
                                    refine X_iload rfl rfl rfl ?_
                                    refine X_if_ne (tgt := 37) rfl rfl rfl (fun h18 => ?_) (fun h18 => ?_)
                                    · refine X_iload rfl rfl rfl ?_
                                      refine X_bipush (v := (97 : Int32)) rfl rfl rfl ?_
                                      refine X_bipush (v := (122 : Int32)) rfl rfl rfl ?_
                                      refine X_callS (as := [.int b5, .int (97 : Int32), .int (122 : Int32)]) (st := []) rfl rfl rfl (by decide) rfl (Nat.le_of_ble_eq_true rfl) (by decide) (Nat.le_of_ble_eq_true rfl) rfl ?_
                                      refine LW_ls (ls' := [some (.int b5), some (.int (97 : Int32)), some (.int (122 : Int32))]) rfl ?_
                                      refine X_iload_n rfl rfl rfl rfl ?_
                                      refine X_iload_n rfl rfl rfl rfl ?_
                                      refine X_icmp_lt (tgt := 14) rfl rfl rfl (fun h19 => ?_) (fun h19 => ?_)
                                      · refine X_iconst (v := (0 : Int32)) rfl rfl rfl ?_
                                        refine LW_ireturn (st := []) rfl rfl rfl ?_
                                        refine X_if_eq (tgt := 59) rfl rfl rfl (fun _ => ?_) (fun q => absurd q (by decide))
                                        refine X_iconst (v := (0 : Int32)) rfl rfl rfl ?_
                                        refine LW_ireturn (st := []) rfl rfl rfl ?_
                                        refine X_if_ne (tgt := 35) rfl rfl rfl (fun q => absurd q (by decide)) (fun _ => ?_)
                                        refine X_iconst (v := (-1 : Int32)) rfl rfl rfl ?_
                                        refine LW_ireturn (st := []) rfl rfl rfl (congrArg (fun z => some (Value.int z)) ?_)
                                        simp only [Int32.lt_iff_toInt_lt, Int32.le_iff_toInt_le, ← Int32.toInt_inj, (show (0 : Int32).toInt = 0 from rfl), (show (9 : Int32).toInt = 9 from rfl), (show (97 : Int32).toInt = 97 from rfl), (show (122 : Int32).toInt = 122 from rfl)] at h1 h2 h3 h4 h5 h6 h7 h8 h9 h10 h11 h12 h13 h14 h15 h16 h17 h18 h19
                                        unfold f_wordB
                                        rw [if_neg (by omega)]
                                      · refine X_iload_n rfl rfl rfl rfl ?_
                                        refine X_iload_n rfl rfl rfl rfl ?_
                                        refine X_icmp_gt (tgt := 14) rfl rfl rfl (fun h20 => ?_) (fun h20 => ?_)
                                        · refine X_iconst (v := (0 : Int32)) rfl rfl rfl ?_
                                          refine LW_ireturn (st := []) rfl rfl rfl ?_
                                          refine X_if_eq (tgt := 59) rfl rfl rfl (fun _ => ?_) (fun q => absurd q (by decide))
                                          refine X_iconst (v := (0 : Int32)) rfl rfl rfl ?_
                                          refine LW_ireturn (st := []) rfl rfl rfl ?_
                                          refine X_if_ne (tgt := 35) rfl rfl rfl (fun q => absurd q (by decide)) (fun _ => ?_)
                                          refine X_iconst (v := (-1 : Int32)) rfl rfl rfl ?_
                                          refine LW_ireturn (st := []) rfl rfl rfl (congrArg (fun z => some (Value.int z)) ?_)
                                          simp only [Int32.lt_iff_toInt_lt, Int32.le_iff_toInt_le, ← Int32.toInt_inj, (show (0 : Int32).toInt = 0 from rfl), (show (9 : Int32).toInt = 9 from rfl), (show (97 : Int32).toInt = 97 from rfl), (show (122 : Int32).toInt = 122 from rfl)] at h1 h2 h3 h4 h5 h6 h7 h8 h9 h10 h11 h12 h13 h14 h15 h16 h17 h18 h19 h20
                                          unfold f_wordB
                                          rw [if_neg (by omega)]
                                        · refine X_iconst (v := (1 : Int32)) rfl rfl rfl ?_
                                          refine LW_goto (tgt := 15) rfl rfl ?_
                                          refine LW_ireturn (st := []) rfl rfl rfl ?_
                                          refine X_if_eq (tgt := 59) rfl rfl rfl (fun q => absurd q (by decide)) (fun _ => ?_)
                                          refine X_aload_n rfl rfl rfl rfl ?_
                                          refine X_getI (v := (5 : Int32)) rfl rfl rfl ((congrFun F.1 355).trans s_355) rfl rfl ?_
                                          refine X_iload_n rfl rfl rfl rfl ?_
                                          refine X_iload_n rfl rfl rfl rfl ?_
                                          refine X_iadd (v := (5 : Int32)) rfl rfl rfl ?_
                                          refine X_icmp_ge (tgt := 61) rfl rfl rfl (fun _ => ?_) (fun q => absurd q (by decide))
                                          refine X_aload_n rfl rfl rfl rfl ?_
                                          refine X_getR (a := 359) rfl rfl rfl ((congrFun F.1 355).trans s_355) rfl ((congrFun (F.2.1 355 (by decide)) 3).trans r_355_3) ?_
                                          refine X_aload_n rfl rfl rfl rfl ?_
                                          refine X_getI (v := (5 : Int32)) rfl rfl rfl ((congrFun F.1 355).trans s_355) rfl rfl ?_
                                          refine X_iload rfl rfl rfl ?_
                                          refine X_bipush (v := (97 : Int32)) rfl rfl rfl ?_
                                          refine X_isub (v := (b5 - (97 : Int32))) rfl rfl rfl ?_
                                          refine X_iast (k0 := 5) rfl rfl ((congrFun F.1 359).trans s_359) (vp_in_d rfl) rfl ?_
                                          refine X_aload_n rfl rfl rfl rfl ?_
                                          refine X_dup rfl rfl rfl ?_
                                          refine X_getI (v := (5 : Int32)) rfl rfl rfl ((congrFun F.1 355).trans s_355) rfl rfl ?_
                                          refine X_iconst (v := (1 : Int32)) rfl rfl rfl ?_
                                          refine X_iadd (v := (6 : Int32)) rfl rfl rfl ?_
                                          refine X_putI rfl rfl rfl ((congrFun F.1 355).trans s_355) rfl rfl rfl rfl ?_
                                          refine X_iinc (v := (2 : Int32)) (ls' := [some (.ref 355), some (.int c), some (.int (4 : Int32)), some (.int (2 : Int32)), some (.int b5)]) rfl rfl rfl rfl rfl ?_
                                          refine LW_goto (tgt := 2) rfl rfl ?_
                                          refine X_iload_n rfl rfl rfl rfl ?_
                                          refine X_iconst (v := (4 : Int32)) rfl rfl rfl ?_
                                          refine X_icmp_ge (tgt := 91) rfl rfl rfl (fun q => absurd q (by decide)) (fun _ => ?_)
                                          refine X_iload_n rfl rfl rfl rfl ?_
                                          refine X_bipush (v := (8 : Int32)) rfl rfl rfl ?_
                                          refine X_iload_n rfl rfl rfl rfl ?_
                                          refine X_imul (v := (16 : Int32)) rfl rfl rfl ?_
                                          refine X_ishr (v := (c >>> ((16 : Int32) &&& 31))) rfl rfl rfl ?_
                                          refine X_sipush (v := (255 : Int32)) rfl rfl rfl ?_
                                          refine X_iand (v := b6) rfl rfl hb6 ?_
                                          refine X_istore (i := 4) (ls' := [some (.ref 355), some (.int c), some (.int (4 : Int32)), some (.int (2 : Int32)), some (.int b6)]) rfl rfl (Nat.le_of_ble_eq_true rfl) rfl ?_
                                          refine X_iload rfl rfl rfl ?_
                                          refine X_if_ne (tgt := 37) rfl rfl rfl (fun h21 => ?_) (fun h21 => ?_)
                                          · refine X_iload rfl rfl rfl ?_
                                            refine X_bipush (v := (97 : Int32)) rfl rfl rfl ?_
                                            refine X_bipush (v := (122 : Int32)) rfl rfl rfl ?_
                                            refine X_callS (as := [.int b6, .int (97 : Int32), .int (122 : Int32)]) (st := []) rfl rfl rfl (by decide) rfl (Nat.le_of_ble_eq_true rfl) (by decide) (Nat.le_of_ble_eq_true rfl) rfl ?_
                                            refine LW_ls (ls' := [some (.int b6), some (.int (97 : Int32)), some (.int (122 : Int32))]) rfl ?_
                                            refine X_iload_n rfl rfl rfl rfl ?_
                                            refine X_iload_n rfl rfl rfl rfl ?_
                                            refine X_icmp_lt (tgt := 14) rfl rfl rfl (fun h22 => ?_) (fun h22 => ?_)
                                            · refine X_iconst (v := (0 : Int32)) rfl rfl rfl ?_
                                              refine LW_ireturn (st := []) rfl rfl rfl ?_
                                              refine X_if_eq (tgt := 59) rfl rfl rfl (fun _ => ?_) (fun q => absurd q (by decide))
                                              refine X_iconst (v := (0 : Int32)) rfl rfl rfl ?_
                                              refine LW_ireturn (st := []) rfl rfl rfl ?_
                                              refine X_if_ne (tgt := 35) rfl rfl rfl (fun q => absurd q (by decide)) (fun _ => ?_)
                                              refine X_iconst (v := (-1 : Int32)) rfl rfl rfl ?_
                                              refine LW_ireturn (st := []) rfl rfl rfl (congrArg (fun z => some (Value.int z)) ?_)
                                              simp only [Int32.lt_iff_toInt_lt, Int32.le_iff_toInt_le, ← Int32.toInt_inj, (show (0 : Int32).toInt = 0 from rfl), (show (9 : Int32).toInt = 9 from rfl), (show (97 : Int32).toInt = 97 from rfl), (show (122 : Int32).toInt = 122 from rfl)] at h1 h2 h3 h4 h5 h6 h7 h8 h9 h10 h11 h12 h13 h14 h15 h16 h17 h18 h19 h20 h21 h22
                                              unfold f_wordB
                                              rw [if_neg (by omega)]
                                            · refine X_iload_n rfl rfl rfl rfl ?_
                                              refine X_iload_n rfl rfl rfl rfl ?_
                                              refine X_icmp_gt (tgt := 14) rfl rfl rfl (fun h23 => ?_) (fun h23 => ?_)
                                              · refine X_iconst (v := (0 : Int32)) rfl rfl rfl ?_
                                                refine LW_ireturn (st := []) rfl rfl rfl ?_
                                                refine X_if_eq (tgt := 59) rfl rfl rfl (fun _ => ?_) (fun q => absurd q (by decide))
                                                refine X_iconst (v := (0 : Int32)) rfl rfl rfl ?_
                                                refine LW_ireturn (st := []) rfl rfl rfl ?_
                                                refine X_if_ne (tgt := 35) rfl rfl rfl (fun q => absurd q (by decide)) (fun _ => ?_)
                                                refine X_iconst (v := (-1 : Int32)) rfl rfl rfl ?_
                                                refine LW_ireturn (st := []) rfl rfl rfl (congrArg (fun z => some (Value.int z)) ?_)
                                                simp only [Int32.lt_iff_toInt_lt, Int32.le_iff_toInt_le, ← Int32.toInt_inj, (show (0 : Int32).toInt = 0 from rfl), (show (9 : Int32).toInt = 9 from rfl), (show (97 : Int32).toInt = 97 from rfl), (show (122 : Int32).toInt = 122 from rfl)] at h1 h2 h3 h4 h5 h6 h7 h8 h9 h10 h11 h12 h13 h14 h15 h16 h17 h18 h19 h20 h21 h22 h23
                                                unfold f_wordB
                                                rw [if_neg (by omega)]
                                              · refine X_iconst (v := (1 : Int32)) rfl rfl rfl ?_
                                                refine LW_goto (tgt := 15) rfl rfl ?_
                                                refine LW_ireturn (st := []) rfl rfl rfl ?_
                                                refine X_if_eq (tgt := 59) rfl rfl rfl (fun q => absurd q (by decide)) (fun _ => ?_)
                                                refine X_aload_n rfl rfl rfl rfl ?_
                                                refine X_getI (v := (6 : Int32)) rfl rfl rfl ((congrFun F.1 355).trans s_355) rfl rfl ?_
                                                refine X_iload_n rfl rfl rfl rfl ?_
                                                refine X_iload_n rfl rfl rfl rfl ?_
                                                refine X_iadd (v := (6 : Int32)) rfl rfl rfl ?_
                                                refine X_icmp_ge (tgt := 61) rfl rfl rfl (fun _ => ?_) (fun q => absurd q (by decide))
                                                refine X_aload_n rfl rfl rfl rfl ?_
                                                refine X_getR (a := 359) rfl rfl rfl ((congrFun F.1 355).trans s_355) rfl ((congrFun (F.2.1 355 (by decide)) 3).trans r_355_3) ?_
                                                refine X_aload_n rfl rfl rfl rfl ?_
                                                refine X_getI (v := (6 : Int32)) rfl rfl rfl ((congrFun F.1 355).trans s_355) rfl rfl ?_
                                                refine X_iload rfl rfl rfl ?_
                                                refine X_bipush (v := (97 : Int32)) rfl rfl rfl ?_
                                                refine X_isub (v := (b6 - (97 : Int32))) rfl rfl rfl ?_
                                                refine X_iast (k0 := 6) rfl rfl ((congrFun F.1 359).trans s_359) (vp_in_d rfl) rfl ?_
                                                refine X_aload_n rfl rfl rfl rfl ?_
                                                refine X_dup rfl rfl rfl ?_
                                                refine X_getI (v := (6 : Int32)) rfl rfl rfl ((congrFun F.1 355).trans s_355) rfl rfl ?_
                                                refine X_iconst (v := (1 : Int32)) rfl rfl rfl ?_
                                                refine X_iadd (v := (7 : Int32)) rfl rfl rfl ?_
                                                refine X_putI rfl rfl rfl ((congrFun F.1 355).trans s_355) rfl rfl rfl rfl ?_
                                                refine X_iinc (v := (3 : Int32)) (ls' := [some (.ref 355), some (.int c), some (.int (4 : Int32)), some (.int (3 : Int32)), some (.int b6)]) rfl rfl rfl rfl rfl ?_
                                                refine LW_goto (tgt := 2) rfl rfl ?_
                                                refine X_iload_n rfl rfl rfl rfl ?_
                                                refine X_iconst (v := (4 : Int32)) rfl rfl rfl ?_
                                                refine X_icmp_ge (tgt := 91) rfl rfl rfl (fun q => absurd q (by decide)) (fun _ => ?_)
                                                refine X_iload_n rfl rfl rfl rfl ?_
                                                refine X_bipush (v := (8 : Int32)) rfl rfl rfl ?_
                                                refine X_iload_n rfl rfl rfl rfl ?_
                                                refine X_imul (v := (24 : Int32)) rfl rfl rfl ?_
                                                refine X_ishr (v := (c >>> ((24 : Int32) &&& 31))) rfl rfl rfl ?_
                                                refine X_sipush (v := (255 : Int32)) rfl rfl rfl ?_
                                                refine X_iand (v := b7) rfl rfl hb7 ?_
                                                refine X_istore (i := 4) (ls' := [some (.ref 355), some (.int c), some (.int (4 : Int32)), some (.int (3 : Int32)), some (.int b7)]) rfl rfl (Nat.le_of_ble_eq_true rfl) rfl ?_
                                                refine X_iload rfl rfl rfl ?_
                                                refine X_if_ne (tgt := 37) rfl rfl rfl (fun h24 => ?_) (fun h24 => ?_)
                                                · refine X_iload rfl rfl rfl ?_
                                                  refine X_bipush (v := (97 : Int32)) rfl rfl rfl ?_
                                                  refine X_bipush (v := (122 : Int32)) rfl rfl rfl ?_
                                                  refine X_callS (as := [.int b7, .int (97 : Int32), .int (122 : Int32)]) (st := []) rfl rfl rfl (by decide) rfl (Nat.le_of_ble_eq_true rfl) (by decide) (Nat.le_of_ble_eq_true rfl) rfl ?_
                                                  refine LW_ls (ls' := [some (.int b7), some (.int (97 : Int32)), some (.int (122 : Int32))]) rfl ?_
                                                  refine X_iload_n rfl rfl rfl rfl ?_
                                                  refine X_iload_n rfl rfl rfl rfl ?_
                                                  refine X_icmp_lt (tgt := 14) rfl rfl rfl (fun h25 => ?_) (fun h25 => ?_)
                                                  · refine X_iconst (v := (0 : Int32)) rfl rfl rfl ?_
                                                    refine LW_ireturn (st := []) rfl rfl rfl ?_
                                                    refine X_if_eq (tgt := 59) rfl rfl rfl (fun _ => ?_) (fun q => absurd q (by decide))
                                                    refine X_iconst (v := (0 : Int32)) rfl rfl rfl ?_
                                                    refine LW_ireturn (st := []) rfl rfl rfl ?_
                                                    refine X_if_ne (tgt := 35) rfl rfl rfl (fun q => absurd q (by decide)) (fun _ => ?_)
                                                    refine X_iconst (v := (-1 : Int32)) rfl rfl rfl ?_
                                                    refine LW_ireturn (st := []) rfl rfl rfl (congrArg (fun z => some (Value.int z)) ?_)
                                                    simp only [Int32.lt_iff_toInt_lt, Int32.le_iff_toInt_le, ← Int32.toInt_inj, (show (0 : Int32).toInt = 0 from rfl), (show (9 : Int32).toInt = 9 from rfl), (show (97 : Int32).toInt = 97 from rfl), (show (122 : Int32).toInt = 122 from rfl)] at h1 h2 h3 h4 h5 h6 h7 h8 h9 h10 h11 h12 h13 h14 h15 h16 h17 h18 h19 h20 h21 h22 h23 h24 h25
                                                    unfold f_wordB
                                                    rw [if_neg (by omega)]
                                                  · refine X_iload_n rfl rfl rfl rfl ?_
                                                    refine X_iload_n rfl rfl rfl rfl ?_
                                                    refine X_icmp_gt (tgt := 14) rfl rfl rfl (fun h26 => ?_) (fun h26 => ?_)
                                                    · refine X_iconst (v := (0 : Int32)) rfl rfl rfl ?_
                                                      refine LW_ireturn (st := []) rfl rfl rfl ?_
                                                      refine X_if_eq (tgt := 59) rfl rfl rfl (fun _ => ?_) (fun q => absurd q (by decide))
                                                      refine X_iconst (v := (0 : Int32)) rfl rfl rfl ?_
                                                      refine LW_ireturn (st := []) rfl rfl rfl ?_
                                                      refine X_if_ne (tgt := 35) rfl rfl rfl (fun q => absurd q (by decide)) (fun _ => ?_)
                                                      refine X_iconst (v := (-1 : Int32)) rfl rfl rfl ?_
                                                      refine LW_ireturn (st := []) rfl rfl rfl (congrArg (fun z => some (Value.int z)) ?_)
                                                      simp only [Int32.lt_iff_toInt_lt, Int32.le_iff_toInt_le, ← Int32.toInt_inj, (show (0 : Int32).toInt = 0 from rfl), (show (9 : Int32).toInt = 9 from rfl), (show (97 : Int32).toInt = 97 from rfl), (show (122 : Int32).toInt = 122 from rfl)] at h1 h2 h3 h4 h5 h6 h7 h8 h9 h10 h11 h12 h13 h14 h15 h16 h17 h18 h19 h20 h21 h22 h23 h24 h25 h26
                                                      unfold f_wordB
                                                      rw [if_neg (by omega)]
                                                    · refine X_iconst (v := (1 : Int32)) rfl rfl rfl ?_
                                                      refine LW_goto (tgt := 15) rfl rfl ?_
                                                      refine LW_ireturn (st := []) rfl rfl rfl ?_
                                                      refine X_if_eq (tgt := 59) rfl rfl rfl (fun q => absurd q (by decide)) (fun _ => ?_)
                                                      refine X_aload_n rfl rfl rfl rfl ?_
                                                      refine X_getI (v := (7 : Int32)) rfl rfl rfl ((congrFun F.1 355).trans s_355) rfl rfl ?_
                                                      refine X_iload_n rfl rfl rfl rfl ?_
                                                      refine X_iload_n rfl rfl rfl rfl ?_
                                                      refine X_iadd (v := (7 : Int32)) rfl rfl rfl ?_
                                                      refine X_icmp_ge (tgt := 61) rfl rfl rfl (fun _ => ?_) (fun q => absurd q (by decide))
                                                      refine X_aload_n rfl rfl rfl rfl ?_
                                                      refine X_getR (a := 359) rfl rfl rfl ((congrFun F.1 355).trans s_355) rfl ((congrFun (F.2.1 355 (by decide)) 3).trans r_355_3) ?_
                                                      refine X_aload_n rfl rfl rfl rfl ?_
                                                      refine X_getI (v := (7 : Int32)) rfl rfl rfl ((congrFun F.1 355).trans s_355) rfl rfl ?_
                                                      refine X_iload rfl rfl rfl ?_
                                                      refine X_bipush (v := (97 : Int32)) rfl rfl rfl ?_
                                                      refine X_isub (v := (b7 - (97 : Int32))) rfl rfl rfl ?_
                                                      refine X_iast (k0 := 7) rfl rfl ((congrFun F.1 359).trans s_359) (vp_in_d rfl) rfl ?_
                                                      refine X_aload_n rfl rfl rfl rfl ?_
                                                      refine X_dup rfl rfl rfl ?_
                                                      refine X_getI (v := (7 : Int32)) rfl rfl rfl ((congrFun F.1 355).trans s_355) rfl rfl ?_
                                                      refine X_iconst (v := (1 : Int32)) rfl rfl rfl ?_
                                                      refine X_iadd (v := (8 : Int32)) rfl rfl rfl ?_
                                                      refine X_putI rfl rfl rfl ((congrFun F.1 355).trans s_355) rfl rfl rfl rfl ?_
                                                      refine X_iinc (v := (4 : Int32)) (ls' := [some (.ref 355), some (.int c), some (.int (4 : Int32)), some (.int (4 : Int32)), some (.int b7)]) rfl rfl rfl rfl rfl ?_
                                                      refine LW_goto (tgt := 2) rfl rfl ?_
                                                      refine X_iload_n rfl rfl rfl rfl ?_
                                                      refine X_iconst (v := (4 : Int32)) rfl rfl rfl ?_
                                                      refine X_icmp_ge (tgt := 91) rfl rfl rfl (fun _ => ?_) (fun q => absurd q (by decide))
                                                      refine X_iconst (v := (1 : Int32)) rfl rfl rfl ?_
                                                      refine LW_ireturn (st := []) rfl rfl rfl ?_
                                                      refine X_if_ne (tgt := 35) rfl rfl rfl (fun _ => ?_) (fun q => absurd q (by decide))
                                                      refine X_aload_n rfl rfl rfl rfl ?_
                                                      refine X_iload_n rfl rfl rfl rfl ?_
                                                      refine X_callV (as := [.int s]) (st := []) rfl rfl rfl (by decide) rfl (Nat.le_of_ble_eq_true rfl) (by decide) (Nat.le_of_ble_eq_true rfl) rfl ((congrFun F.1 355).trans s_355) (by decide) ?_
                                                      refine LW_ls (ls' := [some (.ref 355), some (.int s), none, none]) rfl ?_
                                                      refine X_aload_n rfl rfl rfl rfl ?_
                                                      refine X_getI (v := (8 : Int32)) rfl rfl rfl ((congrFun F.1 355).trans s_355) rfl rfl ?_
                                                      refine X_if_eq (tgt := 25) rfl rfl rfl (fun q => absurd q (by decide)) (fun _ => ?_)
                                                      refine X_aload_n rfl rfl rfl rfl ?_
                                                      refine X_callV (as := []) (st := []) rfl rfl rfl (by decide) rfl (Nat.le_of_ble_eq_true rfl) (by decide) (Nat.le_of_ble_eq_true rfl) rfl ((congrFun F.1 355).trans s_355) (by decide) ?_
                                                      refine LW_ls (ls' := [some (.ref 355), none, none, none]) rfl ?_
                                                      refine X_iconst (v := (0 : Int32)) rfl rfl rfl ?_
                                                      refine X_istore_n (i := 1) (ls' := [some (.ref 355), some (.int (0 : Int32)), none, none]) rfl rfl rfl (Nat.le_of_ble_eq_true rfl) rfl ?_
                                                      refine X_iload_n rfl rfl rfl rfl ?_
                                                      refine X_aload_n rfl rfl rfl rfl ?_
                                                      refine X_getR (a := 356) rfl rfl rfl ((congrFun F.1 355).trans s_355) rfl ((congrFun (F.2.1 355 (by decide)) 0).trans r_355_0) ?_
                                                      refine X_iconst (v := (0 : Int32)) rfl rfl rfl ?_
                                                      refine X_iald (v := (0 : Int32)) rfl rfl ((congrFun F.1 356).trans s_356) (vp_in_d rfl) ((congrFun (F.2.2 356 (by decide)).1 0).trans i_356_0) ?_
                                                      refine X_icmp_ge (tgt := 83) rfl rfl rfl (fun _ => ?_) (fun q => absurd q (by decide))
                                                      refine X_iconst (v := (0 : Int32)) rfl rfl rfl ?_
                                                      refine LW_ireturn (st := []) rfl rfl rfl ?_
                                                      refine X_if_ne (tgt := 25) rfl rfl rfl (fun q => absurd q (by decide)) (fun _ => ?_)
                                                      refine X_aload_n rfl rfl rfl rfl ?_
                                                      refine X_getR (a := 356) rfl rfl rfl ((congrFun F.1 355).trans s_355) rfl ((congrFun (F.2.1 355 (by decide)) 0).trans r_355_0) ?_
                                                      refine X_iconst (v := (0 : Int32)) rfl rfl rfl ?_
                                                      refine X_iald (v := (0 : Int32)) rfl rfl ((congrFun F.1 356).trans s_356) (vp_in_d rfl) ((congrFun (F.2.2 356 (by decide)).1 0).trans i_356_0) ?_
                                                      refine X_bipush (v := (24 : Int32)) rfl rfl rfl ?_
                                                      refine X_icmp_ne (tgt := 27) rfl rfl rfl (fun _ => ?_) (fun q => absurd q (by decide))
                                                      refine X_bipush (v := (116 : Int32)) rfl rfl rfl ?_
                                                      refine X_bipush (v := (10 : Int32)) rfl rfl rfl ?_
                                                      refine X_aload_n rfl rfl rfl rfl ?_
                                                      refine X_getR (a := 356) rfl rfl rfl ((congrFun F.1 355).trans s_355) rfl ((congrFun (F.2.1 355 (by decide)) 0).trans r_355_0) ?_
                                                      refine X_iconst (v := (0 : Int32)) rfl rfl rfl ?_
                                                      refine X_iald (v := (0 : Int32)) rfl rfl ((congrFun F.1 356).trans s_356) (vp_in_d rfl) ((congrFun (F.2.2 356 (by decide)).1 0).trans i_356_0) ?_
                                                      refine X_imul (v := (0 : Int32)) rfl rfl rfl ?_
                                                      refine X_iadd (v := (116 : Int32)) rfl rfl rfl ?_
                                                      refine X_istore_n (i := 2) (ls' := [some (.ref 355), some (.int s), some (.int (116 : Int32)), none]) rfl rfl rfl (Nat.le_of_ble_eq_true rfl) rfl ?_
                                                      refine X_iconst (v := (0 : Int32)) rfl rfl rfl ?_
                                                      refine X_istore_n (i := 3) (ls' := [some (.ref 355), some (.int s), some (.int (116 : Int32)), some (.int (0 : Int32))]) rfl rfl rfl (Nat.le_of_ble_eq_true rfl) rfl ?_
                                                      refine X_iload_n rfl rfl rfl rfl ?_
                                                      refine X_bipush (v := (8 : Int32)) rfl rfl rfl ?_
                                                      refine X_icmp_ge (tgt := 80) rfl rfl rfl (fun q => absurd q (by decide)) (fun _ => ?_)
                                                      refine X_aload_n rfl rfl rfl rfl ?_
                                                      refine X_getR (a := 356) rfl rfl rfl ((congrFun F.1 355).trans s_355) rfl ((congrFun (F.2.1 355 (by decide)) 0).trans r_355_0) ?_
                                                      refine X_iload_n rfl rfl rfl rfl ?_
                                                      refine X_iload_n rfl rfl rfl rfl ?_
                                                      refine X_iadd (v := (116 : Int32)) rfl rfl rfl ?_
                                                      refine X_iload_n rfl rfl rfl rfl ?_
                                                      refine X_aload_n rfl rfl rfl rfl ?_
                                                      refine X_getI (v := (8 : Int32)) rfl rfl rfl ((congrFun F.1 355).trans s_355) rfl rfl ?_
                                                      refine X_icmp_ge (tgt := 72) rfl rfl rfl (fun q => absurd q (by decide)) (fun _ => ?_)
                                                      refine X_aload_n rfl rfl rfl rfl ?_
                                                      refine X_getR (a := 359) rfl rfl rfl ((congrFun F.1 355).trans s_355) rfl ((congrFun (F.2.1 355 (by decide)) 3).trans r_355_3) ?_
                                                      refine X_iload_n rfl rfl rfl rfl ?_
                                                      refine X_iald (v := (b0 - (97 : Int32))) rfl rfl ((congrFun F.1 359).trans s_359) (vp_in_d rfl) rfl ?_
                                                      refine LW_goto (tgt := 73) rfl rfl ?_
                                                      refine X_iast (k0 := 116) rfl rfl ((congrFun F.1 356).trans s_356) (vp_in_d rfl) rfl ?_
                                                      refine X_iinc (v := (1 : Int32)) (ls' := [some (.ref 355), some (.int s), some (.int (116 : Int32)), some (.int (1 : Int32))]) rfl rfl rfl rfl rfl ?_
                                                      refine LW_goto (tgt := 42) rfl rfl ?_
                                                      refine X_iload_n rfl rfl rfl rfl ?_
                                                      refine X_bipush (v := (8 : Int32)) rfl rfl rfl ?_
                                                      refine X_icmp_ge (tgt := 80) rfl rfl rfl (fun q => absurd q (by decide)) (fun _ => ?_)
                                                      refine X_aload_n rfl rfl rfl rfl ?_
                                                      refine X_getR (a := 356) rfl rfl rfl ((congrFun F.1 355).trans s_355) rfl ((congrFun (F.2.1 355 (by decide)) 0).trans r_355_0) ?_
                                                      refine X_iload_n rfl rfl rfl rfl ?_
                                                      refine X_iload_n rfl rfl rfl rfl ?_
                                                      refine X_iadd (v := (117 : Int32)) rfl rfl rfl ?_
                                                      refine X_iload_n rfl rfl rfl rfl ?_
                                                      refine X_aload_n rfl rfl rfl rfl ?_
                                                      refine X_getI (v := (8 : Int32)) rfl rfl rfl ((congrFun F.1 355).trans s_355) rfl rfl ?_
                                                      refine X_icmp_ge (tgt := 72) rfl rfl rfl (fun q => absurd q (by decide)) (fun _ => ?_)
                                                      refine X_aload_n rfl rfl rfl rfl ?_
                                                      refine X_getR (a := 359) rfl rfl rfl ((congrFun F.1 355).trans s_355) rfl ((congrFun (F.2.1 355 (by decide)) 3).trans r_355_3) ?_
                                                      refine X_iload_n rfl rfl rfl rfl ?_
                                                      refine X_iald (v := (b1 - (97 : Int32))) rfl rfl ((congrFun F.1 359).trans s_359) (vp_in_d rfl) rfl ?_
                                                      refine LW_goto (tgt := 73) rfl rfl ?_
                                                      refine X_iast (k0 := 117) rfl rfl ((congrFun F.1 356).trans s_356) (vp_in_d rfl) rfl ?_
                                                      refine X_iinc (v := (2 : Int32)) (ls' := [some (.ref 355), some (.int s), some (.int (116 : Int32)), some (.int (2 : Int32))]) rfl rfl rfl rfl rfl ?_
                                                      refine LW_goto (tgt := 42) rfl rfl ?_
                                                      refine X_iload_n rfl rfl rfl rfl ?_
                                                      refine X_bipush (v := (8 : Int32)) rfl rfl rfl ?_
                                                      refine X_icmp_ge (tgt := 80) rfl rfl rfl (fun q => absurd q (by decide)) (fun _ => ?_)
                                                      refine X_aload_n rfl rfl rfl rfl ?_
                                                      refine X_getR (a := 356) rfl rfl rfl ((congrFun F.1 355).trans s_355) rfl ((congrFun (F.2.1 355 (by decide)) 0).trans r_355_0) ?_
                                                      refine X_iload_n rfl rfl rfl rfl ?_
                                                      refine X_iload_n rfl rfl rfl rfl ?_
                                                      refine X_iadd (v := (118 : Int32)) rfl rfl rfl ?_
                                                      refine X_iload_n rfl rfl rfl rfl ?_
                                                      refine X_aload_n rfl rfl rfl rfl ?_
                                                      refine X_getI (v := (8 : Int32)) rfl rfl rfl ((congrFun F.1 355).trans s_355) rfl rfl ?_
                                                      refine X_icmp_ge (tgt := 72) rfl rfl rfl (fun q => absurd q (by decide)) (fun _ => ?_)
                                                      refine X_aload_n rfl rfl rfl rfl ?_
                                                      refine X_getR (a := 359) rfl rfl rfl ((congrFun F.1 355).trans s_355) rfl ((congrFun (F.2.1 355 (by decide)) 3).trans r_355_3) ?_
                                                      refine X_iload_n rfl rfl rfl rfl ?_
                                                      refine X_iald (v := (b2 - (97 : Int32))) rfl rfl ((congrFun F.1 359).trans s_359) (vp_in_d rfl) rfl ?_
                                                      refine LW_goto (tgt := 73) rfl rfl ?_
                                                      refine X_iast (k0 := 118) rfl rfl ((congrFun F.1 356).trans s_356) (vp_in_d rfl) rfl ?_
                                                      refine X_iinc (v := (3 : Int32)) (ls' := [some (.ref 355), some (.int s), some (.int (116 : Int32)), some (.int (3 : Int32))]) rfl rfl rfl rfl rfl ?_
                                                      refine LW_goto (tgt := 42) rfl rfl ?_
                                                      refine X_iload_n rfl rfl rfl rfl ?_
                                                      refine X_bipush (v := (8 : Int32)) rfl rfl rfl ?_
                                                      refine X_icmp_ge (tgt := 80) rfl rfl rfl (fun q => absurd q (by decide)) (fun _ => ?_)
                                                      refine X_aload_n rfl rfl rfl rfl ?_
                                                      refine X_getR (a := 356) rfl rfl rfl ((congrFun F.1 355).trans s_355) rfl ((congrFun (F.2.1 355 (by decide)) 0).trans r_355_0) ?_
                                                      refine X_iload_n rfl rfl rfl rfl ?_
                                                      refine X_iload_n rfl rfl rfl rfl ?_
                                                      refine X_iadd (v := (119 : Int32)) rfl rfl rfl ?_
                                                      refine X_iload_n rfl rfl rfl rfl ?_
                                                      refine X_aload_n rfl rfl rfl rfl ?_
                                                      refine X_getI (v := (8 : Int32)) rfl rfl rfl ((congrFun F.1 355).trans s_355) rfl rfl ?_
                                                      refine X_icmp_ge (tgt := 72) rfl rfl rfl (fun q => absurd q (by decide)) (fun _ => ?_)
                                                      refine X_aload_n rfl rfl rfl rfl ?_
                                                      refine X_getR (a := 359) rfl rfl rfl ((congrFun F.1 355).trans s_355) rfl ((congrFun (F.2.1 355 (by decide)) 3).trans r_355_3) ?_
                                                      refine X_iload_n rfl rfl rfl rfl ?_
                                                      refine X_iald (v := (b3 - (97 : Int32))) rfl rfl ((congrFun F.1 359).trans s_359) (vp_in_d rfl) rfl ?_
                                                      refine LW_goto (tgt := 73) rfl rfl ?_
                                                      refine X_iast (k0 := 119) rfl rfl ((congrFun F.1 356).trans s_356) (vp_in_d rfl) rfl ?_
                                                      refine X_iinc (v := (4 : Int32)) (ls' := [some (.ref 355), some (.int s), some (.int (116 : Int32)), some (.int (4 : Int32))]) rfl rfl rfl rfl rfl ?_
                                                      refine LW_goto (tgt := 42) rfl rfl ?_
                                                      refine X_iload_n rfl rfl rfl rfl ?_
                                                      refine X_bipush (v := (8 : Int32)) rfl rfl rfl ?_
                                                      refine X_icmp_ge (tgt := 80) rfl rfl rfl (fun q => absurd q (by decide)) (fun _ => ?_)
                                                      refine X_aload_n rfl rfl rfl rfl ?_
                                                      refine X_getR (a := 356) rfl rfl rfl ((congrFun F.1 355).trans s_355) rfl ((congrFun (F.2.1 355 (by decide)) 0).trans r_355_0) ?_
                                                      refine X_iload_n rfl rfl rfl rfl ?_
                                                      refine X_iload_n rfl rfl rfl rfl ?_
                                                      refine X_iadd (v := (120 : Int32)) rfl rfl rfl ?_
                                                      refine X_iload_n rfl rfl rfl rfl ?_
                                                      refine X_aload_n rfl rfl rfl rfl ?_
                                                      refine X_getI (v := (8 : Int32)) rfl rfl rfl ((congrFun F.1 355).trans s_355) rfl rfl ?_
                                                      refine X_icmp_ge (tgt := 72) rfl rfl rfl (fun q => absurd q (by decide)) (fun _ => ?_)
                                                      refine X_aload_n rfl rfl rfl rfl ?_
                                                      refine X_getR (a := 359) rfl rfl rfl ((congrFun F.1 355).trans s_355) rfl ((congrFun (F.2.1 355 (by decide)) 3).trans r_355_3) ?_
                                                      refine X_iload_n rfl rfl rfl rfl ?_
                                                      refine X_iald (v := (b4 - (97 : Int32))) rfl rfl ((congrFun F.1 359).trans s_359) (vp_in_d rfl) rfl ?_
                                                      refine LW_goto (tgt := 73) rfl rfl ?_
                                                      refine X_iast (k0 := 120) rfl rfl ((congrFun F.1 356).trans s_356) (vp_in_d rfl) rfl ?_
                                                      refine X_iinc (v := (5 : Int32)) (ls' := [some (.ref 355), some (.int s), some (.int (116 : Int32)), some (.int (5 : Int32))]) rfl rfl rfl rfl rfl ?_
                                                      refine LW_goto (tgt := 42) rfl rfl ?_
                                                      refine X_iload_n rfl rfl rfl rfl ?_
                                                      refine X_bipush (v := (8 : Int32)) rfl rfl rfl ?_
                                                      refine X_icmp_ge (tgt := 80) rfl rfl rfl (fun q => absurd q (by decide)) (fun _ => ?_)
                                                      refine X_aload_n rfl rfl rfl rfl ?_
                                                      refine X_getR (a := 356) rfl rfl rfl ((congrFun F.1 355).trans s_355) rfl ((congrFun (F.2.1 355 (by decide)) 0).trans r_355_0) ?_
                                                      refine X_iload_n rfl rfl rfl rfl ?_
                                                      refine X_iload_n rfl rfl rfl rfl ?_
                                                      refine X_iadd (v := (121 : Int32)) rfl rfl rfl ?_
                                                      refine X_iload_n rfl rfl rfl rfl ?_
                                                      refine X_aload_n rfl rfl rfl rfl ?_
                                                      refine X_getI (v := (8 : Int32)) rfl rfl rfl ((congrFun F.1 355).trans s_355) rfl rfl ?_
                                                      refine X_icmp_ge (tgt := 72) rfl rfl rfl (fun q => absurd q (by decide)) (fun _ => ?_)
                                                      refine X_aload_n rfl rfl rfl rfl ?_
                                                      refine X_getR (a := 359) rfl rfl rfl ((congrFun F.1 355).trans s_355) rfl ((congrFun (F.2.1 355 (by decide)) 3).trans r_355_3) ?_
                                                      refine X_iload_n rfl rfl rfl rfl ?_
                                                      refine X_iald (v := (b5 - (97 : Int32))) rfl rfl ((congrFun F.1 359).trans s_359) (vp_in_d rfl) rfl ?_
                                                      refine LW_goto (tgt := 73) rfl rfl ?_
                                                      refine X_iast (k0 := 121) rfl rfl ((congrFun F.1 356).trans s_356) (vp_in_d rfl) rfl ?_
                                                      refine X_iinc (v := (6 : Int32)) (ls' := [some (.ref 355), some (.int s), some (.int (116 : Int32)), some (.int (6 : Int32))]) rfl rfl rfl rfl rfl ?_
                                                      refine LW_goto (tgt := 42) rfl rfl ?_
                                                      refine X_iload_n rfl rfl rfl rfl ?_
                                                      refine X_bipush (v := (8 : Int32)) rfl rfl rfl ?_
                                                      refine X_icmp_ge (tgt := 80) rfl rfl rfl (fun q => absurd q (by decide)) (fun _ => ?_)
                                                      refine X_aload_n rfl rfl rfl rfl ?_
                                                      refine X_getR (a := 356) rfl rfl rfl ((congrFun F.1 355).trans s_355) rfl ((congrFun (F.2.1 355 (by decide)) 0).trans r_355_0) ?_
                                                      refine X_iload_n rfl rfl rfl rfl ?_
                                                      refine X_iload_n rfl rfl rfl rfl ?_
                                                      refine X_iadd (v := (122 : Int32)) rfl rfl rfl ?_
                                                      refine X_iload_n rfl rfl rfl rfl ?_
                                                      refine X_aload_n rfl rfl rfl rfl ?_
                                                      refine X_getI (v := (8 : Int32)) rfl rfl rfl ((congrFun F.1 355).trans s_355) rfl rfl ?_
                                                      refine X_icmp_ge (tgt := 72) rfl rfl rfl (fun q => absurd q (by decide)) (fun _ => ?_)
                                                      refine X_aload_n rfl rfl rfl rfl ?_
                                                      refine X_getR (a := 359) rfl rfl rfl ((congrFun F.1 355).trans s_355) rfl ((congrFun (F.2.1 355 (by decide)) 3).trans r_355_3) ?_
                                                      refine X_iload_n rfl rfl rfl rfl ?_
                                                      refine X_iald (v := (b6 - (97 : Int32))) rfl rfl ((congrFun F.1 359).trans s_359) (vp_in_d rfl) rfl ?_
                                                      refine LW_goto (tgt := 73) rfl rfl ?_
                                                      refine X_iast (k0 := 122) rfl rfl ((congrFun F.1 356).trans s_356) (vp_in_d rfl) rfl ?_
                                                      refine X_iinc (v := (7 : Int32)) (ls' := [some (.ref 355), some (.int s), some (.int (116 : Int32)), some (.int (7 : Int32))]) rfl rfl rfl rfl rfl ?_
                                                      refine LW_goto (tgt := 42) rfl rfl ?_
                                                      refine X_iload_n rfl rfl rfl rfl ?_
                                                      refine X_bipush (v := (8 : Int32)) rfl rfl rfl ?_
                                                      refine X_icmp_ge (tgt := 80) rfl rfl rfl (fun q => absurd q (by decide)) (fun _ => ?_)
                                                      refine X_aload_n rfl rfl rfl rfl ?_
                                                      refine X_getR (a := 356) rfl rfl rfl ((congrFun F.1 355).trans s_355) rfl ((congrFun (F.2.1 355 (by decide)) 0).trans r_355_0) ?_
                                                      refine X_iload_n rfl rfl rfl rfl ?_
                                                      refine X_iload_n rfl rfl rfl rfl ?_
                                                      refine X_iadd (v := (123 : Int32)) rfl rfl rfl ?_
                                                      refine X_iload_n rfl rfl rfl rfl ?_
                                                      refine X_aload_n rfl rfl rfl rfl ?_
                                                      refine X_getI (v := (8 : Int32)) rfl rfl rfl ((congrFun F.1 355).trans s_355) rfl rfl ?_
                                                      refine X_icmp_ge (tgt := 72) rfl rfl rfl (fun q => absurd q (by decide)) (fun _ => ?_)
                                                      refine X_aload_n rfl rfl rfl rfl ?_
                                                      refine X_getR (a := 359) rfl rfl rfl ((congrFun F.1 355).trans s_355) rfl ((congrFun (F.2.1 355 (by decide)) 3).trans r_355_3) ?_
                                                      refine X_iload_n rfl rfl rfl rfl ?_
                                                      refine X_iald (v := (b7 - (97 : Int32))) rfl rfl ((congrFun F.1 359).trans s_359) (vp_in_d rfl) rfl ?_
                                                      refine LW_goto (tgt := 73) rfl rfl ?_
                                                      refine X_iast (k0 := 123) rfl rfl ((congrFun F.1 356).trans s_356) (vp_in_d rfl) rfl ?_
                                                      refine X_iinc (v := (8 : Int32)) (ls' := [some (.ref 355), some (.int s), some (.int (116 : Int32)), some (.int (8 : Int32))]) rfl rfl rfl rfl rfl ?_
                                                      refine LW_goto (tgt := 42) rfl rfl ?_
                                                      refine X_iload_n rfl rfl rfl rfl ?_
                                                      refine X_bipush (v := (8 : Int32)) rfl rfl rfl ?_
                                                      refine X_icmp_ge (tgt := 80) rfl rfl rfl (fun _ => ?_) (fun q => absurd q (by decide))
                                                      refine X_aload_n rfl rfl rfl rfl ?_
                                                      refine X_getR (a := 356) rfl rfl rfl ((congrFun F.1 355).trans s_355) rfl ((congrFun (F.2.1 355 (by decide)) 0).trans r_355_0) ?_
                                                      refine X_iload_n rfl rfl rfl rfl ?_
                                                      refine X_bipush (v := (8 : Int32)) rfl rfl rfl ?_
                                                      refine X_iadd (v := (124 : Int32)) rfl rfl rfl ?_
                                                      refine X_aload_n rfl rfl rfl rfl ?_
                                                      refine X_getI (v := (8 : Int32)) rfl rfl rfl ((congrFun F.1 355).trans s_355) rfl rfl ?_
                                                      refine X_iast (k0 := 124) rfl rfl ((congrFun F.1 356).trans s_356) (vp_in_d rfl) rfl ?_
                                                      refine X_aload_n rfl rfl rfl rfl ?_
                                                      refine X_getR (a := 356) rfl rfl rfl ((congrFun F.1 355).trans s_355) rfl ((congrFun (F.2.1 355 (by decide)) 0).trans r_355_0) ?_
                                                      refine X_iload_n rfl rfl rfl rfl ?_
                                                      refine X_bipush (v := (9 : Int32)) rfl rfl rfl ?_
                                                      refine X_iadd (v := (125 : Int32)) rfl rfl rfl ?_
                                                      refine X_iload_n rfl rfl rfl rfl ?_
                                                      refine X_iast (k0 := 125) rfl rfl ((congrFun F.1 356).trans s_356) (vp_in_d rfl) rfl ?_
                                                      refine X_aload_n rfl rfl rfl rfl ?_
                                                      refine X_getR (a := 356) rfl rfl rfl ((congrFun F.1 355).trans s_355) rfl ((congrFun (F.2.1 355 (by decide)) 0).trans r_355_0) ?_
                                                      refine X_iconst (v := (0 : Int32)) rfl rfl rfl ?_
                                                      refine X_dup2 rfl rfl rfl rfl ?_
                                                      refine X_iald (v := (0 : Int32)) rfl rfl ((congrFun F.1 356).trans s_356) (vp_in_d rfl) ((congrFun (F.2.2 356 (by decide)).1 0).trans i_356_0) ?_
                                                      refine X_iconst (v := (1 : Int32)) rfl rfl rfl ?_
                                                      refine X_iadd (v := (1 : Int32)) rfl rfl rfl ?_
                                                      refine X_iast (k0 := 0) rfl rfl ((congrFun F.1 356).trans s_356) (vp_in_d rfl) rfl ?_
                                                      refine X_aload_n rfl rfl rfl rfl ?_
                                                      refine X_getR (a := 356) rfl rfl rfl ((congrFun F.1 355).trans s_355) rfl ((congrFun (F.2.1 355 (by decide)) 0).trans r_355_0) ?_
                                                      refine X_iconst (v := (0 : Int32)) rfl rfl rfl ?_
                                                      refine X_iald (v := (1 : Int32)) rfl rfl ((congrFun F.1 356).trans s_356) (vp_in_d rfl) rfl ?_
                                                      refine X_iconst (v := (1 : Int32)) rfl rfl rfl ?_
                                                      refine X_isub (v := (0 : Int32)) rfl rfl rfl ?_
                                                      refine LW_ireturn (st := []) rfl rfl rfl ?_
                                                      refine LW_ireturn (st := []) rfl rfl rfl (congrArg (fun z => some (Value.int z)) ?_)
                                                      simp only [Int32.lt_iff_toInt_lt, Int32.le_iff_toInt_le, ← Int32.toInt_inj, (show (0 : Int32).toInt = 0 from rfl), (show (9 : Int32).toInt = 9 from rfl), (show (97 : Int32).toInt = 97 from rfl), (show (122 : Int32).toInt = 122 from rfl)] at h1 h2 h3 h4 h5 h6 h7 h8 h9 h10 h11 h12 h13 h14 h15 h16 h17 h18 h19 h20 h21 h22 h23 h24 h25 h26
                                                      unfold f_wordB
                                                      rw [if_pos (by omega)]
                                                · refine X_aload_n rfl rfl rfl rfl ?_
                                                  refine X_getI (v := (7 : Int32)) rfl rfl rfl ((congrFun F.1 355).trans s_355) rfl rfl ?_
                                                  refine X_iload_n rfl rfl rfl rfl ?_
                                                  refine X_iload_n rfl rfl rfl rfl ?_
                                                  refine X_iadd (v := (7 : Int32)) rfl rfl rfl ?_
                                                  refine X_icmp_gt (tgt := 37) rfl rfl rfl (fun q => absurd q (by decide)) (fun _ => ?_)
                                                  refine LW_goto (tgt := 85) rfl rfl ?_
                                                  refine X_iinc (v := (4 : Int32)) (ls' := [some (.ref 355), some (.int c), some (.int (4 : Int32)), some (.int (4 : Int32)), some (.int b7)]) rfl rfl rfl rfl rfl ?_
                                                  refine LW_goto (tgt := 2) rfl rfl ?_
                                                  refine X_iload_n rfl rfl rfl rfl ?_
                                                  refine X_iconst (v := (4 : Int32)) rfl rfl rfl ?_
                                                  refine X_icmp_ge (tgt := 91) rfl rfl rfl (fun _ => ?_) (fun q => absurd q (by decide))
                                                  refine X_iconst (v := (1 : Int32)) rfl rfl rfl ?_
                                                  refine LW_ireturn (st := []) rfl rfl rfl ?_
                                                  refine X_if_ne (tgt := 35) rfl rfl rfl (fun _ => ?_) (fun q => absurd q (by decide))
                                                  refine X_aload_n rfl rfl rfl rfl ?_
                                                  refine X_iload_n rfl rfl rfl rfl ?_
                                                  refine X_callV (as := [.int s]) (st := []) rfl rfl rfl (by decide) rfl (Nat.le_of_ble_eq_true rfl) (by decide) (Nat.le_of_ble_eq_true rfl) rfl ((congrFun F.1 355).trans s_355) (by decide) ?_
                                                  refine LW_ls (ls' := [some (.ref 355), some (.int s), none, none]) rfl ?_
                                                  refine X_aload_n rfl rfl rfl rfl ?_
                                                  refine X_getI (v := (7 : Int32)) rfl rfl rfl ((congrFun F.1 355).trans s_355) rfl rfl ?_
                                                  refine X_if_eq (tgt := 25) rfl rfl rfl (fun q => absurd q (by decide)) (fun _ => ?_)
                                                  refine X_aload_n rfl rfl rfl rfl ?_
                                                  refine X_callV (as := []) (st := []) rfl rfl rfl (by decide) rfl (Nat.le_of_ble_eq_true rfl) (by decide) (Nat.le_of_ble_eq_true rfl) rfl ((congrFun F.1 355).trans s_355) (by decide) ?_
                                                  refine LW_ls (ls' := [some (.ref 355), none, none, none]) rfl ?_
                                                  refine X_iconst (v := (0 : Int32)) rfl rfl rfl ?_
                                                  refine X_istore_n (i := 1) (ls' := [some (.ref 355), some (.int (0 : Int32)), none, none]) rfl rfl rfl (Nat.le_of_ble_eq_true rfl) rfl ?_
                                                  refine X_iload_n rfl rfl rfl rfl ?_
                                                  refine X_aload_n rfl rfl rfl rfl ?_
                                                  refine X_getR (a := 356) rfl rfl rfl ((congrFun F.1 355).trans s_355) rfl ((congrFun (F.2.1 355 (by decide)) 0).trans r_355_0) ?_
                                                  refine X_iconst (v := (0 : Int32)) rfl rfl rfl ?_
                                                  refine X_iald (v := (0 : Int32)) rfl rfl ((congrFun F.1 356).trans s_356) (vp_in_d rfl) ((congrFun (F.2.2 356 (by decide)).1 0).trans i_356_0) ?_
                                                  refine X_icmp_ge (tgt := 83) rfl rfl rfl (fun _ => ?_) (fun q => absurd q (by decide))
                                                  refine X_iconst (v := (0 : Int32)) rfl rfl rfl ?_
                                                  refine LW_ireturn (st := []) rfl rfl rfl ?_
                                                  refine X_if_ne (tgt := 25) rfl rfl rfl (fun q => absurd q (by decide)) (fun _ => ?_)
                                                  refine X_aload_n rfl rfl rfl rfl ?_
                                                  refine X_getR (a := 356) rfl rfl rfl ((congrFun F.1 355).trans s_355) rfl ((congrFun (F.2.1 355 (by decide)) 0).trans r_355_0) ?_
                                                  refine X_iconst (v := (0 : Int32)) rfl rfl rfl ?_
                                                  refine X_iald (v := (0 : Int32)) rfl rfl ((congrFun F.1 356).trans s_356) (vp_in_d rfl) ((congrFun (F.2.2 356 (by decide)).1 0).trans i_356_0) ?_
                                                  refine X_bipush (v := (24 : Int32)) rfl rfl rfl ?_
                                                  refine X_icmp_ne (tgt := 27) rfl rfl rfl (fun _ => ?_) (fun q => absurd q (by decide))
                                                  refine X_bipush (v := (116 : Int32)) rfl rfl rfl ?_
                                                  refine X_bipush (v := (10 : Int32)) rfl rfl rfl ?_
                                                  refine X_aload_n rfl rfl rfl rfl ?_
                                                  refine X_getR (a := 356) rfl rfl rfl ((congrFun F.1 355).trans s_355) rfl ((congrFun (F.2.1 355 (by decide)) 0).trans r_355_0) ?_
                                                  refine X_iconst (v := (0 : Int32)) rfl rfl rfl ?_
                                                  refine X_iald (v := (0 : Int32)) rfl rfl ((congrFun F.1 356).trans s_356) (vp_in_d rfl) ((congrFun (F.2.2 356 (by decide)).1 0).trans i_356_0) ?_
                                                  refine X_imul (v := (0 : Int32)) rfl rfl rfl ?_
                                                  refine X_iadd (v := (116 : Int32)) rfl rfl rfl ?_
                                                  refine X_istore_n (i := 2) (ls' := [some (.ref 355), some (.int s), some (.int (116 : Int32)), none]) rfl rfl rfl (Nat.le_of_ble_eq_true rfl) rfl ?_
                                                  refine X_iconst (v := (0 : Int32)) rfl rfl rfl ?_
                                                  refine X_istore_n (i := 3) (ls' := [some (.ref 355), some (.int s), some (.int (116 : Int32)), some (.int (0 : Int32))]) rfl rfl rfl (Nat.le_of_ble_eq_true rfl) rfl ?_
                                                  refine X_iload_n rfl rfl rfl rfl ?_
                                                  refine X_bipush (v := (8 : Int32)) rfl rfl rfl ?_
                                                  refine X_icmp_ge (tgt := 80) rfl rfl rfl (fun q => absurd q (by decide)) (fun _ => ?_)
                                                  refine X_aload_n rfl rfl rfl rfl ?_
                                                  refine X_getR (a := 356) rfl rfl rfl ((congrFun F.1 355).trans s_355) rfl ((congrFun (F.2.1 355 (by decide)) 0).trans r_355_0) ?_
                                                  refine X_iload_n rfl rfl rfl rfl ?_
                                                  refine X_iload_n rfl rfl rfl rfl ?_
                                                  refine X_iadd (v := (116 : Int32)) rfl rfl rfl ?_
                                                  refine X_iload_n rfl rfl rfl rfl ?_
                                                  refine X_aload_n rfl rfl rfl rfl ?_
                                                  refine X_getI (v := (7 : Int32)) rfl rfl rfl ((congrFun F.1 355).trans s_355) rfl rfl ?_
                                                  refine X_icmp_ge (tgt := 72) rfl rfl rfl (fun q => absurd q (by decide)) (fun _ => ?_)
                                                  refine X_aload_n rfl rfl rfl rfl ?_
                                                  refine X_getR (a := 359) rfl rfl rfl ((congrFun F.1 355).trans s_355) rfl ((congrFun (F.2.1 355 (by decide)) 3).trans r_355_3) ?_
                                                  refine X_iload_n rfl rfl rfl rfl ?_
                                                  refine X_iald (v := (b0 - (97 : Int32))) rfl rfl ((congrFun F.1 359).trans s_359) (vp_in_d rfl) rfl ?_
                                                  refine LW_goto (tgt := 73) rfl rfl ?_
                                                  refine X_iast (k0 := 116) rfl rfl ((congrFun F.1 356).trans s_356) (vp_in_d rfl) rfl ?_
                                                  refine X_iinc (v := (1 : Int32)) (ls' := [some (.ref 355), some (.int s), some (.int (116 : Int32)), some (.int (1 : Int32))]) rfl rfl rfl rfl rfl ?_
                                                  refine LW_goto (tgt := 42) rfl rfl ?_
                                                  refine X_iload_n rfl rfl rfl rfl ?_
                                                  refine X_bipush (v := (8 : Int32)) rfl rfl rfl ?_
                                                  refine X_icmp_ge (tgt := 80) rfl rfl rfl (fun q => absurd q (by decide)) (fun _ => ?_)
                                                  refine X_aload_n rfl rfl rfl rfl ?_
                                                  refine X_getR (a := 356) rfl rfl rfl ((congrFun F.1 355).trans s_355) rfl ((congrFun (F.2.1 355 (by decide)) 0).trans r_355_0) ?_
                                                  refine X_iload_n rfl rfl rfl rfl ?_
                                                  refine X_iload_n rfl rfl rfl rfl ?_
                                                  refine X_iadd (v := (117 : Int32)) rfl rfl rfl ?_
                                                  refine X_iload_n rfl rfl rfl rfl ?_
                                                  refine X_aload_n rfl rfl rfl rfl ?_
                                                  refine X_getI (v := (7 : Int32)) rfl rfl rfl ((congrFun F.1 355).trans s_355) rfl rfl ?_
                                                  refine X_icmp_ge (tgt := 72) rfl rfl rfl (fun q => absurd q (by decide)) (fun _ => ?_)
                                                  refine X_aload_n rfl rfl rfl rfl ?_
                                                  refine X_getR (a := 359) rfl rfl rfl ((congrFun F.1 355).trans s_355) rfl ((congrFun (F.2.1 355 (by decide)) 3).trans r_355_3) ?_
                                                  refine X_iload_n rfl rfl rfl rfl ?_
                                                  refine X_iald (v := (b1 - (97 : Int32))) rfl rfl ((congrFun F.1 359).trans s_359) (vp_in_d rfl) rfl ?_
                                                  refine LW_goto (tgt := 73) rfl rfl ?_
                                                  refine X_iast (k0 := 117) rfl rfl ((congrFun F.1 356).trans s_356) (vp_in_d rfl) rfl ?_
                                                  refine X_iinc (v := (2 : Int32)) (ls' := [some (.ref 355), some (.int s), some (.int (116 : Int32)), some (.int (2 : Int32))]) rfl rfl rfl rfl rfl ?_
                                                  refine LW_goto (tgt := 42) rfl rfl ?_
                                                  refine X_iload_n rfl rfl rfl rfl ?_
                                                  refine X_bipush (v := (8 : Int32)) rfl rfl rfl ?_
                                                  refine X_icmp_ge (tgt := 80) rfl rfl rfl (fun q => absurd q (by decide)) (fun _ => ?_)
                                                  refine X_aload_n rfl rfl rfl rfl ?_
                                                  refine X_getR (a := 356) rfl rfl rfl ((congrFun F.1 355).trans s_355) rfl ((congrFun (F.2.1 355 (by decide)) 0).trans r_355_0) ?_
                                                  refine X_iload_n rfl rfl rfl rfl ?_
                                                  refine X_iload_n rfl rfl rfl rfl ?_
                                                  refine X_iadd (v := (118 : Int32)) rfl rfl rfl ?_
                                                  refine X_iload_n rfl rfl rfl rfl ?_
                                                  refine X_aload_n rfl rfl rfl rfl ?_
                                                  refine X_getI (v := (7 : Int32)) rfl rfl rfl ((congrFun F.1 355).trans s_355) rfl rfl ?_
                                                  refine X_icmp_ge (tgt := 72) rfl rfl rfl (fun q => absurd q (by decide)) (fun _ => ?_)
                                                  refine X_aload_n rfl rfl rfl rfl ?_
                                                  refine X_getR (a := 359) rfl rfl rfl ((congrFun F.1 355).trans s_355) rfl ((congrFun (F.2.1 355 (by decide)) 3).trans r_355_3) ?_
                                                  refine X_iload_n rfl rfl rfl rfl ?_
                                                  refine X_iald (v := (b2 - (97 : Int32))) rfl rfl ((congrFun F.1 359).trans s_359) (vp_in_d rfl) rfl ?_
                                                  refine LW_goto (tgt := 73) rfl rfl ?_
                                                  refine X_iast (k0 := 118) rfl rfl ((congrFun F.1 356).trans s_356) (vp_in_d rfl) rfl ?_
                                                  refine X_iinc (v := (3 : Int32)) (ls' := [some (.ref 355), some (.int s), some (.int (116 : Int32)), some (.int (3 : Int32))]) rfl rfl rfl rfl rfl ?_
                                                  refine LW_goto (tgt := 42) rfl rfl ?_
                                                  refine X_iload_n rfl rfl rfl rfl ?_
                                                  refine X_bipush (v := (8 : Int32)) rfl rfl rfl ?_
                                                  refine X_icmp_ge (tgt := 80) rfl rfl rfl (fun q => absurd q (by decide)) (fun _ => ?_)
                                                  refine X_aload_n rfl rfl rfl rfl ?_
                                                  refine X_getR (a := 356) rfl rfl rfl ((congrFun F.1 355).trans s_355) rfl ((congrFun (F.2.1 355 (by decide)) 0).trans r_355_0) ?_
                                                  refine X_iload_n rfl rfl rfl rfl ?_
                                                  refine X_iload_n rfl rfl rfl rfl ?_
                                                  refine X_iadd (v := (119 : Int32)) rfl rfl rfl ?_
                                                  refine X_iload_n rfl rfl rfl rfl ?_
                                                  refine X_aload_n rfl rfl rfl rfl ?_
                                                  refine X_getI (v := (7 : Int32)) rfl rfl rfl ((congrFun F.1 355).trans s_355) rfl rfl ?_
                                                  refine X_icmp_ge (tgt := 72) rfl rfl rfl (fun q => absurd q (by decide)) (fun _ => ?_)
                                                  refine X_aload_n rfl rfl rfl rfl ?_
                                                  refine X_getR (a := 359) rfl rfl rfl ((congrFun F.1 355).trans s_355) rfl ((congrFun (F.2.1 355 (by decide)) 3).trans r_355_3) ?_
                                                  refine X_iload_n rfl rfl rfl rfl ?_
                                                  refine X_iald (v := (b3 - (97 : Int32))) rfl rfl ((congrFun F.1 359).trans s_359) (vp_in_d rfl) rfl ?_
                                                  refine LW_goto (tgt := 73) rfl rfl ?_
                                                  refine X_iast (k0 := 119) rfl rfl ((congrFun F.1 356).trans s_356) (vp_in_d rfl) rfl ?_
                                                  refine X_iinc (v := (4 : Int32)) (ls' := [some (.ref 355), some (.int s), some (.int (116 : Int32)), some (.int (4 : Int32))]) rfl rfl rfl rfl rfl ?_
                                                  refine LW_goto (tgt := 42) rfl rfl ?_
                                                  refine X_iload_n rfl rfl rfl rfl ?_
                                                  refine X_bipush (v := (8 : Int32)) rfl rfl rfl ?_
                                                  refine X_icmp_ge (tgt := 80) rfl rfl rfl (fun q => absurd q (by decide)) (fun _ => ?_)
                                                  refine X_aload_n rfl rfl rfl rfl ?_
                                                  refine X_getR (a := 356) rfl rfl rfl ((congrFun F.1 355).trans s_355) rfl ((congrFun (F.2.1 355 (by decide)) 0).trans r_355_0) ?_
                                                  refine X_iload_n rfl rfl rfl rfl ?_
                                                  refine X_iload_n rfl rfl rfl rfl ?_
                                                  refine X_iadd (v := (120 : Int32)) rfl rfl rfl ?_
                                                  refine X_iload_n rfl rfl rfl rfl ?_
                                                  refine X_aload_n rfl rfl rfl rfl ?_
                                                  refine X_getI (v := (7 : Int32)) rfl rfl rfl ((congrFun F.1 355).trans s_355) rfl rfl ?_
                                                  refine X_icmp_ge (tgt := 72) rfl rfl rfl (fun q => absurd q (by decide)) (fun _ => ?_)
                                                  refine X_aload_n rfl rfl rfl rfl ?_
                                                  refine X_getR (a := 359) rfl rfl rfl ((congrFun F.1 355).trans s_355) rfl ((congrFun (F.2.1 355 (by decide)) 3).trans r_355_3) ?_
                                                  refine X_iload_n rfl rfl rfl rfl ?_
                                                  refine X_iald (v := (b4 - (97 : Int32))) rfl rfl ((congrFun F.1 359).trans s_359) (vp_in_d rfl) rfl ?_
                                                  refine LW_goto (tgt := 73) rfl rfl ?_
                                                  refine X_iast (k0 := 120) rfl rfl ((congrFun F.1 356).trans s_356) (vp_in_d rfl) rfl ?_
                                                  refine X_iinc (v := (5 : Int32)) (ls' := [some (.ref 355), some (.int s), some (.int (116 : Int32)), some (.int (5 : Int32))]) rfl rfl rfl rfl rfl ?_
                                                  refine LW_goto (tgt := 42) rfl rfl ?_
                                                  refine X_iload_n rfl rfl rfl rfl ?_
                                                  refine X_bipush (v := (8 : Int32)) rfl rfl rfl ?_
                                                  refine X_icmp_ge (tgt := 80) rfl rfl rfl (fun q => absurd q (by decide)) (fun _ => ?_)
                                                  refine X_aload_n rfl rfl rfl rfl ?_
                                                  refine X_getR (a := 356) rfl rfl rfl ((congrFun F.1 355).trans s_355) rfl ((congrFun (F.2.1 355 (by decide)) 0).trans r_355_0) ?_
                                                  refine X_iload_n rfl rfl rfl rfl ?_
                                                  refine X_iload_n rfl rfl rfl rfl ?_
                                                  refine X_iadd (v := (121 : Int32)) rfl rfl rfl ?_
                                                  refine X_iload_n rfl rfl rfl rfl ?_
                                                  refine X_aload_n rfl rfl rfl rfl ?_
                                                  refine X_getI (v := (7 : Int32)) rfl rfl rfl ((congrFun F.1 355).trans s_355) rfl rfl ?_
                                                  refine X_icmp_ge (tgt := 72) rfl rfl rfl (fun q => absurd q (by decide)) (fun _ => ?_)
                                                  refine X_aload_n rfl rfl rfl rfl ?_
                                                  refine X_getR (a := 359) rfl rfl rfl ((congrFun F.1 355).trans s_355) rfl ((congrFun (F.2.1 355 (by decide)) 3).trans r_355_3) ?_
                                                  refine X_iload_n rfl rfl rfl rfl ?_
                                                  refine X_iald (v := (b5 - (97 : Int32))) rfl rfl ((congrFun F.1 359).trans s_359) (vp_in_d rfl) rfl ?_
                                                  refine LW_goto (tgt := 73) rfl rfl ?_
                                                  refine X_iast (k0 := 121) rfl rfl ((congrFun F.1 356).trans s_356) (vp_in_d rfl) rfl ?_
                                                  refine X_iinc (v := (6 : Int32)) (ls' := [some (.ref 355), some (.int s), some (.int (116 : Int32)), some (.int (6 : Int32))]) rfl rfl rfl rfl rfl ?_
                                                  refine LW_goto (tgt := 42) rfl rfl ?_
                                                  refine X_iload_n rfl rfl rfl rfl ?_
                                                  refine X_bipush (v := (8 : Int32)) rfl rfl rfl ?_
                                                  refine X_icmp_ge (tgt := 80) rfl rfl rfl (fun q => absurd q (by decide)) (fun _ => ?_)
                                                  refine X_aload_n rfl rfl rfl rfl ?_
                                                  refine X_getR (a := 356) rfl rfl rfl ((congrFun F.1 355).trans s_355) rfl ((congrFun (F.2.1 355 (by decide)) 0).trans r_355_0) ?_
                                                  refine X_iload_n rfl rfl rfl rfl ?_
                                                  refine X_iload_n rfl rfl rfl rfl ?_
                                                  refine X_iadd (v := (122 : Int32)) rfl rfl rfl ?_
                                                  refine X_iload_n rfl rfl rfl rfl ?_
                                                  refine X_aload_n rfl rfl rfl rfl ?_
                                                  refine X_getI (v := (7 : Int32)) rfl rfl rfl ((congrFun F.1 355).trans s_355) rfl rfl ?_
                                                  refine X_icmp_ge (tgt := 72) rfl rfl rfl (fun q => absurd q (by decide)) (fun _ => ?_)
                                                  refine X_aload_n rfl rfl rfl rfl ?_
                                                  refine X_getR (a := 359) rfl rfl rfl ((congrFun F.1 355).trans s_355) rfl ((congrFun (F.2.1 355 (by decide)) 3).trans r_355_3) ?_
                                                  refine X_iload_n rfl rfl rfl rfl ?_
                                                  refine X_iald (v := (b6 - (97 : Int32))) rfl rfl ((congrFun F.1 359).trans s_359) (vp_in_d rfl) rfl ?_
                                                  refine LW_goto (tgt := 73) rfl rfl ?_
                                                  refine X_iast (k0 := 122) rfl rfl ((congrFun F.1 356).trans s_356) (vp_in_d rfl) rfl ?_
                                                  refine X_iinc (v := (7 : Int32)) (ls' := [some (.ref 355), some (.int s), some (.int (116 : Int32)), some (.int (7 : Int32))]) rfl rfl rfl rfl rfl ?_
                                                  refine LW_goto (tgt := 42) rfl rfl ?_
                                                  refine X_iload_n rfl rfl rfl rfl ?_
                                                  refine X_bipush (v := (8 : Int32)) rfl rfl rfl ?_
                                                  refine X_icmp_ge (tgt := 80) rfl rfl rfl (fun q => absurd q (by decide)) (fun _ => ?_)
                                                  refine X_aload_n rfl rfl rfl rfl ?_
                                                  refine X_getR (a := 356) rfl rfl rfl ((congrFun F.1 355).trans s_355) rfl ((congrFun (F.2.1 355 (by decide)) 0).trans r_355_0) ?_
                                                  refine X_iload_n rfl rfl rfl rfl ?_
                                                  refine X_iload_n rfl rfl rfl rfl ?_
                                                  refine X_iadd (v := (123 : Int32)) rfl rfl rfl ?_
                                                  refine X_iload_n rfl rfl rfl rfl ?_
                                                  refine X_aload_n rfl rfl rfl rfl ?_
                                                  refine X_getI (v := (7 : Int32)) rfl rfl rfl ((congrFun F.1 355).trans s_355) rfl rfl ?_
                                                  refine X_icmp_ge (tgt := 72) rfl rfl rfl (fun _ => ?_) (fun q => absurd q (by decide))
                                                  refine X_iconst (v := (0 : Int32)) rfl rfl rfl ?_
                                                  refine X_iast (k0 := 123) rfl rfl ((congrFun F.1 356).trans s_356) (vp_in_d rfl) rfl ?_
                                                  refine X_iinc (v := (8 : Int32)) (ls' := [some (.ref 355), some (.int s), some (.int (116 : Int32)), some (.int (8 : Int32))]) rfl rfl rfl rfl rfl ?_
                                                  refine LW_goto (tgt := 42) rfl rfl ?_
                                                  refine X_iload_n rfl rfl rfl rfl ?_
                                                  refine X_bipush (v := (8 : Int32)) rfl rfl rfl ?_
                                                  refine X_icmp_ge (tgt := 80) rfl rfl rfl (fun _ => ?_) (fun q => absurd q (by decide))
                                                  refine X_aload_n rfl rfl rfl rfl ?_
                                                  refine X_getR (a := 356) rfl rfl rfl ((congrFun F.1 355).trans s_355) rfl ((congrFun (F.2.1 355 (by decide)) 0).trans r_355_0) ?_
                                                  refine X_iload_n rfl rfl rfl rfl ?_
                                                  refine X_bipush (v := (8 : Int32)) rfl rfl rfl ?_
                                                  refine X_iadd (v := (124 : Int32)) rfl rfl rfl ?_
                                                  refine X_aload_n rfl rfl rfl rfl ?_
                                                  refine X_getI (v := (7 : Int32)) rfl rfl rfl ((congrFun F.1 355).trans s_355) rfl rfl ?_
                                                  refine X_iast (k0 := 124) rfl rfl ((congrFun F.1 356).trans s_356) (vp_in_d rfl) rfl ?_
                                                  refine X_aload_n rfl rfl rfl rfl ?_
                                                  refine X_getR (a := 356) rfl rfl rfl ((congrFun F.1 355).trans s_355) rfl ((congrFun (F.2.1 355 (by decide)) 0).trans r_355_0) ?_
                                                  refine X_iload_n rfl rfl rfl rfl ?_
                                                  refine X_bipush (v := (9 : Int32)) rfl rfl rfl ?_
                                                  refine X_iadd (v := (125 : Int32)) rfl rfl rfl ?_
                                                  refine X_iload_n rfl rfl rfl rfl ?_
                                                  refine X_iast (k0 := 125) rfl rfl ((congrFun F.1 356).trans s_356) (vp_in_d rfl) rfl ?_
                                                  refine X_aload_n rfl rfl rfl rfl ?_
                                                  refine X_getR (a := 356) rfl rfl rfl ((congrFun F.1 355).trans s_355) rfl ((congrFun (F.2.1 355 (by decide)) 0).trans r_355_0) ?_
                                                  refine X_iconst (v := (0 : Int32)) rfl rfl rfl ?_
                                                  refine X_dup2 rfl rfl rfl rfl ?_
                                                  refine X_iald (v := (0 : Int32)) rfl rfl ((congrFun F.1 356).trans s_356) (vp_in_d rfl) ((congrFun (F.2.2 356 (by decide)).1 0).trans i_356_0) ?_
                                                  refine X_iconst (v := (1 : Int32)) rfl rfl rfl ?_
                                                  refine X_iadd (v := (1 : Int32)) rfl rfl rfl ?_
                                                  refine X_iast (k0 := 0) rfl rfl ((congrFun F.1 356).trans s_356) (vp_in_d rfl) rfl ?_
                                                  refine X_aload_n rfl rfl rfl rfl ?_
                                                  refine X_getR (a := 356) rfl rfl rfl ((congrFun F.1 355).trans s_355) rfl ((congrFun (F.2.1 355 (by decide)) 0).trans r_355_0) ?_
                                                  refine X_iconst (v := (0 : Int32)) rfl rfl rfl ?_
                                                  refine X_iald (v := (1 : Int32)) rfl rfl ((congrFun F.1 356).trans s_356) (vp_in_d rfl) rfl ?_
                                                  refine X_iconst (v := (1 : Int32)) rfl rfl rfl ?_
                                                  refine X_isub (v := (0 : Int32)) rfl rfl rfl ?_
                                                  refine LW_ireturn (st := []) rfl rfl rfl ?_
                                                  refine LW_ireturn (st := []) rfl rfl rfl (congrArg (fun z => some (Value.int z)) ?_)
                                                  simp only [Int32.lt_iff_toInt_lt, Int32.le_iff_toInt_le, ← Int32.toInt_inj, (show (0 : Int32).toInt = 0 from rfl), (show (9 : Int32).toInt = 9 from rfl), (show (97 : Int32).toInt = 97 from rfl), (show (122 : Int32).toInt = 122 from rfl)] at h1 h2 h3 h4 h5 h6 h7 h8 h9 h10 h11 h12 h13 h14 h15 h16 h17 h18 h19 h20 h21 h22 h23 h24
                                                  unfold f_wordB
                                                  rw [if_pos (by omega)]
                                          · refine X_aload_n rfl rfl rfl rfl ?_
                                            refine X_getI (v := (6 : Int32)) rfl rfl rfl ((congrFun F.1 355).trans s_355) rfl rfl ?_
                                            refine X_iload_n rfl rfl rfl rfl ?_
                                            refine X_iload_n rfl rfl rfl rfl ?_
                                            refine X_iadd (v := (6 : Int32)) rfl rfl rfl ?_
                                            refine X_icmp_gt (tgt := 37) rfl rfl rfl (fun q => absurd q (by decide)) (fun _ => ?_)
                                            refine LW_goto (tgt := 85) rfl rfl ?_
                                            refine X_iinc (v := (3 : Int32)) (ls' := [some (.ref 355), some (.int c), some (.int (4 : Int32)), some (.int (3 : Int32)), some (.int b6)]) rfl rfl rfl rfl rfl ?_
                                            refine LW_goto (tgt := 2) rfl rfl ?_
                                            refine X_iload_n rfl rfl rfl rfl ?_
                                            refine X_iconst (v := (4 : Int32)) rfl rfl rfl ?_
                                            refine X_icmp_ge (tgt := 91) rfl rfl rfl (fun q => absurd q (by decide)) (fun _ => ?_)
                                            refine X_iload_n rfl rfl rfl rfl ?_
                                            refine X_bipush (v := (8 : Int32)) rfl rfl rfl ?_
                                            refine X_iload_n rfl rfl rfl rfl ?_
                                            refine X_imul (v := (24 : Int32)) rfl rfl rfl ?_
                                            refine X_ishr (v := (c >>> ((24 : Int32) &&& 31))) rfl rfl rfl ?_
                                            refine X_sipush (v := (255 : Int32)) rfl rfl rfl ?_
                                            refine X_iand (v := b7) rfl rfl hb7 ?_
                                            refine X_istore (i := 4) (ls' := [some (.ref 355), some (.int c), some (.int (4 : Int32)), some (.int (3 : Int32)), some (.int b7)]) rfl rfl (Nat.le_of_ble_eq_true rfl) rfl ?_
                                            refine X_iload rfl rfl rfl ?_
                                            refine X_if_ne (tgt := 37) rfl rfl rfl (fun h27 => ?_) (fun h27 => ?_)
                                            · refine X_iload rfl rfl rfl ?_
                                              refine X_bipush (v := (97 : Int32)) rfl rfl rfl ?_
                                              refine X_bipush (v := (122 : Int32)) rfl rfl rfl ?_
                                              refine X_callS (as := [.int b7, .int (97 : Int32), .int (122 : Int32)]) (st := []) rfl rfl rfl (by decide) rfl (Nat.le_of_ble_eq_true rfl) (by decide) (Nat.le_of_ble_eq_true rfl) rfl ?_
                                              refine LW_ls (ls' := [some (.int b7), some (.int (97 : Int32)), some (.int (122 : Int32))]) rfl ?_
                                              refine X_iload_n rfl rfl rfl rfl ?_
                                              refine X_iload_n rfl rfl rfl rfl ?_
                                              refine X_icmp_lt (tgt := 14) rfl rfl rfl (fun h28 => ?_) (fun h28 => ?_)
                                              · refine X_iconst (v := (0 : Int32)) rfl rfl rfl ?_
                                                refine LW_ireturn (st := []) rfl rfl rfl ?_
                                                refine X_if_eq (tgt := 59) rfl rfl rfl (fun _ => ?_) (fun q => absurd q (by decide))
                                                refine X_iconst (v := (0 : Int32)) rfl rfl rfl ?_
                                                refine LW_ireturn (st := []) rfl rfl rfl ?_
                                                refine X_if_ne (tgt := 35) rfl rfl rfl (fun q => absurd q (by decide)) (fun _ => ?_)
                                                refine X_iconst (v := (-1 : Int32)) rfl rfl rfl ?_
                                                refine LW_ireturn (st := []) rfl rfl rfl (congrArg (fun z => some (Value.int z)) ?_)
                                                simp only [Int32.lt_iff_toInt_lt, Int32.le_iff_toInt_le, ← Int32.toInt_inj, (show (0 : Int32).toInt = 0 from rfl), (show (9 : Int32).toInt = 9 from rfl), (show (97 : Int32).toInt = 97 from rfl), (show (122 : Int32).toInt = 122 from rfl)] at h1 h2 h3 h4 h5 h6 h7 h8 h9 h10 h11 h12 h13 h14 h15 h16 h17 h18 h19 h20 h21 h27 h28
                                                unfold f_wordB
                                                rw [if_neg (by omega)]
                                              · refine X_iload_n rfl rfl rfl rfl ?_
                                                refine X_iload_n rfl rfl rfl rfl ?_
                                                refine X_icmp_gt (tgt := 14) rfl rfl rfl (fun h29 => ?_) (fun h29 => ?_)
                                                · refine X_iconst (v := (0 : Int32)) rfl rfl rfl ?_
                                                  refine LW_ireturn (st := []) rfl rfl rfl ?_
                                                  refine X_if_eq (tgt := 59) rfl rfl rfl (fun _ => ?_) (fun q => absurd q (by decide))
                                                  refine X_iconst (v := (0 : Int32)) rfl rfl rfl ?_
                                                  refine LW_ireturn (st := []) rfl rfl rfl ?_
                                                  refine X_if_ne (tgt := 35) rfl rfl rfl (fun q => absurd q (by decide)) (fun _ => ?_)
                                                  refine X_iconst (v := (-1 : Int32)) rfl rfl rfl ?_
                                                  refine LW_ireturn (st := []) rfl rfl rfl (congrArg (fun z => some (Value.int z)) ?_)
                                                  simp only [Int32.lt_iff_toInt_lt, Int32.le_iff_toInt_le, ← Int32.toInt_inj, (show (0 : Int32).toInt = 0 from rfl), (show (9 : Int32).toInt = 9 from rfl), (show (97 : Int32).toInt = 97 from rfl), (show (122 : Int32).toInt = 122 from rfl)] at h1 h2 h3 h4 h5 h6 h7 h8 h9 h10 h11 h12 h13 h14 h15 h16 h17 h18 h19 h20 h21 h27 h28 h29
                                                  unfold f_wordB
                                                  rw [if_neg (by omega)]
                                                · refine X_iconst (v := (1 : Int32)) rfl rfl rfl ?_
                                                  refine LW_goto (tgt := 15) rfl rfl ?_
                                                  refine LW_ireturn (st := []) rfl rfl rfl ?_
                                                  refine X_if_eq (tgt := 59) rfl rfl rfl (fun q => absurd q (by decide)) (fun _ => ?_)
                                                  refine X_aload_n rfl rfl rfl rfl ?_
                                                  refine X_getI (v := (6 : Int32)) rfl rfl rfl ((congrFun F.1 355).trans s_355) rfl rfl ?_
                                                  refine X_iload_n rfl rfl rfl rfl ?_
                                                  refine X_iload_n rfl rfl rfl rfl ?_
                                                  refine X_iadd (v := (7 : Int32)) rfl rfl rfl ?_
                                                  refine X_icmp_ge (tgt := 61) rfl rfl rfl (fun q => absurd q (by decide)) (fun _ => ?_)
                                                  refine X_iconst (v := (0 : Int32)) rfl rfl rfl ?_
                                                  refine LW_ireturn (st := []) rfl rfl rfl ?_
                                                  refine X_if_ne (tgt := 35) rfl rfl rfl (fun q => absurd q (by decide)) (fun _ => ?_)
                                                  refine X_iconst (v := (-1 : Int32)) rfl rfl rfl ?_
                                                  refine LW_ireturn (st := []) rfl rfl rfl (congrArg (fun z => some (Value.int z)) ?_)
                                                  simp only [Int32.lt_iff_toInt_lt, Int32.le_iff_toInt_le, ← Int32.toInt_inj, (show (0 : Int32).toInt = 0 from rfl), (show (9 : Int32).toInt = 9 from rfl), (show (97 : Int32).toInt = 97 from rfl), (show (122 : Int32).toInt = 122 from rfl)] at h1 h2 h3 h4 h5 h6 h7 h8 h9 h10 h11 h12 h13 h14 h15 h16 h17 h18 h19 h20 h21 h27 h28 h29
                                                  unfold f_wordB
                                                  rw [if_neg (by omega)]
                                            · refine X_aload_n rfl rfl rfl rfl ?_
                                              refine X_getI (v := (6 : Int32)) rfl rfl rfl ((congrFun F.1 355).trans s_355) rfl rfl ?_
                                              refine X_iload_n rfl rfl rfl rfl ?_
                                              refine X_iload_n rfl rfl rfl rfl ?_
                                              refine X_iadd (v := (7 : Int32)) rfl rfl rfl ?_
                                              refine X_icmp_gt (tgt := 37) rfl rfl rfl (fun q => absurd q (by decide)) (fun _ => ?_)
                                              refine LW_goto (tgt := 85) rfl rfl ?_
                                              refine X_iinc (v := (4 : Int32)) (ls' := [some (.ref 355), some (.int c), some (.int (4 : Int32)), some (.int (4 : Int32)), some (.int b7)]) rfl rfl rfl rfl rfl ?_
                                              refine LW_goto (tgt := 2) rfl rfl ?_
                                              refine X_iload_n rfl rfl rfl rfl ?_
                                              refine X_iconst (v := (4 : Int32)) rfl rfl rfl ?_
                                              refine X_icmp_ge (tgt := 91) rfl rfl rfl (fun _ => ?_) (fun q => absurd q (by decide))
                                              refine X_iconst (v := (1 : Int32)) rfl rfl rfl ?_
                                              refine LW_ireturn (st := []) rfl rfl rfl ?_
                                              refine X_if_ne (tgt := 35) rfl rfl rfl (fun _ => ?_) (fun q => absurd q (by decide))
                                              refine X_aload_n rfl rfl rfl rfl ?_
                                              refine X_iload_n rfl rfl rfl rfl ?_
                                              refine X_callV (as := [.int s]) (st := []) rfl rfl rfl (by decide) rfl (Nat.le_of_ble_eq_true rfl) (by decide) (Nat.le_of_ble_eq_true rfl) rfl ((congrFun F.1 355).trans s_355) (by decide) ?_
                                              refine LW_ls (ls' := [some (.ref 355), some (.int s), none, none]) rfl ?_
                                              refine X_aload_n rfl rfl rfl rfl ?_
                                              refine X_getI (v := (6 : Int32)) rfl rfl rfl ((congrFun F.1 355).trans s_355) rfl rfl ?_
                                              refine X_if_eq (tgt := 25) rfl rfl rfl (fun q => absurd q (by decide)) (fun _ => ?_)
                                              refine X_aload_n rfl rfl rfl rfl ?_
                                              refine X_callV (as := []) (st := []) rfl rfl rfl (by decide) rfl (Nat.le_of_ble_eq_true rfl) (by decide) (Nat.le_of_ble_eq_true rfl) rfl ((congrFun F.1 355).trans s_355) (by decide) ?_
                                              refine LW_ls (ls' := [some (.ref 355), none, none, none]) rfl ?_
                                              refine X_iconst (v := (0 : Int32)) rfl rfl rfl ?_
                                              refine X_istore_n (i := 1) (ls' := [some (.ref 355), some (.int (0 : Int32)), none, none]) rfl rfl rfl (Nat.le_of_ble_eq_true rfl) rfl ?_
                                              refine X_iload_n rfl rfl rfl rfl ?_
                                              refine X_aload_n rfl rfl rfl rfl ?_
                                              refine X_getR (a := 356) rfl rfl rfl ((congrFun F.1 355).trans s_355) rfl ((congrFun (F.2.1 355 (by decide)) 0).trans r_355_0) ?_
                                              refine X_iconst (v := (0 : Int32)) rfl rfl rfl ?_
                                              refine X_iald (v := (0 : Int32)) rfl rfl ((congrFun F.1 356).trans s_356) (vp_in_d rfl) ((congrFun (F.2.2 356 (by decide)).1 0).trans i_356_0) ?_
                                              refine X_icmp_ge (tgt := 83) rfl rfl rfl (fun _ => ?_) (fun q => absurd q (by decide))
                                              refine X_iconst (v := (0 : Int32)) rfl rfl rfl ?_
                                              refine LW_ireturn (st := []) rfl rfl rfl ?_
                                              refine X_if_ne (tgt := 25) rfl rfl rfl (fun q => absurd q (by decide)) (fun _ => ?_)
                                              refine X_aload_n rfl rfl rfl rfl ?_
                                              refine X_getR (a := 356) rfl rfl rfl ((congrFun F.1 355).trans s_355) rfl ((congrFun (F.2.1 355 (by decide)) 0).trans r_355_0) ?_
                                              refine X_iconst (v := (0 : Int32)) rfl rfl rfl ?_
                                              refine X_iald (v := (0 : Int32)) rfl rfl ((congrFun F.1 356).trans s_356) (vp_in_d rfl) ((congrFun (F.2.2 356 (by decide)).1 0).trans i_356_0) ?_
                                              refine X_bipush (v := (24 : Int32)) rfl rfl rfl ?_
                                              refine X_icmp_ne (tgt := 27) rfl rfl rfl (fun _ => ?_) (fun q => absurd q (by decide))
                                              refine X_bipush (v := (116 : Int32)) rfl rfl rfl ?_
                                              refine X_bipush (v := (10 : Int32)) rfl rfl rfl ?_
                                              refine X_aload_n rfl rfl rfl rfl ?_
                                              refine X_getR (a := 356) rfl rfl rfl ((congrFun F.1 355).trans s_355) rfl ((congrFun (F.2.1 355 (by decide)) 0).trans r_355_0) ?_
                                              refine X_iconst (v := (0 : Int32)) rfl rfl rfl ?_
                                              refine X_iald (v := (0 : Int32)) rfl rfl ((congrFun F.1 356).trans s_356) (vp_in_d rfl) ((congrFun (F.2.2 356 (by decide)).1 0).trans i_356_0) ?_
                                              refine X_imul (v := (0 : Int32)) rfl rfl rfl ?_
                                              refine X_iadd (v := (116 : Int32)) rfl rfl rfl ?_
                                              refine X_istore_n (i := 2) (ls' := [some (.ref 355), some (.int s), some (.int (116 : Int32)), none]) rfl rfl rfl (Nat.le_of_ble_eq_true rfl) rfl ?_
                                              refine X_iconst (v := (0 : Int32)) rfl rfl rfl ?_
                                              refine X_istore_n (i := 3) (ls' := [some (.ref 355), some (.int s), some (.int (116 : Int32)), some (.int (0 : Int32))]) rfl rfl rfl (Nat.le_of_ble_eq_true rfl) rfl ?_
                                              refine X_iload_n rfl rfl rfl rfl ?_
                                              refine X_bipush (v := (8 : Int32)) rfl rfl rfl ?_
                                              refine X_icmp_ge (tgt := 80) rfl rfl rfl (fun q => absurd q (by decide)) (fun _ => ?_)
                                              refine X_aload_n rfl rfl rfl rfl ?_
                                              refine X_getR (a := 356) rfl rfl rfl ((congrFun F.1 355).trans s_355) rfl ((congrFun (F.2.1 355 (by decide)) 0).trans r_355_0) ?_
                                              refine X_iload_n rfl rfl rfl rfl ?_
                                              refine X_iload_n rfl rfl rfl rfl ?_
                                              refine X_iadd (v := (116 : Int32)) rfl rfl rfl ?_
                                              refine X_iload_n rfl rfl rfl rfl ?_
                                              refine X_aload_n rfl rfl rfl rfl ?_
                                              refine X_getI (v := (6 : Int32)) rfl rfl rfl ((congrFun F.1 355).trans s_355) rfl rfl ?_
                                              refine X_icmp_ge (tgt := 72) rfl rfl rfl (fun q => absurd q (by decide)) (fun _ => ?_)
                                              refine X_aload_n rfl rfl rfl rfl ?_
                                              refine X_getR (a := 359) rfl rfl rfl ((congrFun F.1 355).trans s_355) rfl ((congrFun (F.2.1 355 (by decide)) 3).trans r_355_3) ?_
                                              refine X_iload_n rfl rfl rfl rfl ?_
                                              refine X_iald (v := (b0 - (97 : Int32))) rfl rfl ((congrFun F.1 359).trans s_359) (vp_in_d rfl) rfl ?_
                                              refine LW_goto (tgt := 73) rfl rfl ?_
                                              refine X_iast (k0 := 116) rfl rfl ((congrFun F.1 356).trans s_356) (vp_in_d rfl) rfl ?_
                                              refine X_iinc (v := (1 : Int32)) (ls' := [some (.ref 355), some (.int s), some (.int (116 : Int32)), some (.int (1 : Int32))]) rfl rfl rfl rfl rfl ?_
                                              refine LW_goto (tgt := 42) rfl rfl ?_
                                              refine X_iload_n rfl rfl rfl rfl ?_
                                              refine X_bipush (v := (8 : Int32)) rfl rfl rfl ?_
                                              refine X_icmp_ge (tgt := 80) rfl rfl rfl (fun q => absurd q (by decide)) (fun _ => ?_)
                                              refine X_aload_n rfl rfl rfl rfl ?_
                                              refine X_getR (a := 356) rfl rfl rfl ((congrFun F.1 355).trans s_355) rfl ((congrFun (F.2.1 355 (by decide)) 0).trans r_355_0) ?_
                                              refine X_iload_n rfl rfl rfl rfl ?_
                                              refine X_iload_n rfl rfl rfl rfl ?_
                                              refine X_iadd (v := (117 : Int32)) rfl rfl rfl ?_
                                              refine X_iload_n rfl rfl rfl rfl ?_
                                              refine X_aload_n rfl rfl rfl rfl ?_
                                              refine X_getI (v := (6 : Int32)) rfl rfl rfl ((congrFun F.1 355).trans s_355) rfl rfl ?_
                                              refine X_icmp_ge (tgt := 72) rfl rfl rfl (fun q => absurd q (by decide)) (fun _ => ?_)
                                              refine X_aload_n rfl rfl rfl rfl ?_
                                              refine X_getR (a := 359) rfl rfl rfl ((congrFun F.1 355).trans s_355) rfl ((congrFun (F.2.1 355 (by decide)) 3).trans r_355_3) ?_
                                              refine X_iload_n rfl rfl rfl rfl ?_
                                              refine X_iald (v := (b1 - (97 : Int32))) rfl rfl ((congrFun F.1 359).trans s_359) (vp_in_d rfl) rfl ?_
                                              refine LW_goto (tgt := 73) rfl rfl ?_
                                              refine X_iast (k0 := 117) rfl rfl ((congrFun F.1 356).trans s_356) (vp_in_d rfl) rfl ?_
                                              refine X_iinc (v := (2 : Int32)) (ls' := [some (.ref 355), some (.int s), some (.int (116 : Int32)), some (.int (2 : Int32))]) rfl rfl rfl rfl rfl ?_
                                              refine LW_goto (tgt := 42) rfl rfl ?_
                                              refine X_iload_n rfl rfl rfl rfl ?_
                                              refine X_bipush (v := (8 : Int32)) rfl rfl rfl ?_
                                              refine X_icmp_ge (tgt := 80) rfl rfl rfl (fun q => absurd q (by decide)) (fun _ => ?_)
                                              refine X_aload_n rfl rfl rfl rfl ?_
                                              refine X_getR (a := 356) rfl rfl rfl ((congrFun F.1 355).trans s_355) rfl ((congrFun (F.2.1 355 (by decide)) 0).trans r_355_0) ?_
                                              refine X_iload_n rfl rfl rfl rfl ?_
                                              refine X_iload_n rfl rfl rfl rfl ?_
                                              refine X_iadd (v := (118 : Int32)) rfl rfl rfl ?_
                                              refine X_iload_n rfl rfl rfl rfl ?_
                                              refine X_aload_n rfl rfl rfl rfl ?_
                                              refine X_getI (v := (6 : Int32)) rfl rfl rfl ((congrFun F.1 355).trans s_355) rfl rfl ?_
                                              refine X_icmp_ge (tgt := 72) rfl rfl rfl (fun q => absurd q (by decide)) (fun _ => ?_)
                                              refine X_aload_n rfl rfl rfl rfl ?_
                                              refine X_getR (a := 359) rfl rfl rfl ((congrFun F.1 355).trans s_355) rfl ((congrFun (F.2.1 355 (by decide)) 3).trans r_355_3) ?_
                                              refine X_iload_n rfl rfl rfl rfl ?_
                                              refine X_iald (v := (b2 - (97 : Int32))) rfl rfl ((congrFun F.1 359).trans s_359) (vp_in_d rfl) rfl ?_
                                              refine LW_goto (tgt := 73) rfl rfl ?_
                                              refine X_iast (k0 := 118) rfl rfl ((congrFun F.1 356).trans s_356) (vp_in_d rfl) rfl ?_
                                              refine X_iinc (v := (3 : Int32)) (ls' := [some (.ref 355), some (.int s), some (.int (116 : Int32)), some (.int (3 : Int32))]) rfl rfl rfl rfl rfl ?_
                                              refine LW_goto (tgt := 42) rfl rfl ?_
                                              refine X_iload_n rfl rfl rfl rfl ?_
                                              refine X_bipush (v := (8 : Int32)) rfl rfl rfl ?_
                                              refine X_icmp_ge (tgt := 80) rfl rfl rfl (fun q => absurd q (by decide)) (fun _ => ?_)
                                              refine X_aload_n rfl rfl rfl rfl ?_
                                              refine X_getR (a := 356) rfl rfl rfl ((congrFun F.1 355).trans s_355) rfl ((congrFun (F.2.1 355 (by decide)) 0).trans r_355_0) ?_
                                              refine X_iload_n rfl rfl rfl rfl ?_
                                              refine X_iload_n rfl rfl rfl rfl ?_
                                              refine X_iadd (v := (119 : Int32)) rfl rfl rfl ?_
                                              refine X_iload_n rfl rfl rfl rfl ?_
                                              refine X_aload_n rfl rfl rfl rfl ?_
                                              refine X_getI (v := (6 : Int32)) rfl rfl rfl ((congrFun F.1 355).trans s_355) rfl rfl ?_
                                              refine X_icmp_ge (tgt := 72) rfl rfl rfl (fun q => absurd q (by decide)) (fun _ => ?_)
                                              refine X_aload_n rfl rfl rfl rfl ?_
                                              refine X_getR (a := 359) rfl rfl rfl ((congrFun F.1 355).trans s_355) rfl ((congrFun (F.2.1 355 (by decide)) 3).trans r_355_3) ?_
                                              refine X_iload_n rfl rfl rfl rfl ?_
                                              refine X_iald (v := (b3 - (97 : Int32))) rfl rfl ((congrFun F.1 359).trans s_359) (vp_in_d rfl) rfl ?_
                                              refine LW_goto (tgt := 73) rfl rfl ?_
                                              refine X_iast (k0 := 119) rfl rfl ((congrFun F.1 356).trans s_356) (vp_in_d rfl) rfl ?_
                                              refine X_iinc (v := (4 : Int32)) (ls' := [some (.ref 355), some (.int s), some (.int (116 : Int32)), some (.int (4 : Int32))]) rfl rfl rfl rfl rfl ?_
                                              refine LW_goto (tgt := 42) rfl rfl ?_
                                              refine X_iload_n rfl rfl rfl rfl ?_
                                              refine X_bipush (v := (8 : Int32)) rfl rfl rfl ?_
                                              refine X_icmp_ge (tgt := 80) rfl rfl rfl (fun q => absurd q (by decide)) (fun _ => ?_)
                                              refine X_aload_n rfl rfl rfl rfl ?_
                                              refine X_getR (a := 356) rfl rfl rfl ((congrFun F.1 355).trans s_355) rfl ((congrFun (F.2.1 355 (by decide)) 0).trans r_355_0) ?_
                                              refine X_iload_n rfl rfl rfl rfl ?_
                                              refine X_iload_n rfl rfl rfl rfl ?_
                                              refine X_iadd (v := (120 : Int32)) rfl rfl rfl ?_
                                              refine X_iload_n rfl rfl rfl rfl ?_
                                              refine X_aload_n rfl rfl rfl rfl ?_
                                              refine X_getI (v := (6 : Int32)) rfl rfl rfl ((congrFun F.1 355).trans s_355) rfl rfl ?_
                                              refine X_icmp_ge (tgt := 72) rfl rfl rfl (fun q => absurd q (by decide)) (fun _ => ?_)
                                              refine X_aload_n rfl rfl rfl rfl ?_
                                              refine X_getR (a := 359) rfl rfl rfl ((congrFun F.1 355).trans s_355) rfl ((congrFun (F.2.1 355 (by decide)) 3).trans r_355_3) ?_
                                              refine X_iload_n rfl rfl rfl rfl ?_
                                              refine X_iald (v := (b4 - (97 : Int32))) rfl rfl ((congrFun F.1 359).trans s_359) (vp_in_d rfl) rfl ?_
                                              refine LW_goto (tgt := 73) rfl rfl ?_
                                              refine X_iast (k0 := 120) rfl rfl ((congrFun F.1 356).trans s_356) (vp_in_d rfl) rfl ?_
                                              refine X_iinc (v := (5 : Int32)) (ls' := [some (.ref 355), some (.int s), some (.int (116 : Int32)), some (.int (5 : Int32))]) rfl rfl rfl rfl rfl ?_
                                              refine LW_goto (tgt := 42) rfl rfl ?_
                                              refine X_iload_n rfl rfl rfl rfl ?_
                                              refine X_bipush (v := (8 : Int32)) rfl rfl rfl ?_
                                              refine X_icmp_ge (tgt := 80) rfl rfl rfl (fun q => absurd q (by decide)) (fun _ => ?_)
                                              refine X_aload_n rfl rfl rfl rfl ?_
                                              refine X_getR (a := 356) rfl rfl rfl ((congrFun F.1 355).trans s_355) rfl ((congrFun (F.2.1 355 (by decide)) 0).trans r_355_0) ?_
                                              refine X_iload_n rfl rfl rfl rfl ?_
                                              refine X_iload_n rfl rfl rfl rfl ?_
                                              refine X_iadd (v := (121 : Int32)) rfl rfl rfl ?_
                                              refine X_iload_n rfl rfl rfl rfl ?_
                                              refine X_aload_n rfl rfl rfl rfl ?_
                                              refine X_getI (v := (6 : Int32)) rfl rfl rfl ((congrFun F.1 355).trans s_355) rfl rfl ?_
                                              refine X_icmp_ge (tgt := 72) rfl rfl rfl (fun q => absurd q (by decide)) (fun _ => ?_)
                                              refine X_aload_n rfl rfl rfl rfl ?_
                                              refine X_getR (a := 359) rfl rfl rfl ((congrFun F.1 355).trans s_355) rfl ((congrFun (F.2.1 355 (by decide)) 3).trans r_355_3) ?_
                                              refine X_iload_n rfl rfl rfl rfl ?_
                                              refine X_iald (v := (b5 - (97 : Int32))) rfl rfl ((congrFun F.1 359).trans s_359) (vp_in_d rfl) rfl ?_
                                              refine LW_goto (tgt := 73) rfl rfl ?_
                                              refine X_iast (k0 := 121) rfl rfl ((congrFun F.1 356).trans s_356) (vp_in_d rfl) rfl ?_
                                              refine X_iinc (v := (6 : Int32)) (ls' := [some (.ref 355), some (.int s), some (.int (116 : Int32)), some (.int (6 : Int32))]) rfl rfl rfl rfl rfl ?_
                                              refine LW_goto (tgt := 42) rfl rfl ?_
                                              refine X_iload_n rfl rfl rfl rfl ?_
                                              refine X_bipush (v := (8 : Int32)) rfl rfl rfl ?_
                                              refine X_icmp_ge (tgt := 80) rfl rfl rfl (fun q => absurd q (by decide)) (fun _ => ?_)
                                              refine X_aload_n rfl rfl rfl rfl ?_
                                              refine X_getR (a := 356) rfl rfl rfl ((congrFun F.1 355).trans s_355) rfl ((congrFun (F.2.1 355 (by decide)) 0).trans r_355_0) ?_
                                              refine X_iload_n rfl rfl rfl rfl ?_
                                              refine X_iload_n rfl rfl rfl rfl ?_
                                              refine X_iadd (v := (122 : Int32)) rfl rfl rfl ?_
                                              refine X_iload_n rfl rfl rfl rfl ?_
                                              refine X_aload_n rfl rfl rfl rfl ?_
                                              refine X_getI (v := (6 : Int32)) rfl rfl rfl ((congrFun F.1 355).trans s_355) rfl rfl ?_
                                              refine X_icmp_ge (tgt := 72) rfl rfl rfl (fun _ => ?_) (fun q => absurd q (by decide))
                                              refine X_iconst (v := (0 : Int32)) rfl rfl rfl ?_
                                              refine X_iast (k0 := 122) rfl rfl ((congrFun F.1 356).trans s_356) (vp_in_d rfl) rfl ?_
                                              refine X_iinc (v := (7 : Int32)) (ls' := [some (.ref 355), some (.int s), some (.int (116 : Int32)), some (.int (7 : Int32))]) rfl rfl rfl rfl rfl ?_
                                              refine LW_goto (tgt := 42) rfl rfl ?_
                                              refine X_iload_n rfl rfl rfl rfl ?_
                                              refine X_bipush (v := (8 : Int32)) rfl rfl rfl ?_
                                              refine X_icmp_ge (tgt := 80) rfl rfl rfl (fun q => absurd q (by decide)) (fun _ => ?_)
                                              refine X_aload_n rfl rfl rfl rfl ?_
                                              refine X_getR (a := 356) rfl rfl rfl ((congrFun F.1 355).trans s_355) rfl ((congrFun (F.2.1 355 (by decide)) 0).trans r_355_0) ?_
                                              refine X_iload_n rfl rfl rfl rfl ?_
                                              refine X_iload_n rfl rfl rfl rfl ?_
                                              refine X_iadd (v := (123 : Int32)) rfl rfl rfl ?_
                                              refine X_iload_n rfl rfl rfl rfl ?_
                                              refine X_aload_n rfl rfl rfl rfl ?_
                                              refine X_getI (v := (6 : Int32)) rfl rfl rfl ((congrFun F.1 355).trans s_355) rfl rfl ?_
                                              refine X_icmp_ge (tgt := 72) rfl rfl rfl (fun _ => ?_) (fun q => absurd q (by decide))
                                              refine X_iconst (v := (0 : Int32)) rfl rfl rfl ?_
                                              refine X_iast (k0 := 123) rfl rfl ((congrFun F.1 356).trans s_356) (vp_in_d rfl) rfl ?_
                                              refine X_iinc (v := (8 : Int32)) (ls' := [some (.ref 355), some (.int s), some (.int (116 : Int32)), some (.int (8 : Int32))]) rfl rfl rfl rfl rfl ?_
                                              refine LW_goto (tgt := 42) rfl rfl ?_
                                              refine X_iload_n rfl rfl rfl rfl ?_
                                              refine X_bipush (v := (8 : Int32)) rfl rfl rfl ?_
                                              refine X_icmp_ge (tgt := 80) rfl rfl rfl (fun _ => ?_) (fun q => absurd q (by decide))
                                              refine X_aload_n rfl rfl rfl rfl ?_
                                              refine X_getR (a := 356) rfl rfl rfl ((congrFun F.1 355).trans s_355) rfl ((congrFun (F.2.1 355 (by decide)) 0).trans r_355_0) ?_
                                              refine X_iload_n rfl rfl rfl rfl ?_
                                              refine X_bipush (v := (8 : Int32)) rfl rfl rfl ?_
                                              refine X_iadd (v := (124 : Int32)) rfl rfl rfl ?_
                                              refine X_aload_n rfl rfl rfl rfl ?_
                                              refine X_getI (v := (6 : Int32)) rfl rfl rfl ((congrFun F.1 355).trans s_355) rfl rfl ?_
                                              refine X_iast (k0 := 124) rfl rfl ((congrFun F.1 356).trans s_356) (vp_in_d rfl) rfl ?_
                                              refine X_aload_n rfl rfl rfl rfl ?_
                                              refine X_getR (a := 356) rfl rfl rfl ((congrFun F.1 355).trans s_355) rfl ((congrFun (F.2.1 355 (by decide)) 0).trans r_355_0) ?_
                                              refine X_iload_n rfl rfl rfl rfl ?_
                                              refine X_bipush (v := (9 : Int32)) rfl rfl rfl ?_
                                              refine X_iadd (v := (125 : Int32)) rfl rfl rfl ?_
                                              refine X_iload_n rfl rfl rfl rfl ?_
                                              refine X_iast (k0 := 125) rfl rfl ((congrFun F.1 356).trans s_356) (vp_in_d rfl) rfl ?_
                                              refine X_aload_n rfl rfl rfl rfl ?_
                                              refine X_getR (a := 356) rfl rfl rfl ((congrFun F.1 355).trans s_355) rfl ((congrFun (F.2.1 355 (by decide)) 0).trans r_355_0) ?_
                                              refine X_iconst (v := (0 : Int32)) rfl rfl rfl ?_
                                              refine X_dup2 rfl rfl rfl rfl ?_
                                              refine X_iald (v := (0 : Int32)) rfl rfl ((congrFun F.1 356).trans s_356) (vp_in_d rfl) ((congrFun (F.2.2 356 (by decide)).1 0).trans i_356_0) ?_
                                              refine X_iconst (v := (1 : Int32)) rfl rfl rfl ?_
                                              refine X_iadd (v := (1 : Int32)) rfl rfl rfl ?_
                                              refine X_iast (k0 := 0) rfl rfl ((congrFun F.1 356).trans s_356) (vp_in_d rfl) rfl ?_
                                              refine X_aload_n rfl rfl rfl rfl ?_
                                              refine X_getR (a := 356) rfl rfl rfl ((congrFun F.1 355).trans s_355) rfl ((congrFun (F.2.1 355 (by decide)) 0).trans r_355_0) ?_
                                              refine X_iconst (v := (0 : Int32)) rfl rfl rfl ?_
                                              refine X_iald (v := (1 : Int32)) rfl rfl ((congrFun F.1 356).trans s_356) (vp_in_d rfl) rfl ?_
                                              refine X_iconst (v := (1 : Int32)) rfl rfl rfl ?_
                                              refine X_isub (v := (0 : Int32)) rfl rfl rfl ?_
                                              refine LW_ireturn (st := []) rfl rfl rfl ?_
                                              refine LW_ireturn (st := []) rfl rfl rfl (congrArg (fun z => some (Value.int z)) ?_)
                                              simp only [Int32.lt_iff_toInt_lt, Int32.le_iff_toInt_le, ← Int32.toInt_inj, (show (0 : Int32).toInt = 0 from rfl), (show (9 : Int32).toInt = 9 from rfl), (show (97 : Int32).toInt = 97 from rfl), (show (122 : Int32).toInt = 122 from rfl)] at h1 h2 h3 h4 h5 h6 h7 h8 h9 h10 h11 h12 h13 h14 h15 h16 h17 h18 h19 h20 h21 h27
                                              unfold f_wordB
                                              rw [if_pos (by omega)]
                                    · refine X_aload_n rfl rfl rfl rfl ?_
                                      refine X_getI (v := (5 : Int32)) rfl rfl rfl ((congrFun F.1 355).trans s_355) rfl rfl ?_
                                      refine X_iload_n rfl rfl rfl rfl ?_
                                      refine X_iload_n rfl rfl rfl rfl ?_
                                      refine X_iadd (v := (5 : Int32)) rfl rfl rfl ?_
                                      refine X_icmp_gt (tgt := 37) rfl rfl rfl (fun q => absurd q (by decide)) (fun _ => ?_)
                                      refine LW_goto (tgt := 85) rfl rfl ?_
                                      refine X_iinc (v := (2 : Int32)) (ls' := [some (.ref 355), some (.int c), some (.int (4 : Int32)), some (.int (2 : Int32)), some (.int b5)]) rfl rfl rfl rfl rfl ?_
                                      refine LW_goto (tgt := 2) rfl rfl ?_
                                      refine X_iload_n rfl rfl rfl rfl ?_
                                      refine X_iconst (v := (4 : Int32)) rfl rfl rfl ?_
                                      refine X_icmp_ge (tgt := 91) rfl rfl rfl (fun q => absurd q (by decide)) (fun _ => ?_)
                                      refine X_iload_n rfl rfl rfl rfl ?_
                                      refine X_bipush (v := (8 : Int32)) rfl rfl rfl ?_
                                      refine X_iload_n rfl rfl rfl rfl ?_
                                      refine X_imul (v := (16 : Int32)) rfl rfl rfl ?_
                                      refine X_ishr (v := (c >>> ((16 : Int32) &&& 31))) rfl rfl rfl ?_
                                      refine X_sipush (v := (255 : Int32)) rfl rfl rfl ?_
                                      refine X_iand (v := b6) rfl rfl hb6 ?_
                                      refine X_istore (i := 4) (ls' := [some (.ref 355), some (.int c), some (.int (4 : Int32)), some (.int (2 : Int32)), some (.int b6)]) rfl rfl (Nat.le_of_ble_eq_true rfl) rfl ?_
                                      refine X_iload rfl rfl rfl ?_
                                      refine X_if_ne (tgt := 37) rfl rfl rfl (fun h30 => ?_) (fun h30 => ?_)
                                      · refine X_iload rfl rfl rfl ?_
                                        refine X_bipush (v := (97 : Int32)) rfl rfl rfl ?_
                                        refine X_bipush (v := (122 : Int32)) rfl rfl rfl ?_
                                        refine X_callS (as := [.int b6, .int (97 : Int32), .int (122 : Int32)]) (st := []) rfl rfl rfl (by decide) rfl (Nat.le_of_ble_eq_true rfl) (by decide) (Nat.le_of_ble_eq_true rfl) rfl ?_
                                        refine LW_ls (ls' := [some (.int b6), some (.int (97 : Int32)), some (.int (122 : Int32))]) rfl ?_
                                        refine X_iload_n rfl rfl rfl rfl ?_
                                        refine X_iload_n rfl rfl rfl rfl ?_
                                        refine X_icmp_lt (tgt := 14) rfl rfl rfl (fun h31 => ?_) (fun h31 => ?_)
                                        · refine X_iconst (v := (0 : Int32)) rfl rfl rfl ?_
                                          refine LW_ireturn (st := []) rfl rfl rfl ?_
                                          refine X_if_eq (tgt := 59) rfl rfl rfl (fun _ => ?_) (fun q => absurd q (by decide))
                                          refine X_iconst (v := (0 : Int32)) rfl rfl rfl ?_
                                          refine LW_ireturn (st := []) rfl rfl rfl ?_
                                          refine X_if_ne (tgt := 35) rfl rfl rfl (fun q => absurd q (by decide)) (fun _ => ?_)
                                          refine X_iconst (v := (-1 : Int32)) rfl rfl rfl ?_
                                          refine LW_ireturn (st := []) rfl rfl rfl (congrArg (fun z => some (Value.int z)) ?_)
                                          simp only [Int32.lt_iff_toInt_lt, Int32.le_iff_toInt_le, ← Int32.toInt_inj, (show (0 : Int32).toInt = 0 from rfl), (show (9 : Int32).toInt = 9 from rfl), (show (97 : Int32).toInt = 97 from rfl), (show (122 : Int32).toInt = 122 from rfl)] at h1 h2 h3 h4 h5 h6 h7 h8 h9 h10 h11 h12 h13 h14 h15 h16 h17 h18 h30 h31
                                          unfold f_wordB
                                          rw [if_neg (by omega)]
                                        · refine X_iload_n rfl rfl rfl rfl ?_
                                          refine X_iload_n rfl rfl rfl rfl ?_
                                          refine X_icmp_gt (tgt := 14) rfl rfl rfl (fun h32 => ?_) (fun h32 => ?_)
                                          · refine X_iconst (v := (0 : Int32)) rfl rfl rfl ?_
                                            refine LW_ireturn (st := []) rfl rfl rfl ?_
                                            refine X_if_eq (tgt := 59) rfl rfl rfl (fun _ => ?_) (fun q => absurd q (by decide))
                                            refine X_iconst (v := (0 : Int32)) rfl rfl rfl ?_
                                            refine LW_ireturn (st := []) rfl rfl rfl ?_
                                            refine X_if_ne (tgt := 35) rfl rfl rfl (fun q => absurd q (by decide)) (fun _ => ?_)
                                            refine X_iconst (v := (-1 : Int32)) rfl rfl rfl ?_
                                            refine LW_ireturn (st := []) rfl rfl rfl (congrArg (fun z => some (Value.int z)) ?_)
                                            simp only [Int32.lt_iff_toInt_lt, Int32.le_iff_toInt_le, ← Int32.toInt_inj, (show (0 : Int32).toInt = 0 from rfl), (show (9 : Int32).toInt = 9 from rfl), (show (97 : Int32).toInt = 97 from rfl), (show (122 : Int32).toInt = 122 from rfl)] at h1 h2 h3 h4 h5 h6 h7 h8 h9 h10 h11 h12 h13 h14 h15 h16 h17 h18 h30 h31 h32
                                            unfold f_wordB
                                            rw [if_neg (by omega)]
                                          · refine X_iconst (v := (1 : Int32)) rfl rfl rfl ?_
                                            refine LW_goto (tgt := 15) rfl rfl ?_
                                            refine LW_ireturn (st := []) rfl rfl rfl ?_
                                            refine X_if_eq (tgt := 59) rfl rfl rfl (fun q => absurd q (by decide)) (fun _ => ?_)
                                            refine X_aload_n rfl rfl rfl rfl ?_
                                            refine X_getI (v := (5 : Int32)) rfl rfl rfl ((congrFun F.1 355).trans s_355) rfl rfl ?_
                                            refine X_iload_n rfl rfl rfl rfl ?_
                                            refine X_iload_n rfl rfl rfl rfl ?_
                                            refine X_iadd (v := (6 : Int32)) rfl rfl rfl ?_
                                            refine X_icmp_ge (tgt := 61) rfl rfl rfl (fun q => absurd q (by decide)) (fun _ => ?_)
                                            refine X_iconst (v := (0 : Int32)) rfl rfl rfl ?_
                                            refine LW_ireturn (st := []) rfl rfl rfl ?_
                                            refine X_if_ne (tgt := 35) rfl rfl rfl (fun q => absurd q (by decide)) (fun _ => ?_)
                                            refine X_iconst (v := (-1 : Int32)) rfl rfl rfl ?_
                                            refine LW_ireturn (st := []) rfl rfl rfl (congrArg (fun z => some (Value.int z)) ?_)
                                            simp only [Int32.lt_iff_toInt_lt, Int32.le_iff_toInt_le, ← Int32.toInt_inj, (show (0 : Int32).toInt = 0 from rfl), (show (9 : Int32).toInt = 9 from rfl), (show (97 : Int32).toInt = 97 from rfl), (show (122 : Int32).toInt = 122 from rfl)] at h1 h2 h3 h4 h5 h6 h7 h8 h9 h10 h11 h12 h13 h14 h15 h16 h17 h18 h30 h31 h32
                                            unfold f_wordB
                                            rw [if_neg (by omega)]
                                      · refine X_aload_n rfl rfl rfl rfl ?_
                                        refine X_getI (v := (5 : Int32)) rfl rfl rfl ((congrFun F.1 355).trans s_355) rfl rfl ?_
                                        refine X_iload_n rfl rfl rfl rfl ?_
                                        refine X_iload_n rfl rfl rfl rfl ?_
                                        refine X_iadd (v := (6 : Int32)) rfl rfl rfl ?_
                                        refine X_icmp_gt (tgt := 37) rfl rfl rfl (fun q => absurd q (by decide)) (fun _ => ?_)
                                        refine LW_goto (tgt := 85) rfl rfl ?_
                                        refine X_iinc (v := (3 : Int32)) (ls' := [some (.ref 355), some (.int c), some (.int (4 : Int32)), some (.int (3 : Int32)), some (.int b6)]) rfl rfl rfl rfl rfl ?_
                                        refine LW_goto (tgt := 2) rfl rfl ?_
                                        refine X_iload_n rfl rfl rfl rfl ?_
                                        refine X_iconst (v := (4 : Int32)) rfl rfl rfl ?_
                                        refine X_icmp_ge (tgt := 91) rfl rfl rfl (fun q => absurd q (by decide)) (fun _ => ?_)
                                        refine X_iload_n rfl rfl rfl rfl ?_
                                        refine X_bipush (v := (8 : Int32)) rfl rfl rfl ?_
                                        refine X_iload_n rfl rfl rfl rfl ?_
                                        refine X_imul (v := (24 : Int32)) rfl rfl rfl ?_
                                        refine X_ishr (v := (c >>> ((24 : Int32) &&& 31))) rfl rfl rfl ?_
                                        refine X_sipush (v := (255 : Int32)) rfl rfl rfl ?_
                                        refine X_iand (v := b7) rfl rfl hb7 ?_
                                        refine X_istore (i := 4) (ls' := [some (.ref 355), some (.int c), some (.int (4 : Int32)), some (.int (3 : Int32)), some (.int b7)]) rfl rfl (Nat.le_of_ble_eq_true rfl) rfl ?_
                                        refine X_iload rfl rfl rfl ?_
                                        refine X_if_ne (tgt := 37) rfl rfl rfl (fun h33 => ?_) (fun h33 => ?_)
                                        · refine X_iload rfl rfl rfl ?_
                                          refine X_bipush (v := (97 : Int32)) rfl rfl rfl ?_
                                          refine X_bipush (v := (122 : Int32)) rfl rfl rfl ?_
                                          refine X_callS (as := [.int b7, .int (97 : Int32), .int (122 : Int32)]) (st := []) rfl rfl rfl (by decide) rfl (Nat.le_of_ble_eq_true rfl) (by decide) (Nat.le_of_ble_eq_true rfl) rfl ?_
                                          refine LW_ls (ls' := [some (.int b7), some (.int (97 : Int32)), some (.int (122 : Int32))]) rfl ?_
                                          refine X_iload_n rfl rfl rfl rfl ?_
                                          refine X_iload_n rfl rfl rfl rfl ?_
                                          refine X_icmp_lt (tgt := 14) rfl rfl rfl (fun h34 => ?_) (fun h34 => ?_)
                                          · refine X_iconst (v := (0 : Int32)) rfl rfl rfl ?_
                                            refine LW_ireturn (st := []) rfl rfl rfl ?_
                                            refine X_if_eq (tgt := 59) rfl rfl rfl (fun _ => ?_) (fun q => absurd q (by decide))
                                            refine X_iconst (v := (0 : Int32)) rfl rfl rfl ?_
                                            refine LW_ireturn (st := []) rfl rfl rfl ?_
                                            refine X_if_ne (tgt := 35) rfl rfl rfl (fun q => absurd q (by decide)) (fun _ => ?_)
                                            refine X_iconst (v := (-1 : Int32)) rfl rfl rfl ?_
                                            refine LW_ireturn (st := []) rfl rfl rfl (congrArg (fun z => some (Value.int z)) ?_)
                                            simp only [Int32.lt_iff_toInt_lt, Int32.le_iff_toInt_le, ← Int32.toInt_inj, (show (0 : Int32).toInt = 0 from rfl), (show (9 : Int32).toInt = 9 from rfl), (show (97 : Int32).toInt = 97 from rfl), (show (122 : Int32).toInt = 122 from rfl)] at h1 h2 h3 h4 h5 h6 h7 h8 h9 h10 h11 h12 h13 h14 h15 h16 h17 h18 h30 h33 h34
                                            unfold f_wordB
                                            rw [if_neg (by omega)]
                                          · refine X_iload_n rfl rfl rfl rfl ?_
                                            refine X_iload_n rfl rfl rfl rfl ?_
                                            refine X_icmp_gt (tgt := 14) rfl rfl rfl (fun h35 => ?_) (fun h35 => ?_)
                                            · refine X_iconst (v := (0 : Int32)) rfl rfl rfl ?_
                                              refine LW_ireturn (st := []) rfl rfl rfl ?_
                                              refine X_if_eq (tgt := 59) rfl rfl rfl (fun _ => ?_) (fun q => absurd q (by decide))
                                              refine X_iconst (v := (0 : Int32)) rfl rfl rfl ?_
                                              refine LW_ireturn (st := []) rfl rfl rfl ?_
                                              refine X_if_ne (tgt := 35) rfl rfl rfl (fun q => absurd q (by decide)) (fun _ => ?_)
                                              refine X_iconst (v := (-1 : Int32)) rfl rfl rfl ?_
                                              refine LW_ireturn (st := []) rfl rfl rfl (congrArg (fun z => some (Value.int z)) ?_)
                                              simp only [Int32.lt_iff_toInt_lt, Int32.le_iff_toInt_le, ← Int32.toInt_inj, (show (0 : Int32).toInt = 0 from rfl), (show (9 : Int32).toInt = 9 from rfl), (show (97 : Int32).toInt = 97 from rfl), (show (122 : Int32).toInt = 122 from rfl)] at h1 h2 h3 h4 h5 h6 h7 h8 h9 h10 h11 h12 h13 h14 h15 h16 h17 h18 h30 h33 h34 h35
                                              unfold f_wordB
                                              rw [if_neg (by omega)]
                                            · refine X_iconst (v := (1 : Int32)) rfl rfl rfl ?_
                                              refine LW_goto (tgt := 15) rfl rfl ?_
                                              refine LW_ireturn (st := []) rfl rfl rfl ?_
                                              refine X_if_eq (tgt := 59) rfl rfl rfl (fun q => absurd q (by decide)) (fun _ => ?_)
                                              refine X_aload_n rfl rfl rfl rfl ?_
                                              refine X_getI (v := (5 : Int32)) rfl rfl rfl ((congrFun F.1 355).trans s_355) rfl rfl ?_
                                              refine X_iload_n rfl rfl rfl rfl ?_
                                              refine X_iload_n rfl rfl rfl rfl ?_
                                              refine X_iadd (v := (7 : Int32)) rfl rfl rfl ?_
                                              refine X_icmp_ge (tgt := 61) rfl rfl rfl (fun q => absurd q (by decide)) (fun _ => ?_)
                                              refine X_iconst (v := (0 : Int32)) rfl rfl rfl ?_
                                              refine LW_ireturn (st := []) rfl rfl rfl ?_
                                              refine X_if_ne (tgt := 35) rfl rfl rfl (fun q => absurd q (by decide)) (fun _ => ?_)
                                              refine X_iconst (v := (-1 : Int32)) rfl rfl rfl ?_
                                              refine LW_ireturn (st := []) rfl rfl rfl (congrArg (fun z => some (Value.int z)) ?_)
                                              simp only [Int32.lt_iff_toInt_lt, Int32.le_iff_toInt_le, ← Int32.toInt_inj, (show (0 : Int32).toInt = 0 from rfl), (show (9 : Int32).toInt = 9 from rfl), (show (97 : Int32).toInt = 97 from rfl), (show (122 : Int32).toInt = 122 from rfl)] at h1 h2 h3 h4 h5 h6 h7 h8 h9 h10 h11 h12 h13 h14 h15 h16 h17 h18 h30 h33 h34 h35
                                              unfold f_wordB
                                              rw [if_neg (by omega)]
                                        · refine X_aload_n rfl rfl rfl rfl ?_
                                          refine X_getI (v := (5 : Int32)) rfl rfl rfl ((congrFun F.1 355).trans s_355) rfl rfl ?_
                                          refine X_iload_n rfl rfl rfl rfl ?_
                                          refine X_iload_n rfl rfl rfl rfl ?_
                                          refine X_iadd (v := (7 : Int32)) rfl rfl rfl ?_
                                          refine X_icmp_gt (tgt := 37) rfl rfl rfl (fun q => absurd q (by decide)) (fun _ => ?_)
                                          refine LW_goto (tgt := 85) rfl rfl ?_
                                          refine X_iinc (v := (4 : Int32)) (ls' := [some (.ref 355), some (.int c), some (.int (4 : Int32)), some (.int (4 : Int32)), some (.int b7)]) rfl rfl rfl rfl rfl ?_
                                          refine LW_goto (tgt := 2) rfl rfl ?_
                                          refine X_iload_n rfl rfl rfl rfl ?_
                                          refine X_iconst (v := (4 : Int32)) rfl rfl rfl ?_
                                          refine X_icmp_ge (tgt := 91) rfl rfl rfl (fun _ => ?_) (fun q => absurd q (by decide))
                                          refine X_iconst (v := (1 : Int32)) rfl rfl rfl ?_
                                          refine LW_ireturn (st := []) rfl rfl rfl ?_
                                          refine X_if_ne (tgt := 35) rfl rfl rfl (fun _ => ?_) (fun q => absurd q (by decide))
                                          refine X_aload_n rfl rfl rfl rfl ?_
                                          refine X_iload_n rfl rfl rfl rfl ?_
                                          refine X_callV (as := [.int s]) (st := []) rfl rfl rfl (by decide) rfl (Nat.le_of_ble_eq_true rfl) (by decide) (Nat.le_of_ble_eq_true rfl) rfl ((congrFun F.1 355).trans s_355) (by decide) ?_
                                          refine LW_ls (ls' := [some (.ref 355), some (.int s), none, none]) rfl ?_
                                          refine X_aload_n rfl rfl rfl rfl ?_
                                          refine X_getI (v := (5 : Int32)) rfl rfl rfl ((congrFun F.1 355).trans s_355) rfl rfl ?_
                                          refine X_if_eq (tgt := 25) rfl rfl rfl (fun q => absurd q (by decide)) (fun _ => ?_)
                                          refine X_aload_n rfl rfl rfl rfl ?_
                                          refine X_callV (as := []) (st := []) rfl rfl rfl (by decide) rfl (Nat.le_of_ble_eq_true rfl) (by decide) (Nat.le_of_ble_eq_true rfl) rfl ((congrFun F.1 355).trans s_355) (by decide) ?_
                                          refine LW_ls (ls' := [some (.ref 355), none, none, none]) rfl ?_
                                          refine X_iconst (v := (0 : Int32)) rfl rfl rfl ?_
                                          refine X_istore_n (i := 1) (ls' := [some (.ref 355), some (.int (0 : Int32)), none, none]) rfl rfl rfl (Nat.le_of_ble_eq_true rfl) rfl ?_
                                          refine X_iload_n rfl rfl rfl rfl ?_
                                          refine X_aload_n rfl rfl rfl rfl ?_
                                          refine X_getR (a := 356) rfl rfl rfl ((congrFun F.1 355).trans s_355) rfl ((congrFun (F.2.1 355 (by decide)) 0).trans r_355_0) ?_
                                          refine X_iconst (v := (0 : Int32)) rfl rfl rfl ?_
                                          refine X_iald (v := (0 : Int32)) rfl rfl ((congrFun F.1 356).trans s_356) (vp_in_d rfl) ((congrFun (F.2.2 356 (by decide)).1 0).trans i_356_0) ?_
                                          refine X_icmp_ge (tgt := 83) rfl rfl rfl (fun _ => ?_) (fun q => absurd q (by decide))
                                          refine X_iconst (v := (0 : Int32)) rfl rfl rfl ?_
                                          refine LW_ireturn (st := []) rfl rfl rfl ?_
                                          refine X_if_ne (tgt := 25) rfl rfl rfl (fun q => absurd q (by decide)) (fun _ => ?_)
                                          refine X_aload_n rfl rfl rfl rfl ?_
                                          refine X_getR (a := 356) rfl rfl rfl ((congrFun F.1 355).trans s_355) rfl ((congrFun (F.2.1 355 (by decide)) 0).trans r_355_0) ?_
                                          refine X_iconst (v := (0 : Int32)) rfl rfl rfl ?_
                                          refine X_iald (v := (0 : Int32)) rfl rfl ((congrFun F.1 356).trans s_356) (vp_in_d rfl) ((congrFun (F.2.2 356 (by decide)).1 0).trans i_356_0) ?_
                                          refine X_bipush (v := (24 : Int32)) rfl rfl rfl ?_
                                          refine X_icmp_ne (tgt := 27) rfl rfl rfl (fun _ => ?_) (fun q => absurd q (by decide))
                                          refine X_bipush (v := (116 : Int32)) rfl rfl rfl ?_
                                          refine X_bipush (v := (10 : Int32)) rfl rfl rfl ?_
                                          refine X_aload_n rfl rfl rfl rfl ?_
                                          refine X_getR (a := 356) rfl rfl rfl ((congrFun F.1 355).trans s_355) rfl ((congrFun (F.2.1 355 (by decide)) 0).trans r_355_0) ?_
                                          refine X_iconst (v := (0 : Int32)) rfl rfl rfl ?_
                                          refine X_iald (v := (0 : Int32)) rfl rfl ((congrFun F.1 356).trans s_356) (vp_in_d rfl) ((congrFun (F.2.2 356 (by decide)).1 0).trans i_356_0) ?_
                                          refine X_imul (v := (0 : Int32)) rfl rfl rfl ?_
                                          refine X_iadd (v := (116 : Int32)) rfl rfl rfl ?_
                                          refine X_istore_n (i := 2) (ls' := [some (.ref 355), some (.int s), some (.int (116 : Int32)), none]) rfl rfl rfl (Nat.le_of_ble_eq_true rfl) rfl ?_
                                          refine X_iconst (v := (0 : Int32)) rfl rfl rfl ?_
                                          refine X_istore_n (i := 3) (ls' := [some (.ref 355), some (.int s), some (.int (116 : Int32)), some (.int (0 : Int32))]) rfl rfl rfl (Nat.le_of_ble_eq_true rfl) rfl ?_
                                          refine X_iload_n rfl rfl rfl rfl ?_
                                          refine X_bipush (v := (8 : Int32)) rfl rfl rfl ?_
                                          refine X_icmp_ge (tgt := 80) rfl rfl rfl (fun q => absurd q (by decide)) (fun _ => ?_)
                                          refine X_aload_n rfl rfl rfl rfl ?_
                                          refine X_getR (a := 356) rfl rfl rfl ((congrFun F.1 355).trans s_355) rfl ((congrFun (F.2.1 355 (by decide)) 0).trans r_355_0) ?_
                                          refine X_iload_n rfl rfl rfl rfl ?_
                                          refine X_iload_n rfl rfl rfl rfl ?_
                                          refine X_iadd (v := (116 : Int32)) rfl rfl rfl ?_
                                          refine X_iload_n rfl rfl rfl rfl ?_
                                          refine X_aload_n rfl rfl rfl rfl ?_
                                          refine X_getI (v := (5 : Int32)) rfl rfl rfl ((congrFun F.1 355).trans s_355) rfl rfl ?_
                                          refine X_icmp_ge (tgt := 72) rfl rfl rfl (fun q => absurd q (by decide)) (fun _ => ?_)
                                          refine X_aload_n rfl rfl rfl rfl ?_
                                          refine X_getR (a := 359) rfl rfl rfl ((congrFun F.1 355).trans s_355) rfl ((congrFun (F.2.1 355 (by decide)) 3).trans r_355_3) ?_
                                          refine X_iload_n rfl rfl rfl rfl ?_
                                          refine X_iald (v := (b0 - (97 : Int32))) rfl rfl ((congrFun F.1 359).trans s_359) (vp_in_d rfl) rfl ?_
                                          refine LW_goto (tgt := 73) rfl rfl ?_
                                          refine X_iast (k0 := 116) rfl rfl ((congrFun F.1 356).trans s_356) (vp_in_d rfl) rfl ?_
                                          refine X_iinc (v := (1 : Int32)) (ls' := [some (.ref 355), some (.int s), some (.int (116 : Int32)), some (.int (1 : Int32))]) rfl rfl rfl rfl rfl ?_
                                          refine LW_goto (tgt := 42) rfl rfl ?_
                                          refine X_iload_n rfl rfl rfl rfl ?_
                                          refine X_bipush (v := (8 : Int32)) rfl rfl rfl ?_
                                          refine X_icmp_ge (tgt := 80) rfl rfl rfl (fun q => absurd q (by decide)) (fun _ => ?_)
                                          refine X_aload_n rfl rfl rfl rfl ?_
                                          refine X_getR (a := 356) rfl rfl rfl ((congrFun F.1 355).trans s_355) rfl ((congrFun (F.2.1 355 (by decide)) 0).trans r_355_0) ?_
                                          refine X_iload_n rfl rfl rfl rfl ?_
                                          refine X_iload_n rfl rfl rfl rfl ?_
                                          refine X_iadd (v := (117 : Int32)) rfl rfl rfl ?_
                                          refine X_iload_n rfl rfl rfl rfl ?_
                                          refine X_aload_n rfl rfl rfl rfl ?_
                                          refine X_getI (v := (5 : Int32)) rfl rfl rfl ((congrFun F.1 355).trans s_355) rfl rfl ?_
                                          refine X_icmp_ge (tgt := 72) rfl rfl rfl (fun q => absurd q (by decide)) (fun _ => ?_)
                                          refine X_aload_n rfl rfl rfl rfl ?_
                                          refine X_getR (a := 359) rfl rfl rfl ((congrFun F.1 355).trans s_355) rfl ((congrFun (F.2.1 355 (by decide)) 3).trans r_355_3) ?_
                                          refine X_iload_n rfl rfl rfl rfl ?_
                                          refine X_iald (v := (b1 - (97 : Int32))) rfl rfl ((congrFun F.1 359).trans s_359) (vp_in_d rfl) rfl ?_
                                          refine LW_goto (tgt := 73) rfl rfl ?_
                                          refine X_iast (k0 := 117) rfl rfl ((congrFun F.1 356).trans s_356) (vp_in_d rfl) rfl ?_
                                          refine X_iinc (v := (2 : Int32)) (ls' := [some (.ref 355), some (.int s), some (.int (116 : Int32)), some (.int (2 : Int32))]) rfl rfl rfl rfl rfl ?_
                                          refine LW_goto (tgt := 42) rfl rfl ?_
                                          refine X_iload_n rfl rfl rfl rfl ?_
                                          refine X_bipush (v := (8 : Int32)) rfl rfl rfl ?_
                                          refine X_icmp_ge (tgt := 80) rfl rfl rfl (fun q => absurd q (by decide)) (fun _ => ?_)
                                          refine X_aload_n rfl rfl rfl rfl ?_
                                          refine X_getR (a := 356) rfl rfl rfl ((congrFun F.1 355).trans s_355) rfl ((congrFun (F.2.1 355 (by decide)) 0).trans r_355_0) ?_
                                          refine X_iload_n rfl rfl rfl rfl ?_
                                          refine X_iload_n rfl rfl rfl rfl ?_
                                          refine X_iadd (v := (118 : Int32)) rfl rfl rfl ?_
                                          refine X_iload_n rfl rfl rfl rfl ?_
                                          refine X_aload_n rfl rfl rfl rfl ?_
                                          refine X_getI (v := (5 : Int32)) rfl rfl rfl ((congrFun F.1 355).trans s_355) rfl rfl ?_
                                          refine X_icmp_ge (tgt := 72) rfl rfl rfl (fun q => absurd q (by decide)) (fun _ => ?_)
                                          refine X_aload_n rfl rfl rfl rfl ?_
                                          refine X_getR (a := 359) rfl rfl rfl ((congrFun F.1 355).trans s_355) rfl ((congrFun (F.2.1 355 (by decide)) 3).trans r_355_3) ?_
                                          refine X_iload_n rfl rfl rfl rfl ?_
                                          refine X_iald (v := (b2 - (97 : Int32))) rfl rfl ((congrFun F.1 359).trans s_359) (vp_in_d rfl) rfl ?_
                                          refine LW_goto (tgt := 73) rfl rfl ?_
                                          refine X_iast (k0 := 118) rfl rfl ((congrFun F.1 356).trans s_356) (vp_in_d rfl) rfl ?_
                                          refine X_iinc (v := (3 : Int32)) (ls' := [some (.ref 355), some (.int s), some (.int (116 : Int32)), some (.int (3 : Int32))]) rfl rfl rfl rfl rfl ?_
                                          refine LW_goto (tgt := 42) rfl rfl ?_
                                          refine X_iload_n rfl rfl rfl rfl ?_
                                          refine X_bipush (v := (8 : Int32)) rfl rfl rfl ?_
                                          refine X_icmp_ge (tgt := 80) rfl rfl rfl (fun q => absurd q (by decide)) (fun _ => ?_)
                                          refine X_aload_n rfl rfl rfl rfl ?_
                                          refine X_getR (a := 356) rfl rfl rfl ((congrFun F.1 355).trans s_355) rfl ((congrFun (F.2.1 355 (by decide)) 0).trans r_355_0) ?_
                                          refine X_iload_n rfl rfl rfl rfl ?_
                                          refine X_iload_n rfl rfl rfl rfl ?_
                                          refine X_iadd (v := (119 : Int32)) rfl rfl rfl ?_
                                          refine X_iload_n rfl rfl rfl rfl ?_
                                          refine X_aload_n rfl rfl rfl rfl ?_
                                          refine X_getI (v := (5 : Int32)) rfl rfl rfl ((congrFun F.1 355).trans s_355) rfl rfl ?_
                                          refine X_icmp_ge (tgt := 72) rfl rfl rfl (fun q => absurd q (by decide)) (fun _ => ?_)
                                          refine X_aload_n rfl rfl rfl rfl ?_
                                          refine X_getR (a := 359) rfl rfl rfl ((congrFun F.1 355).trans s_355) rfl ((congrFun (F.2.1 355 (by decide)) 3).trans r_355_3) ?_
                                          refine X_iload_n rfl rfl rfl rfl ?_
                                          refine X_iald (v := (b3 - (97 : Int32))) rfl rfl ((congrFun F.1 359).trans s_359) (vp_in_d rfl) rfl ?_
                                          refine LW_goto (tgt := 73) rfl rfl ?_
                                          refine X_iast (k0 := 119) rfl rfl ((congrFun F.1 356).trans s_356) (vp_in_d rfl) rfl ?_
                                          refine X_iinc (v := (4 : Int32)) (ls' := [some (.ref 355), some (.int s), some (.int (116 : Int32)), some (.int (4 : Int32))]) rfl rfl rfl rfl rfl ?_
                                          refine LW_goto (tgt := 42) rfl rfl ?_
                                          refine X_iload_n rfl rfl rfl rfl ?_
                                          refine X_bipush (v := (8 : Int32)) rfl rfl rfl ?_
                                          refine X_icmp_ge (tgt := 80) rfl rfl rfl (fun q => absurd q (by decide)) (fun _ => ?_)
                                          refine X_aload_n rfl rfl rfl rfl ?_
                                          refine X_getR (a := 356) rfl rfl rfl ((congrFun F.1 355).trans s_355) rfl ((congrFun (F.2.1 355 (by decide)) 0).trans r_355_0) ?_
                                          refine X_iload_n rfl rfl rfl rfl ?_
                                          refine X_iload_n rfl rfl rfl rfl ?_
                                          refine X_iadd (v := (120 : Int32)) rfl rfl rfl ?_
                                          refine X_iload_n rfl rfl rfl rfl ?_
                                          refine X_aload_n rfl rfl rfl rfl ?_
                                          refine X_getI (v := (5 : Int32)) rfl rfl rfl ((congrFun F.1 355).trans s_355) rfl rfl ?_
                                          refine X_icmp_ge (tgt := 72) rfl rfl rfl (fun q => absurd q (by decide)) (fun _ => ?_)
                                          refine X_aload_n rfl rfl rfl rfl ?_
                                          refine X_getR (a := 359) rfl rfl rfl ((congrFun F.1 355).trans s_355) rfl ((congrFun (F.2.1 355 (by decide)) 3).trans r_355_3) ?_
                                          refine X_iload_n rfl rfl rfl rfl ?_
                                          refine X_iald (v := (b4 - (97 : Int32))) rfl rfl ((congrFun F.1 359).trans s_359) (vp_in_d rfl) rfl ?_
                                          refine LW_goto (tgt := 73) rfl rfl ?_
                                          refine X_iast (k0 := 120) rfl rfl ((congrFun F.1 356).trans s_356) (vp_in_d rfl) rfl ?_
                                          refine X_iinc (v := (5 : Int32)) (ls' := [some (.ref 355), some (.int s), some (.int (116 : Int32)), some (.int (5 : Int32))]) rfl rfl rfl rfl rfl ?_
                                          refine LW_goto (tgt := 42) rfl rfl ?_
                                          refine X_iload_n rfl rfl rfl rfl ?_
                                          refine X_bipush (v := (8 : Int32)) rfl rfl rfl ?_
                                          refine X_icmp_ge (tgt := 80) rfl rfl rfl (fun q => absurd q (by decide)) (fun _ => ?_)
                                          refine X_aload_n rfl rfl rfl rfl ?_
                                          refine X_getR (a := 356) rfl rfl rfl ((congrFun F.1 355).trans s_355) rfl ((congrFun (F.2.1 355 (by decide)) 0).trans r_355_0) ?_
                                          refine X_iload_n rfl rfl rfl rfl ?_
                                          refine X_iload_n rfl rfl rfl rfl ?_
                                          refine X_iadd (v := (121 : Int32)) rfl rfl rfl ?_
                                          refine X_iload_n rfl rfl rfl rfl ?_
                                          refine X_aload_n rfl rfl rfl rfl ?_
                                          refine X_getI (v := (5 : Int32)) rfl rfl rfl ((congrFun F.1 355).trans s_355) rfl rfl ?_
                                          refine X_icmp_ge (tgt := 72) rfl rfl rfl (fun _ => ?_) (fun q => absurd q (by decide))
                                          refine X_iconst (v := (0 : Int32)) rfl rfl rfl ?_
                                          refine X_iast (k0 := 121) rfl rfl ((congrFun F.1 356).trans s_356) (vp_in_d rfl) rfl ?_
                                          refine X_iinc (v := (6 : Int32)) (ls' := [some (.ref 355), some (.int s), some (.int (116 : Int32)), some (.int (6 : Int32))]) rfl rfl rfl rfl rfl ?_
                                          refine LW_goto (tgt := 42) rfl rfl ?_
                                          refine X_iload_n rfl rfl rfl rfl ?_
                                          refine X_bipush (v := (8 : Int32)) rfl rfl rfl ?_
                                          refine X_icmp_ge (tgt := 80) rfl rfl rfl (fun q => absurd q (by decide)) (fun _ => ?_)
                                          refine X_aload_n rfl rfl rfl rfl ?_
                                          refine X_getR (a := 356) rfl rfl rfl ((congrFun F.1 355).trans s_355) rfl ((congrFun (F.2.1 355 (by decide)) 0).trans r_355_0) ?_
                                          refine X_iload_n rfl rfl rfl rfl ?_
                                          refine X_iload_n rfl rfl rfl rfl ?_
                                          refine X_iadd (v := (122 : Int32)) rfl rfl rfl ?_
                                          refine X_iload_n rfl rfl rfl rfl ?_
                                          refine X_aload_n rfl rfl rfl rfl ?_
                                          refine X_getI (v := (5 : Int32)) rfl rfl rfl ((congrFun F.1 355).trans s_355) rfl rfl ?_
                                          refine X_icmp_ge (tgt := 72) rfl rfl rfl (fun _ => ?_) (fun q => absurd q (by decide))
                                          refine X_iconst (v := (0 : Int32)) rfl rfl rfl ?_
                                          refine X_iast (k0 := 122) rfl rfl ((congrFun F.1 356).trans s_356) (vp_in_d rfl) rfl ?_
                                          refine X_iinc (v := (7 : Int32)) (ls' := [some (.ref 355), some (.int s), some (.int (116 : Int32)), some (.int (7 : Int32))]) rfl rfl rfl rfl rfl ?_
                                          refine LW_goto (tgt := 42) rfl rfl ?_
                                          refine X_iload_n rfl rfl rfl rfl ?_
                                          refine X_bipush (v := (8 : Int32)) rfl rfl rfl ?_
                                          refine X_icmp_ge (tgt := 80) rfl rfl rfl (fun q => absurd q (by decide)) (fun _ => ?_)
                                          refine X_aload_n rfl rfl rfl rfl ?_
                                          refine X_getR (a := 356) rfl rfl rfl ((congrFun F.1 355).trans s_355) rfl ((congrFun (F.2.1 355 (by decide)) 0).trans r_355_0) ?_
                                          refine X_iload_n rfl rfl rfl rfl ?_
                                          refine X_iload_n rfl rfl rfl rfl ?_
                                          refine X_iadd (v := (123 : Int32)) rfl rfl rfl ?_
                                          refine X_iload_n rfl rfl rfl rfl ?_
                                          refine X_aload_n rfl rfl rfl rfl ?_
                                          refine X_getI (v := (5 : Int32)) rfl rfl rfl ((congrFun F.1 355).trans s_355) rfl rfl ?_
                                          refine X_icmp_ge (tgt := 72) rfl rfl rfl (fun _ => ?_) (fun q => absurd q (by decide))
                                          refine X_iconst (v := (0 : Int32)) rfl rfl rfl ?_
                                          refine X_iast (k0 := 123) rfl rfl ((congrFun F.1 356).trans s_356) (vp_in_d rfl) rfl ?_
                                          refine X_iinc (v := (8 : Int32)) (ls' := [some (.ref 355), some (.int s), some (.int (116 : Int32)), some (.int (8 : Int32))]) rfl rfl rfl rfl rfl ?_
                                          refine LW_goto (tgt := 42) rfl rfl ?_
                                          refine X_iload_n rfl rfl rfl rfl ?_
                                          refine X_bipush (v := (8 : Int32)) rfl rfl rfl ?_
                                          refine X_icmp_ge (tgt := 80) rfl rfl rfl (fun _ => ?_) (fun q => absurd q (by decide))
                                          refine X_aload_n rfl rfl rfl rfl ?_
                                          refine X_getR (a := 356) rfl rfl rfl ((congrFun F.1 355).trans s_355) rfl ((congrFun (F.2.1 355 (by decide)) 0).trans r_355_0) ?_
                                          refine X_iload_n rfl rfl rfl rfl ?_
                                          refine X_bipush (v := (8 : Int32)) rfl rfl rfl ?_
                                          refine X_iadd (v := (124 : Int32)) rfl rfl rfl ?_
                                          refine X_aload_n rfl rfl rfl rfl ?_
                                          refine X_getI (v := (5 : Int32)) rfl rfl rfl ((congrFun F.1 355).trans s_355) rfl rfl ?_
                                          refine X_iast (k0 := 124) rfl rfl ((congrFun F.1 356).trans s_356) (vp_in_d rfl) rfl ?_
                                          refine X_aload_n rfl rfl rfl rfl ?_
                                          refine X_getR (a := 356) rfl rfl rfl ((congrFun F.1 355).trans s_355) rfl ((congrFun (F.2.1 355 (by decide)) 0).trans r_355_0) ?_
                                          refine X_iload_n rfl rfl rfl rfl ?_
                                          refine X_bipush (v := (9 : Int32)) rfl rfl rfl ?_
                                          refine X_iadd (v := (125 : Int32)) rfl rfl rfl ?_
                                          refine X_iload_n rfl rfl rfl rfl ?_
                                          refine X_iast (k0 := 125) rfl rfl ((congrFun F.1 356).trans s_356) (vp_in_d rfl) rfl ?_
                                          refine X_aload_n rfl rfl rfl rfl ?_
                                          refine X_getR (a := 356) rfl rfl rfl ((congrFun F.1 355).trans s_355) rfl ((congrFun (F.2.1 355 (by decide)) 0).trans r_355_0) ?_
                                          refine X_iconst (v := (0 : Int32)) rfl rfl rfl ?_
                                          refine X_dup2 rfl rfl rfl rfl ?_
                                          refine X_iald (v := (0 : Int32)) rfl rfl ((congrFun F.1 356).trans s_356) (vp_in_d rfl) ((congrFun (F.2.2 356 (by decide)).1 0).trans i_356_0) ?_
                                          refine X_iconst (v := (1 : Int32)) rfl rfl rfl ?_
                                          refine X_iadd (v := (1 : Int32)) rfl rfl rfl ?_
                                          refine X_iast (k0 := 0) rfl rfl ((congrFun F.1 356).trans s_356) (vp_in_d rfl) rfl ?_
                                          refine X_aload_n rfl rfl rfl rfl ?_
                                          refine X_getR (a := 356) rfl rfl rfl ((congrFun F.1 355).trans s_355) rfl ((congrFun (F.2.1 355 (by decide)) 0).trans r_355_0) ?_
                                          refine X_iconst (v := (0 : Int32)) rfl rfl rfl ?_
                                          refine X_iald (v := (1 : Int32)) rfl rfl ((congrFun F.1 356).trans s_356) (vp_in_d rfl) rfl ?_
                                          refine X_iconst (v := (1 : Int32)) rfl rfl rfl ?_
                                          refine X_isub (v := (0 : Int32)) rfl rfl rfl ?_
                                          refine LW_ireturn (st := []) rfl rfl rfl ?_
                                          refine LW_ireturn (st := []) rfl rfl rfl (congrArg (fun z => some (Value.int z)) ?_)
                                          simp only [Int32.lt_iff_toInt_lt, Int32.le_iff_toInt_le, ← Int32.toInt_inj, (show (0 : Int32).toInt = 0 from rfl), (show (9 : Int32).toInt = 9 from rfl), (show (97 : Int32).toInt = 97 from rfl), (show (122 : Int32).toInt = 122 from rfl)] at h1 h2 h3 h4 h5 h6 h7 h8 h9 h10 h11 h12 h13 h14 h15 h16 h17 h18 h30 h33
                                          unfold f_wordB
                                          rw [if_pos (by omega)]
                              · refine X_aload_n rfl rfl rfl rfl ?_
                                refine X_getI (v := (4 : Int32)) rfl rfl rfl ((congrFun F.1 355).trans s_355) rfl rfl ?_
                                refine X_iload_n rfl rfl rfl rfl ?_
                                refine X_iload_n rfl rfl rfl rfl ?_
                                refine X_iadd (v := (4 : Int32)) rfl rfl rfl ?_
                                refine X_icmp_gt (tgt := 37) rfl rfl rfl (fun q => absurd q (by decide)) (fun _ => ?_)
                                refine LW_goto (tgt := 85) rfl rfl ?_
                                refine X_iinc (v := (1 : Int32)) (ls' := [some (.ref 355), some (.int c), some (.int (4 : Int32)), some (.int (1 : Int32)), some (.int b4)]) rfl rfl rfl rfl rfl ?_
                                refine LW_goto (tgt := 2) rfl rfl ?_
                                refine X_iload_n rfl rfl rfl rfl ?_
                                refine X_iconst (v := (4 : Int32)) rfl rfl rfl ?_
                                refine X_icmp_ge (tgt := 91) rfl rfl rfl (fun q => absurd q (by decide)) (fun _ => ?_)
                                refine X_iload_n rfl rfl rfl rfl ?_
                                refine X_bipush (v := (8 : Int32)) rfl rfl rfl ?_
                                refine X_iload_n rfl rfl rfl rfl ?_
                                refine X_imul (v := (8 : Int32)) rfl rfl rfl ?_
                                refine X_ishr (v := (c >>> ((8 : Int32) &&& 31))) rfl rfl rfl ?_
                                refine X_sipush (v := (255 : Int32)) rfl rfl rfl ?_
                                refine X_iand (v := b5) rfl rfl hb5 ?_
                                refine X_istore (i := 4) (ls' := [some (.ref 355), some (.int c), some (.int (4 : Int32)), some (.int (1 : Int32)), some (.int b5)]) rfl rfl (Nat.le_of_ble_eq_true rfl) rfl ?_
                                refine X_iload rfl rfl rfl ?_
                                refine X_if_ne (tgt := 37) rfl rfl rfl (fun h36 => ?_) (fun h36 => ?_)
                                · refine X_iload rfl rfl rfl ?_
                                  refine X_bipush (v := (97 : Int32)) rfl rfl rfl ?_
                                  refine X_bipush (v := (122 : Int32)) rfl rfl rfl ?_
                                  refine X_callS (as := [.int b5, .int (97 : Int32), .int (122 : Int32)]) (st := []) rfl rfl rfl (by decide) rfl (Nat.le_of_ble_eq_true rfl) (by decide) (Nat.le_of_ble_eq_true rfl) rfl ?_
                                  refine LW_ls (ls' := [some (.int b5), some (.int (97 : Int32)), some (.int (122 : Int32))]) rfl ?_
                                  refine X_iload_n rfl rfl rfl rfl ?_
                                  refine X_iload_n rfl rfl rfl rfl ?_
                                  refine X_icmp_lt (tgt := 14) rfl rfl rfl (fun h37 => ?_) (fun h37 => ?_)
                                  · refine X_iconst (v := (0 : Int32)) rfl rfl rfl ?_
                                    refine LW_ireturn (st := []) rfl rfl rfl ?_
                                    refine X_if_eq (tgt := 59) rfl rfl rfl (fun _ => ?_) (fun q => absurd q (by decide))
                                    refine X_iconst (v := (0 : Int32)) rfl rfl rfl ?_
                                    refine LW_ireturn (st := []) rfl rfl rfl ?_
                                    refine X_if_ne (tgt := 35) rfl rfl rfl (fun q => absurd q (by decide)) (fun _ => ?_)
                                    refine X_iconst (v := (-1 : Int32)) rfl rfl rfl ?_
                                    refine LW_ireturn (st := []) rfl rfl rfl (congrArg (fun z => some (Value.int z)) ?_)
                                    simp only [Int32.lt_iff_toInt_lt, Int32.le_iff_toInt_le, ← Int32.toInt_inj, (show (0 : Int32).toInt = 0 from rfl), (show (9 : Int32).toInt = 9 from rfl), (show (97 : Int32).toInt = 97 from rfl), (show (122 : Int32).toInt = 122 from rfl)] at h1 h2 h3 h4 h5 h6 h7 h8 h9 h10 h11 h12 h13 h14 h15 h36 h37
                                    unfold f_wordB
                                    rw [if_neg (by omega)]
                                  · refine X_iload_n rfl rfl rfl rfl ?_
                                    refine X_iload_n rfl rfl rfl rfl ?_
                                    refine X_icmp_gt (tgt := 14) rfl rfl rfl (fun h38 => ?_) (fun h38 => ?_)
                                    · refine X_iconst (v := (0 : Int32)) rfl rfl rfl ?_
                                      refine LW_ireturn (st := []) rfl rfl rfl ?_
                                      refine X_if_eq (tgt := 59) rfl rfl rfl (fun _ => ?_) (fun q => absurd q (by decide))
                                      refine X_iconst (v := (0 : Int32)) rfl rfl rfl ?_
                                      refine LW_ireturn (st := []) rfl rfl rfl ?_
                                      refine X_if_ne (tgt := 35) rfl rfl rfl (fun q => absurd q (by decide)) (fun _ => ?_)
                                      refine X_iconst (v := (-1 : Int32)) rfl rfl rfl ?_
                                      refine LW_ireturn (st := []) rfl rfl rfl (congrArg (fun z => some (Value.int z)) ?_)
                                      simp only [Int32.lt_iff_toInt_lt, Int32.le_iff_toInt_le, ← Int32.toInt_inj, (show (0 : Int32).toInt = 0 from rfl), (show (9 : Int32).toInt = 9 from rfl), (show (97 : Int32).toInt = 97 from rfl), (show (122 : Int32).toInt = 122 from rfl)] at h1 h2 h3 h4 h5 h6 h7 h8 h9 h10 h11 h12 h13 h14 h15 h36 h37 h38
                                      unfold f_wordB
                                      rw [if_neg (by omega)]
                                    · refine X_iconst (v := (1 : Int32)) rfl rfl rfl ?_
                                      refine LW_goto (tgt := 15) rfl rfl ?_
                                      refine LW_ireturn (st := []) rfl rfl rfl ?_
                                      refine X_if_eq (tgt := 59) rfl rfl rfl (fun q => absurd q (by decide)) (fun _ => ?_)
                                      refine X_aload_n rfl rfl rfl rfl ?_
                                      refine X_getI (v := (4 : Int32)) rfl rfl rfl ((congrFun F.1 355).trans s_355) rfl rfl ?_
                                      refine X_iload_n rfl rfl rfl rfl ?_
                                      refine X_iload_n rfl rfl rfl rfl ?_
                                      refine X_iadd (v := (5 : Int32)) rfl rfl rfl ?_
                                      refine X_icmp_ge (tgt := 61) rfl rfl rfl (fun q => absurd q (by decide)) (fun _ => ?_)
                                      refine X_iconst (v := (0 : Int32)) rfl rfl rfl ?_
                                      refine LW_ireturn (st := []) rfl rfl rfl ?_
                                      refine X_if_ne (tgt := 35) rfl rfl rfl (fun q => absurd q (by decide)) (fun _ => ?_)
                                      refine X_iconst (v := (-1 : Int32)) rfl rfl rfl ?_
                                      refine LW_ireturn (st := []) rfl rfl rfl (congrArg (fun z => some (Value.int z)) ?_)
                                      simp only [Int32.lt_iff_toInt_lt, Int32.le_iff_toInt_le, ← Int32.toInt_inj, (show (0 : Int32).toInt = 0 from rfl), (show (9 : Int32).toInt = 9 from rfl), (show (97 : Int32).toInt = 97 from rfl), (show (122 : Int32).toInt = 122 from rfl)] at h1 h2 h3 h4 h5 h6 h7 h8 h9 h10 h11 h12 h13 h14 h15 h36 h37 h38
                                      unfold f_wordB
                                      rw [if_neg (by omega)]
                                · refine X_aload_n rfl rfl rfl rfl ?_
                                  refine X_getI (v := (4 : Int32)) rfl rfl rfl ((congrFun F.1 355).trans s_355) rfl rfl ?_
                                  refine X_iload_n rfl rfl rfl rfl ?_
                                  refine X_iload_n rfl rfl rfl rfl ?_
                                  refine X_iadd (v := (5 : Int32)) rfl rfl rfl ?_
                                  refine X_icmp_gt (tgt := 37) rfl rfl rfl (fun q => absurd q (by decide)) (fun _ => ?_)
                                  refine LW_goto (tgt := 85) rfl rfl ?_
                                  refine X_iinc (v := (2 : Int32)) (ls' := [some (.ref 355), some (.int c), some (.int (4 : Int32)), some (.int (2 : Int32)), some (.int b5)]) rfl rfl rfl rfl rfl ?_
                                  refine LW_goto (tgt := 2) rfl rfl ?_
                                  refine X_iload_n rfl rfl rfl rfl ?_
                                  refine X_iconst (v := (4 : Int32)) rfl rfl rfl ?_
                                  refine X_icmp_ge (tgt := 91) rfl rfl rfl (fun q => absurd q (by decide)) (fun _ => ?_)
                                  refine X_iload_n rfl rfl rfl rfl ?_
                                  refine X_bipush (v := (8 : Int32)) rfl rfl rfl ?_
                                  refine X_iload_n rfl rfl rfl rfl ?_
                                  refine X_imul (v := (16 : Int32)) rfl rfl rfl ?_
                                  refine X_ishr (v := (c >>> ((16 : Int32) &&& 31))) rfl rfl rfl ?_
                                  refine X_sipush (v := (255 : Int32)) rfl rfl rfl ?_
                                  refine X_iand (v := b6) rfl rfl hb6 ?_
                                  refine X_istore (i := 4) (ls' := [some (.ref 355), some (.int c), some (.int (4 : Int32)), some (.int (2 : Int32)), some (.int b6)]) rfl rfl (Nat.le_of_ble_eq_true rfl) rfl ?_
                                  refine X_iload rfl rfl rfl ?_
                                  refine X_if_ne (tgt := 37) rfl rfl rfl (fun h39 => ?_) (fun h39 => ?_)
                                  · refine X_iload rfl rfl rfl ?_
                                    refine X_bipush (v := (97 : Int32)) rfl rfl rfl ?_
                                    refine X_bipush (v := (122 : Int32)) rfl rfl rfl ?_
                                    refine X_callS (as := [.int b6, .int (97 : Int32), .int (122 : Int32)]) (st := []) rfl rfl rfl (by decide) rfl (Nat.le_of_ble_eq_true rfl) (by decide) (Nat.le_of_ble_eq_true rfl) rfl ?_
                                    refine LW_ls (ls' := [some (.int b6), some (.int (97 : Int32)), some (.int (122 : Int32))]) rfl ?_
                                    refine X_iload_n rfl rfl rfl rfl ?_
                                    refine X_iload_n rfl rfl rfl rfl ?_
                                    refine X_icmp_lt (tgt := 14) rfl rfl rfl (fun h40 => ?_) (fun h40 => ?_)
                                    · refine X_iconst (v := (0 : Int32)) rfl rfl rfl ?_
                                      refine LW_ireturn (st := []) rfl rfl rfl ?_
                                      refine X_if_eq (tgt := 59) rfl rfl rfl (fun _ => ?_) (fun q => absurd q (by decide))
                                      refine X_iconst (v := (0 : Int32)) rfl rfl rfl ?_
                                      refine LW_ireturn (st := []) rfl rfl rfl ?_
                                      refine X_if_ne (tgt := 35) rfl rfl rfl (fun q => absurd q (by decide)) (fun _ => ?_)
                                      refine X_iconst (v := (-1 : Int32)) rfl rfl rfl ?_
                                      refine LW_ireturn (st := []) rfl rfl rfl (congrArg (fun z => some (Value.int z)) ?_)
                                      simp only [Int32.lt_iff_toInt_lt, Int32.le_iff_toInt_le, ← Int32.toInt_inj, (show (0 : Int32).toInt = 0 from rfl), (show (9 : Int32).toInt = 9 from rfl), (show (97 : Int32).toInt = 97 from rfl), (show (122 : Int32).toInt = 122 from rfl)] at h1 h2 h3 h4 h5 h6 h7 h8 h9 h10 h11 h12 h13 h14 h15 h36 h39 h40
                                      unfold f_wordB
                                      rw [if_neg (by omega)]
                                    · refine X_iload_n rfl rfl rfl rfl ?_
                                      refine X_iload_n rfl rfl rfl rfl ?_
                                      refine X_icmp_gt (tgt := 14) rfl rfl rfl (fun h41 => ?_) (fun h41 => ?_)
                                      · refine X_iconst (v := (0 : Int32)) rfl rfl rfl ?_
                                        refine LW_ireturn (st := []) rfl rfl rfl ?_
                                        refine X_if_eq (tgt := 59) rfl rfl rfl (fun _ => ?_) (fun q => absurd q (by decide))
                                        refine X_iconst (v := (0 : Int32)) rfl rfl rfl ?_
                                        refine LW_ireturn (st := []) rfl rfl rfl ?_
                                        refine X_if_ne (tgt := 35) rfl rfl rfl (fun q => absurd q (by decide)) (fun _ => ?_)
                                        refine X_iconst (v := (-1 : Int32)) rfl rfl rfl ?_
                                        refine LW_ireturn (st := []) rfl rfl rfl (congrArg (fun z => some (Value.int z)) ?_)
                                        simp only [Int32.lt_iff_toInt_lt, Int32.le_iff_toInt_le, ← Int32.toInt_inj, (show (0 : Int32).toInt = 0 from rfl), (show (9 : Int32).toInt = 9 from rfl), (show (97 : Int32).toInt = 97 from rfl), (show (122 : Int32).toInt = 122 from rfl)] at h1 h2 h3 h4 h5 h6 h7 h8 h9 h10 h11 h12 h13 h14 h15 h36 h39 h40 h41
                                        unfold f_wordB
                                        rw [if_neg (by omega)]
                                      · refine X_iconst (v := (1 : Int32)) rfl rfl rfl ?_
                                        refine LW_goto (tgt := 15) rfl rfl ?_
                                        refine LW_ireturn (st := []) rfl rfl rfl ?_
                                        refine X_if_eq (tgt := 59) rfl rfl rfl (fun q => absurd q (by decide)) (fun _ => ?_)
                                        refine X_aload_n rfl rfl rfl rfl ?_
                                        refine X_getI (v := (4 : Int32)) rfl rfl rfl ((congrFun F.1 355).trans s_355) rfl rfl ?_
                                        refine X_iload_n rfl rfl rfl rfl ?_
                                        refine X_iload_n rfl rfl rfl rfl ?_
                                        refine X_iadd (v := (6 : Int32)) rfl rfl rfl ?_
                                        refine X_icmp_ge (tgt := 61) rfl rfl rfl (fun q => absurd q (by decide)) (fun _ => ?_)
                                        refine X_iconst (v := (0 : Int32)) rfl rfl rfl ?_
                                        refine LW_ireturn (st := []) rfl rfl rfl ?_
                                        refine X_if_ne (tgt := 35) rfl rfl rfl (fun q => absurd q (by decide)) (fun _ => ?_)
                                        refine X_iconst (v := (-1 : Int32)) rfl rfl rfl ?_
                                        refine LW_ireturn (st := []) rfl rfl rfl (congrArg (fun z => some (Value.int z)) ?_)
                                        simp only [Int32.lt_iff_toInt_lt, Int32.le_iff_toInt_le, ← Int32.toInt_inj, (show (0 : Int32).toInt = 0 from rfl), (show (9 : Int32).toInt = 9 from rfl), (show (97 : Int32).toInt = 97 from rfl), (show (122 : Int32).toInt = 122 from rfl)] at h1 h2 h3 h4 h5 h6 h7 h8 h9 h10 h11 h12 h13 h14 h15 h36 h39 h40 h41
                                        unfold f_wordB
                                        rw [if_neg (by omega)]
                                  · refine X_aload_n rfl rfl rfl rfl ?_
                                    refine X_getI (v := (4 : Int32)) rfl rfl rfl ((congrFun F.1 355).trans s_355) rfl rfl ?_
                                    refine X_iload_n rfl rfl rfl rfl ?_
                                    refine X_iload_n rfl rfl rfl rfl ?_
                                    refine X_iadd (v := (6 : Int32)) rfl rfl rfl ?_
                                    refine X_icmp_gt (tgt := 37) rfl rfl rfl (fun q => absurd q (by decide)) (fun _ => ?_)
                                    refine LW_goto (tgt := 85) rfl rfl ?_
                                    refine X_iinc (v := (3 : Int32)) (ls' := [some (.ref 355), some (.int c), some (.int (4 : Int32)), some (.int (3 : Int32)), some (.int b6)]) rfl rfl rfl rfl rfl ?_
                                    refine LW_goto (tgt := 2) rfl rfl ?_
                                    refine X_iload_n rfl rfl rfl rfl ?_
                                    refine X_iconst (v := (4 : Int32)) rfl rfl rfl ?_
                                    refine X_icmp_ge (tgt := 91) rfl rfl rfl (fun q => absurd q (by decide)) (fun _ => ?_)
                                    refine X_iload_n rfl rfl rfl rfl ?_
                                    refine X_bipush (v := (8 : Int32)) rfl rfl rfl ?_
                                    refine X_iload_n rfl rfl rfl rfl ?_
                                    refine X_imul (v := (24 : Int32)) rfl rfl rfl ?_
                                    refine X_ishr (v := (c >>> ((24 : Int32) &&& 31))) rfl rfl rfl ?_
                                    refine X_sipush (v := (255 : Int32)) rfl rfl rfl ?_
                                    refine X_iand (v := b7) rfl rfl hb7 ?_
                                    refine X_istore (i := 4) (ls' := [some (.ref 355), some (.int c), some (.int (4 : Int32)), some (.int (3 : Int32)), some (.int b7)]) rfl rfl (Nat.le_of_ble_eq_true rfl) rfl ?_
                                    refine X_iload rfl rfl rfl ?_
                                    refine X_if_ne (tgt := 37) rfl rfl rfl (fun h42 => ?_) (fun h42 => ?_)
                                    · refine X_iload rfl rfl rfl ?_
                                      refine X_bipush (v := (97 : Int32)) rfl rfl rfl ?_
                                      refine X_bipush (v := (122 : Int32)) rfl rfl rfl ?_
                                      refine X_callS (as := [.int b7, .int (97 : Int32), .int (122 : Int32)]) (st := []) rfl rfl rfl (by decide) rfl (Nat.le_of_ble_eq_true rfl) (by decide) (Nat.le_of_ble_eq_true rfl) rfl ?_
                                      refine LW_ls (ls' := [some (.int b7), some (.int (97 : Int32)), some (.int (122 : Int32))]) rfl ?_
                                      refine X_iload_n rfl rfl rfl rfl ?_
                                      refine X_iload_n rfl rfl rfl rfl ?_
                                      refine X_icmp_lt (tgt := 14) rfl rfl rfl (fun h43 => ?_) (fun h43 => ?_)
                                      · refine X_iconst (v := (0 : Int32)) rfl rfl rfl ?_
                                        refine LW_ireturn (st := []) rfl rfl rfl ?_
                                        refine X_if_eq (tgt := 59) rfl rfl rfl (fun _ => ?_) (fun q => absurd q (by decide))
                                        refine X_iconst (v := (0 : Int32)) rfl rfl rfl ?_
                                        refine LW_ireturn (st := []) rfl rfl rfl ?_
                                        refine X_if_ne (tgt := 35) rfl rfl rfl (fun q => absurd q (by decide)) (fun _ => ?_)
                                        refine X_iconst (v := (-1 : Int32)) rfl rfl rfl ?_
                                        refine LW_ireturn (st := []) rfl rfl rfl (congrArg (fun z => some (Value.int z)) ?_)
                                        simp only [Int32.lt_iff_toInt_lt, Int32.le_iff_toInt_le, ← Int32.toInt_inj, (show (0 : Int32).toInt = 0 from rfl), (show (9 : Int32).toInt = 9 from rfl), (show (97 : Int32).toInt = 97 from rfl), (show (122 : Int32).toInt = 122 from rfl)] at h1 h2 h3 h4 h5 h6 h7 h8 h9 h10 h11 h12 h13 h14 h15 h36 h39 h42 h43
                                        unfold f_wordB
                                        rw [if_neg (by omega)]
                                      · refine X_iload_n rfl rfl rfl rfl ?_
                                        refine X_iload_n rfl rfl rfl rfl ?_
                                        refine X_icmp_gt (tgt := 14) rfl rfl rfl (fun h44 => ?_) (fun h44 => ?_)
                                        · refine X_iconst (v := (0 : Int32)) rfl rfl rfl ?_
                                          refine LW_ireturn (st := []) rfl rfl rfl ?_
                                          refine X_if_eq (tgt := 59) rfl rfl rfl (fun _ => ?_) (fun q => absurd q (by decide))
                                          refine X_iconst (v := (0 : Int32)) rfl rfl rfl ?_
                                          refine LW_ireturn (st := []) rfl rfl rfl ?_
                                          refine X_if_ne (tgt := 35) rfl rfl rfl (fun q => absurd q (by decide)) (fun _ => ?_)
                                          refine X_iconst (v := (-1 : Int32)) rfl rfl rfl ?_
                                          refine LW_ireturn (st := []) rfl rfl rfl (congrArg (fun z => some (Value.int z)) ?_)
                                          simp only [Int32.lt_iff_toInt_lt, Int32.le_iff_toInt_le, ← Int32.toInt_inj, (show (0 : Int32).toInt = 0 from rfl), (show (9 : Int32).toInt = 9 from rfl), (show (97 : Int32).toInt = 97 from rfl), (show (122 : Int32).toInt = 122 from rfl)] at h1 h2 h3 h4 h5 h6 h7 h8 h9 h10 h11 h12 h13 h14 h15 h36 h39 h42 h43 h44
                                          unfold f_wordB
                                          rw [if_neg (by omega)]
                                        · refine X_iconst (v := (1 : Int32)) rfl rfl rfl ?_
                                          refine LW_goto (tgt := 15) rfl rfl ?_
                                          refine LW_ireturn (st := []) rfl rfl rfl ?_
                                          refine X_if_eq (tgt := 59) rfl rfl rfl (fun q => absurd q (by decide)) (fun _ => ?_)
                                          refine X_aload_n rfl rfl rfl rfl ?_
                                          refine X_getI (v := (4 : Int32)) rfl rfl rfl ((congrFun F.1 355).trans s_355) rfl rfl ?_
                                          refine X_iload_n rfl rfl rfl rfl ?_
                                          refine X_iload_n rfl rfl rfl rfl ?_
                                          refine X_iadd (v := (7 : Int32)) rfl rfl rfl ?_
                                          refine X_icmp_ge (tgt := 61) rfl rfl rfl (fun q => absurd q (by decide)) (fun _ => ?_)
                                          refine X_iconst (v := (0 : Int32)) rfl rfl rfl ?_
                                          refine LW_ireturn (st := []) rfl rfl rfl ?_
                                          refine X_if_ne (tgt := 35) rfl rfl rfl (fun q => absurd q (by decide)) (fun _ => ?_)
                                          refine X_iconst (v := (-1 : Int32)) rfl rfl rfl ?_
                                          refine LW_ireturn (st := []) rfl rfl rfl (congrArg (fun z => some (Value.int z)) ?_)
                                          simp only [Int32.lt_iff_toInt_lt, Int32.le_iff_toInt_le, ← Int32.toInt_inj, (show (0 : Int32).toInt = 0 from rfl), (show (9 : Int32).toInt = 9 from rfl), (show (97 : Int32).toInt = 97 from rfl), (show (122 : Int32).toInt = 122 from rfl)] at h1 h2 h3 h4 h5 h6 h7 h8 h9 h10 h11 h12 h13 h14 h15 h36 h39 h42 h43 h44
                                          unfold f_wordB
                                          rw [if_neg (by omega)]
                                    · refine X_aload_n rfl rfl rfl rfl ?_
                                      refine X_getI (v := (4 : Int32)) rfl rfl rfl ((congrFun F.1 355).trans s_355) rfl rfl ?_
                                      refine X_iload_n rfl rfl rfl rfl ?_
                                      refine X_iload_n rfl rfl rfl rfl ?_
                                      refine X_iadd (v := (7 : Int32)) rfl rfl rfl ?_
                                      refine X_icmp_gt (tgt := 37) rfl rfl rfl (fun q => absurd q (by decide)) (fun _ => ?_)
                                      refine LW_goto (tgt := 85) rfl rfl ?_
                                      refine X_iinc (v := (4 : Int32)) (ls' := [some (.ref 355), some (.int c), some (.int (4 : Int32)), some (.int (4 : Int32)), some (.int b7)]) rfl rfl rfl rfl rfl ?_
                                      refine LW_goto (tgt := 2) rfl rfl ?_
                                      refine X_iload_n rfl rfl rfl rfl ?_
                                      refine X_iconst (v := (4 : Int32)) rfl rfl rfl ?_
                                      refine X_icmp_ge (tgt := 91) rfl rfl rfl (fun _ => ?_) (fun q => absurd q (by decide))
                                      refine X_iconst (v := (1 : Int32)) rfl rfl rfl ?_
                                      refine LW_ireturn (st := []) rfl rfl rfl ?_
                                      refine X_if_ne (tgt := 35) rfl rfl rfl (fun _ => ?_) (fun q => absurd q (by decide))
                                      refine X_aload_n rfl rfl rfl rfl ?_
                                      refine X_iload_n rfl rfl rfl rfl ?_
                                      refine X_callV (as := [.int s]) (st := []) rfl rfl rfl (by decide) rfl (Nat.le_of_ble_eq_true rfl) (by decide) (Nat.le_of_ble_eq_true rfl) rfl ((congrFun F.1 355).trans s_355) (by decide) ?_
                                      refine LW_ls (ls' := [some (.ref 355), some (.int s), none, none]) rfl ?_
                                      refine X_aload_n rfl rfl rfl rfl ?_
                                      refine X_getI (v := (4 : Int32)) rfl rfl rfl ((congrFun F.1 355).trans s_355) rfl rfl ?_
                                      refine X_if_eq (tgt := 25) rfl rfl rfl (fun q => absurd q (by decide)) (fun _ => ?_)
                                      refine X_aload_n rfl rfl rfl rfl ?_
                                      refine X_callV (as := []) (st := []) rfl rfl rfl (by decide) rfl (Nat.le_of_ble_eq_true rfl) (by decide) (Nat.le_of_ble_eq_true rfl) rfl ((congrFun F.1 355).trans s_355) (by decide) ?_
                                      refine LW_ls (ls' := [some (.ref 355), none, none, none]) rfl ?_
                                      refine X_iconst (v := (0 : Int32)) rfl rfl rfl ?_
                                      refine X_istore_n (i := 1) (ls' := [some (.ref 355), some (.int (0 : Int32)), none, none]) rfl rfl rfl (Nat.le_of_ble_eq_true rfl) rfl ?_
                                      refine X_iload_n rfl rfl rfl rfl ?_
                                      refine X_aload_n rfl rfl rfl rfl ?_
                                      refine X_getR (a := 356) rfl rfl rfl ((congrFun F.1 355).trans s_355) rfl ((congrFun (F.2.1 355 (by decide)) 0).trans r_355_0) ?_
                                      refine X_iconst (v := (0 : Int32)) rfl rfl rfl ?_
                                      refine X_iald (v := (0 : Int32)) rfl rfl ((congrFun F.1 356).trans s_356) (vp_in_d rfl) ((congrFun (F.2.2 356 (by decide)).1 0).trans i_356_0) ?_
                                      refine X_icmp_ge (tgt := 83) rfl rfl rfl (fun _ => ?_) (fun q => absurd q (by decide))
                                      refine X_iconst (v := (0 : Int32)) rfl rfl rfl ?_
                                      refine LW_ireturn (st := []) rfl rfl rfl ?_
                                      refine X_if_ne (tgt := 25) rfl rfl rfl (fun q => absurd q (by decide)) (fun _ => ?_)
                                      refine X_aload_n rfl rfl rfl rfl ?_
                                      refine X_getR (a := 356) rfl rfl rfl ((congrFun F.1 355).trans s_355) rfl ((congrFun (F.2.1 355 (by decide)) 0).trans r_355_0) ?_
                                      refine X_iconst (v := (0 : Int32)) rfl rfl rfl ?_
                                      refine X_iald (v := (0 : Int32)) rfl rfl ((congrFun F.1 356).trans s_356) (vp_in_d rfl) ((congrFun (F.2.2 356 (by decide)).1 0).trans i_356_0) ?_
                                      refine X_bipush (v := (24 : Int32)) rfl rfl rfl ?_
                                      refine X_icmp_ne (tgt := 27) rfl rfl rfl (fun _ => ?_) (fun q => absurd q (by decide))
                                      refine X_bipush (v := (116 : Int32)) rfl rfl rfl ?_
                                      refine X_bipush (v := (10 : Int32)) rfl rfl rfl ?_
                                      refine X_aload_n rfl rfl rfl rfl ?_
                                      refine X_getR (a := 356) rfl rfl rfl ((congrFun F.1 355).trans s_355) rfl ((congrFun (F.2.1 355 (by decide)) 0).trans r_355_0) ?_
                                      refine X_iconst (v := (0 : Int32)) rfl rfl rfl ?_
                                      refine X_iald (v := (0 : Int32)) rfl rfl ((congrFun F.1 356).trans s_356) (vp_in_d rfl) ((congrFun (F.2.2 356 (by decide)).1 0).trans i_356_0) ?_
                                      refine X_imul (v := (0 : Int32)) rfl rfl rfl ?_
                                      refine X_iadd (v := (116 : Int32)) rfl rfl rfl ?_
                                      refine X_istore_n (i := 2) (ls' := [some (.ref 355), some (.int s), some (.int (116 : Int32)), none]) rfl rfl rfl (Nat.le_of_ble_eq_true rfl) rfl ?_
                                      refine X_iconst (v := (0 : Int32)) rfl rfl rfl ?_
                                      refine X_istore_n (i := 3) (ls' := [some (.ref 355), some (.int s), some (.int (116 : Int32)), some (.int (0 : Int32))]) rfl rfl rfl (Nat.le_of_ble_eq_true rfl) rfl ?_
                                      refine X_iload_n rfl rfl rfl rfl ?_
                                      refine X_bipush (v := (8 : Int32)) rfl rfl rfl ?_
                                      refine X_icmp_ge (tgt := 80) rfl rfl rfl (fun q => absurd q (by decide)) (fun _ => ?_)
                                      refine X_aload_n rfl rfl rfl rfl ?_
                                      refine X_getR (a := 356) rfl rfl rfl ((congrFun F.1 355).trans s_355) rfl ((congrFun (F.2.1 355 (by decide)) 0).trans r_355_0) ?_
                                      refine X_iload_n rfl rfl rfl rfl ?_
                                      refine X_iload_n rfl rfl rfl rfl ?_
                                      refine X_iadd (v := (116 : Int32)) rfl rfl rfl ?_
                                      refine X_iload_n rfl rfl rfl rfl ?_
                                      refine X_aload_n rfl rfl rfl rfl ?_
                                      refine X_getI (v := (4 : Int32)) rfl rfl rfl ((congrFun F.1 355).trans s_355) rfl rfl ?_
                                      refine X_icmp_ge (tgt := 72) rfl rfl rfl (fun q => absurd q (by decide)) (fun _ => ?_)
                                      refine X_aload_n rfl rfl rfl rfl ?_
                                      refine X_getR (a := 359) rfl rfl rfl ((congrFun F.1 355).trans s_355) rfl ((congrFun (F.2.1 355 (by decide)) 3).trans r_355_3) ?_
                                      refine X_iload_n rfl rfl rfl rfl ?_
                                      refine X_iald (v := (b0 - (97 : Int32))) rfl rfl ((congrFun F.1 359).trans s_359) (vp_in_d rfl) rfl ?_
                                      refine LW_goto (tgt := 73) rfl rfl ?_
                                      refine X_iast (k0 := 116) rfl rfl ((congrFun F.1 356).trans s_356) (vp_in_d rfl) rfl ?_
                                      refine X_iinc (v := (1 : Int32)) (ls' := [some (.ref 355), some (.int s), some (.int (116 : Int32)), some (.int (1 : Int32))]) rfl rfl rfl rfl rfl ?_
                                      refine LW_goto (tgt := 42) rfl rfl ?_
                                      refine X_iload_n rfl rfl rfl rfl ?_
                                      refine X_bipush (v := (8 : Int32)) rfl rfl rfl ?_
                                      refine X_icmp_ge (tgt := 80) rfl rfl rfl (fun q => absurd q (by decide)) (fun _ => ?_)
                                      refine X_aload_n rfl rfl rfl rfl ?_
                                      refine X_getR (a := 356) rfl rfl rfl ((congrFun F.1 355).trans s_355) rfl ((congrFun (F.2.1 355 (by decide)) 0).trans r_355_0) ?_
                                      refine X_iload_n rfl rfl rfl rfl ?_
                                      refine X_iload_n rfl rfl rfl rfl ?_
                                      refine X_iadd (v := (117 : Int32)) rfl rfl rfl ?_
                                      refine X_iload_n rfl rfl rfl rfl ?_
                                      refine X_aload_n rfl rfl rfl rfl ?_
                                      refine X_getI (v := (4 : Int32)) rfl rfl rfl ((congrFun F.1 355).trans s_355) rfl rfl ?_
                                      refine X_icmp_ge (tgt := 72) rfl rfl rfl (fun q => absurd q (by decide)) (fun _ => ?_)
                                      refine X_aload_n rfl rfl rfl rfl ?_
                                      refine X_getR (a := 359) rfl rfl rfl ((congrFun F.1 355).trans s_355) rfl ((congrFun (F.2.1 355 (by decide)) 3).trans r_355_3) ?_
                                      refine X_iload_n rfl rfl rfl rfl ?_
                                      refine X_iald (v := (b1 - (97 : Int32))) rfl rfl ((congrFun F.1 359).trans s_359) (vp_in_d rfl) rfl ?_
                                      refine LW_goto (tgt := 73) rfl rfl ?_
                                      refine X_iast (k0 := 117) rfl rfl ((congrFun F.1 356).trans s_356) (vp_in_d rfl) rfl ?_
                                      refine X_iinc (v := (2 : Int32)) (ls' := [some (.ref 355), some (.int s), some (.int (116 : Int32)), some (.int (2 : Int32))]) rfl rfl rfl rfl rfl ?_
                                      refine LW_goto (tgt := 42) rfl rfl ?_
                                      refine X_iload_n rfl rfl rfl rfl ?_
                                      refine X_bipush (v := (8 : Int32)) rfl rfl rfl ?_
                                      refine X_icmp_ge (tgt := 80) rfl rfl rfl (fun q => absurd q (by decide)) (fun _ => ?_)
                                      refine X_aload_n rfl rfl rfl rfl ?_
                                      refine X_getR (a := 356) rfl rfl rfl ((congrFun F.1 355).trans s_355) rfl ((congrFun (F.2.1 355 (by decide)) 0).trans r_355_0) ?_
                                      refine X_iload_n rfl rfl rfl rfl ?_
                                      refine X_iload_n rfl rfl rfl rfl ?_
                                      refine X_iadd (v := (118 : Int32)) rfl rfl rfl ?_
                                      refine X_iload_n rfl rfl rfl rfl ?_
                                      refine X_aload_n rfl rfl rfl rfl ?_
                                      refine X_getI (v := (4 : Int32)) rfl rfl rfl ((congrFun F.1 355).trans s_355) rfl rfl ?_
                                      refine X_icmp_ge (tgt := 72) rfl rfl rfl (fun q => absurd q (by decide)) (fun _ => ?_)
                                      refine X_aload_n rfl rfl rfl rfl ?_
                                      refine X_getR (a := 359) rfl rfl rfl ((congrFun F.1 355).trans s_355) rfl ((congrFun (F.2.1 355 (by decide)) 3).trans r_355_3) ?_
                                      refine X_iload_n rfl rfl rfl rfl ?_
                                      refine X_iald (v := (b2 - (97 : Int32))) rfl rfl ((congrFun F.1 359).trans s_359) (vp_in_d rfl) rfl ?_
                                      refine LW_goto (tgt := 73) rfl rfl ?_
                                      refine X_iast (k0 := 118) rfl rfl ((congrFun F.1 356).trans s_356) (vp_in_d rfl) rfl ?_
                                      refine X_iinc (v := (3 : Int32)) (ls' := [some (.ref 355), some (.int s), some (.int (116 : Int32)), some (.int (3 : Int32))]) rfl rfl rfl rfl rfl ?_
                                      refine LW_goto (tgt := 42) rfl rfl ?_
                                      refine X_iload_n rfl rfl rfl rfl ?_
                                      refine X_bipush (v := (8 : Int32)) rfl rfl rfl ?_
                                      refine X_icmp_ge (tgt := 80) rfl rfl rfl (fun q => absurd q (by decide)) (fun _ => ?_)
                                      refine X_aload_n rfl rfl rfl rfl ?_
                                      refine X_getR (a := 356) rfl rfl rfl ((congrFun F.1 355).trans s_355) rfl ((congrFun (F.2.1 355 (by decide)) 0).trans r_355_0) ?_
                                      refine X_iload_n rfl rfl rfl rfl ?_
                                      refine X_iload_n rfl rfl rfl rfl ?_
                                      refine X_iadd (v := (119 : Int32)) rfl rfl rfl ?_
                                      refine X_iload_n rfl rfl rfl rfl ?_
                                      refine X_aload_n rfl rfl rfl rfl ?_
                                      refine X_getI (v := (4 : Int32)) rfl rfl rfl ((congrFun F.1 355).trans s_355) rfl rfl ?_
                                      refine X_icmp_ge (tgt := 72) rfl rfl rfl (fun q => absurd q (by decide)) (fun _ => ?_)
                                      refine X_aload_n rfl rfl rfl rfl ?_
                                      refine X_getR (a := 359) rfl rfl rfl ((congrFun F.1 355).trans s_355) rfl ((congrFun (F.2.1 355 (by decide)) 3).trans r_355_3) ?_
                                      refine X_iload_n rfl rfl rfl rfl ?_
                                      refine X_iald (v := (b3 - (97 : Int32))) rfl rfl ((congrFun F.1 359).trans s_359) (vp_in_d rfl) rfl ?_
                                      refine LW_goto (tgt := 73) rfl rfl ?_
                                      refine X_iast (k0 := 119) rfl rfl ((congrFun F.1 356).trans s_356) (vp_in_d rfl) rfl ?_
                                      refine X_iinc (v := (4 : Int32)) (ls' := [some (.ref 355), some (.int s), some (.int (116 : Int32)), some (.int (4 : Int32))]) rfl rfl rfl rfl rfl ?_
                                      refine LW_goto (tgt := 42) rfl rfl ?_
                                      refine X_iload_n rfl rfl rfl rfl ?_
                                      refine X_bipush (v := (8 : Int32)) rfl rfl rfl ?_
                                      refine X_icmp_ge (tgt := 80) rfl rfl rfl (fun q => absurd q (by decide)) (fun _ => ?_)
                                      refine X_aload_n rfl rfl rfl rfl ?_
                                      refine X_getR (a := 356) rfl rfl rfl ((congrFun F.1 355).trans s_355) rfl ((congrFun (F.2.1 355 (by decide)) 0).trans r_355_0) ?_
                                      refine X_iload_n rfl rfl rfl rfl ?_
                                      refine X_iload_n rfl rfl rfl rfl ?_
                                      refine X_iadd (v := (120 : Int32)) rfl rfl rfl ?_
                                      refine X_iload_n rfl rfl rfl rfl ?_
                                      refine X_aload_n rfl rfl rfl rfl ?_
                                      refine X_getI (v := (4 : Int32)) rfl rfl rfl ((congrFun F.1 355).trans s_355) rfl rfl ?_
                                      refine X_icmp_ge (tgt := 72) rfl rfl rfl (fun _ => ?_) (fun q => absurd q (by decide))
                                      refine X_iconst (v := (0 : Int32)) rfl rfl rfl ?_
                                      refine X_iast (k0 := 120) rfl rfl ((congrFun F.1 356).trans s_356) (vp_in_d rfl) rfl ?_
                                      refine X_iinc (v := (5 : Int32)) (ls' := [some (.ref 355), some (.int s), some (.int (116 : Int32)), some (.int (5 : Int32))]) rfl rfl rfl rfl rfl ?_
                                      refine LW_goto (tgt := 42) rfl rfl ?_
                                      refine X_iload_n rfl rfl rfl rfl ?_
                                      refine X_bipush (v := (8 : Int32)) rfl rfl rfl ?_
                                      refine X_icmp_ge (tgt := 80) rfl rfl rfl (fun q => absurd q (by decide)) (fun _ => ?_)
                                      refine X_aload_n rfl rfl rfl rfl ?_
                                      refine X_getR (a := 356) rfl rfl rfl ((congrFun F.1 355).trans s_355) rfl ((congrFun (F.2.1 355 (by decide)) 0).trans r_355_0) ?_
                                      refine X_iload_n rfl rfl rfl rfl ?_
                                      refine X_iload_n rfl rfl rfl rfl ?_
                                      refine X_iadd (v := (121 : Int32)) rfl rfl rfl ?_
                                      refine X_iload_n rfl rfl rfl rfl ?_
                                      refine X_aload_n rfl rfl rfl rfl ?_
                                      refine X_getI (v := (4 : Int32)) rfl rfl rfl ((congrFun F.1 355).trans s_355) rfl rfl ?_
                                      refine X_icmp_ge (tgt := 72) rfl rfl rfl (fun _ => ?_) (fun q => absurd q (by decide))
                                      refine X_iconst (v := (0 : Int32)) rfl rfl rfl ?_
                                      refine X_iast (k0 := 121) rfl rfl ((congrFun F.1 356).trans s_356) (vp_in_d rfl) rfl ?_
                                      refine X_iinc (v := (6 : Int32)) (ls' := [some (.ref 355), some (.int s), some (.int (116 : Int32)), some (.int (6 : Int32))]) rfl rfl rfl rfl rfl ?_
                                      refine LW_goto (tgt := 42) rfl rfl ?_
                                      refine X_iload_n rfl rfl rfl rfl ?_
                                      refine X_bipush (v := (8 : Int32)) rfl rfl rfl ?_
                                      refine X_icmp_ge (tgt := 80) rfl rfl rfl (fun q => absurd q (by decide)) (fun _ => ?_)
                                      refine X_aload_n rfl rfl rfl rfl ?_
                                      refine X_getR (a := 356) rfl rfl rfl ((congrFun F.1 355).trans s_355) rfl ((congrFun (F.2.1 355 (by decide)) 0).trans r_355_0) ?_
                                      refine X_iload_n rfl rfl rfl rfl ?_
                                      refine X_iload_n rfl rfl rfl rfl ?_
                                      refine X_iadd (v := (122 : Int32)) rfl rfl rfl ?_
                                      refine X_iload_n rfl rfl rfl rfl ?_
                                      refine X_aload_n rfl rfl rfl rfl ?_
                                      refine X_getI (v := (4 : Int32)) rfl rfl rfl ((congrFun F.1 355).trans s_355) rfl rfl ?_
                                      refine X_icmp_ge (tgt := 72) rfl rfl rfl (fun _ => ?_) (fun q => absurd q (by decide))
                                      refine X_iconst (v := (0 : Int32)) rfl rfl rfl ?_
                                      refine X_iast (k0 := 122) rfl rfl ((congrFun F.1 356).trans s_356) (vp_in_d rfl) rfl ?_
                                      refine X_iinc (v := (7 : Int32)) (ls' := [some (.ref 355), some (.int s), some (.int (116 : Int32)), some (.int (7 : Int32))]) rfl rfl rfl rfl rfl ?_
                                      refine LW_goto (tgt := 42) rfl rfl ?_
                                      refine X_iload_n rfl rfl rfl rfl ?_
                                      refine X_bipush (v := (8 : Int32)) rfl rfl rfl ?_
                                      refine X_icmp_ge (tgt := 80) rfl rfl rfl (fun q => absurd q (by decide)) (fun _ => ?_)
                                      refine X_aload_n rfl rfl rfl rfl ?_
                                      refine X_getR (a := 356) rfl rfl rfl ((congrFun F.1 355).trans s_355) rfl ((congrFun (F.2.1 355 (by decide)) 0).trans r_355_0) ?_
                                      refine X_iload_n rfl rfl rfl rfl ?_
                                      refine X_iload_n rfl rfl rfl rfl ?_
                                      refine X_iadd (v := (123 : Int32)) rfl rfl rfl ?_
                                      refine X_iload_n rfl rfl rfl rfl ?_
                                      refine X_aload_n rfl rfl rfl rfl ?_
                                      refine X_getI (v := (4 : Int32)) rfl rfl rfl ((congrFun F.1 355).trans s_355) rfl rfl ?_
                                      refine X_icmp_ge (tgt := 72) rfl rfl rfl (fun _ => ?_) (fun q => absurd q (by decide))
                                      refine X_iconst (v := (0 : Int32)) rfl rfl rfl ?_
                                      refine X_iast (k0 := 123) rfl rfl ((congrFun F.1 356).trans s_356) (vp_in_d rfl) rfl ?_
                                      refine X_iinc (v := (8 : Int32)) (ls' := [some (.ref 355), some (.int s), some (.int (116 : Int32)), some (.int (8 : Int32))]) rfl rfl rfl rfl rfl ?_
                                      refine LW_goto (tgt := 42) rfl rfl ?_
                                      refine X_iload_n rfl rfl rfl rfl ?_
                                      refine X_bipush (v := (8 : Int32)) rfl rfl rfl ?_
                                      refine X_icmp_ge (tgt := 80) rfl rfl rfl (fun _ => ?_) (fun q => absurd q (by decide))
                                      refine X_aload_n rfl rfl rfl rfl ?_
                                      refine X_getR (a := 356) rfl rfl rfl ((congrFun F.1 355).trans s_355) rfl ((congrFun (F.2.1 355 (by decide)) 0).trans r_355_0) ?_
                                      refine X_iload_n rfl rfl rfl rfl ?_
                                      refine X_bipush (v := (8 : Int32)) rfl rfl rfl ?_
                                      refine X_iadd (v := (124 : Int32)) rfl rfl rfl ?_
                                      refine X_aload_n rfl rfl rfl rfl ?_
                                      refine X_getI (v := (4 : Int32)) rfl rfl rfl ((congrFun F.1 355).trans s_355) rfl rfl ?_
                                      refine X_iast (k0 := 124) rfl rfl ((congrFun F.1 356).trans s_356) (vp_in_d rfl) rfl ?_
                                      refine X_aload_n rfl rfl rfl rfl ?_
                                      refine X_getR (a := 356) rfl rfl rfl ((congrFun F.1 355).trans s_355) rfl ((congrFun (F.2.1 355 (by decide)) 0).trans r_355_0) ?_
                                      refine X_iload_n rfl rfl rfl rfl ?_
                                      refine X_bipush (v := (9 : Int32)) rfl rfl rfl ?_
                                      refine X_iadd (v := (125 : Int32)) rfl rfl rfl ?_
                                      refine X_iload_n rfl rfl rfl rfl ?_
                                      refine X_iast (k0 := 125) rfl rfl ((congrFun F.1 356).trans s_356) (vp_in_d rfl) rfl ?_
                                      refine X_aload_n rfl rfl rfl rfl ?_
                                      refine X_getR (a := 356) rfl rfl rfl ((congrFun F.1 355).trans s_355) rfl ((congrFun (F.2.1 355 (by decide)) 0).trans r_355_0) ?_
                                      refine X_iconst (v := (0 : Int32)) rfl rfl rfl ?_
                                      refine X_dup2 rfl rfl rfl rfl ?_
                                      refine X_iald (v := (0 : Int32)) rfl rfl ((congrFun F.1 356).trans s_356) (vp_in_d rfl) ((congrFun (F.2.2 356 (by decide)).1 0).trans i_356_0) ?_
                                      refine X_iconst (v := (1 : Int32)) rfl rfl rfl ?_
                                      refine X_iadd (v := (1 : Int32)) rfl rfl rfl ?_
                                      refine X_iast (k0 := 0) rfl rfl ((congrFun F.1 356).trans s_356) (vp_in_d rfl) rfl ?_
                                      refine X_aload_n rfl rfl rfl rfl ?_
                                      refine X_getR (a := 356) rfl rfl rfl ((congrFun F.1 355).trans s_355) rfl ((congrFun (F.2.1 355 (by decide)) 0).trans r_355_0) ?_
                                      refine X_iconst (v := (0 : Int32)) rfl rfl rfl ?_
                                      refine X_iald (v := (1 : Int32)) rfl rfl ((congrFun F.1 356).trans s_356) (vp_in_d rfl) rfl ?_
                                      refine X_iconst (v := (1 : Int32)) rfl rfl rfl ?_
                                      refine X_isub (v := (0 : Int32)) rfl rfl rfl ?_
                                      refine LW_ireturn (st := []) rfl rfl rfl ?_
                                      refine LW_ireturn (st := []) rfl rfl rfl (congrArg (fun z => some (Value.int z)) ?_)
                                      simp only [Int32.lt_iff_toInt_lt, Int32.le_iff_toInt_le, ← Int32.toInt_inj, (show (0 : Int32).toInt = 0 from rfl), (show (9 : Int32).toInt = 9 from rfl), (show (97 : Int32).toInt = 97 from rfl), (show (122 : Int32).toInt = 122 from rfl)] at h1 h2 h3 h4 h5 h6 h7 h8 h9 h10 h11 h12 h13 h14 h15 h36 h39 h42
                                      unfold f_wordB
                                      rw [if_pos (by omega)]
                        · refine X_aload_n rfl rfl rfl rfl ?_
                          refine X_getI (v := (3 : Int32)) rfl rfl rfl ((congrFun F.1 355).trans s_355) rfl rfl ?_
                          refine X_iload_n rfl rfl rfl rfl ?_
                          refine X_iload_n rfl rfl rfl rfl ?_
                          refine X_iadd (v := (3 : Int32)) rfl rfl rfl ?_
                          refine X_icmp_gt (tgt := 37) rfl rfl rfl (fun q => absurd q (by decide)) (fun _ => ?_)
                          refine LW_goto (tgt := 85) rfl rfl ?_
                          refine X_iinc (v := (4 : Int32)) (ls' := [some (.ref 355), some (.int a), some (.int (0 : Int32)), some (.int (4 : Int32)), some (.int b3)]) rfl rfl rfl rfl rfl ?_
                          refine LW_goto (tgt := 2) rfl rfl ?_
                          refine X_iload_n rfl rfl rfl rfl ?_
                          refine X_iconst (v := (4 : Int32)) rfl rfl rfl ?_
                          refine X_icmp_ge (tgt := 91) rfl rfl rfl (fun _ => ?_) (fun q => absurd q (by decide))
                          refine X_iconst (v := (1 : Int32)) rfl rfl rfl ?_
                          refine LW_ireturn (st := []) rfl rfl rfl ?_
                          refine X_if_eq (tgt := 33) rfl rfl rfl (fun q => absurd q (by decide)) (fun _ => ?_)
                          refine X_aload_n rfl rfl rfl rfl ?_
                          refine X_iload_n rfl rfl rfl rfl ?_
                          refine X_iconst (v := (4 : Int32)) rfl rfl rfl ?_
                          refine X_callV (as := [.int c, .int (4 : Int32)]) (st := []) rfl rfl rfl (by decide) rfl (Nat.le_of_ble_eq_true rfl) (by decide) (Nat.le_of_ble_eq_true rfl) rfl ((congrFun F.1 355).trans s_355) (by decide) ?_
                          refine LW_ls (ls' := [some (.ref 355), some (.int c), some (.int (4 : Int32)), none, none]) rfl ?_
                          refine X_iconst (v := (0 : Int32)) rfl rfl rfl ?_
                          refine X_istore_n (i := 3) (ls' := [some (.ref 355), some (.int c), some (.int (4 : Int32)), some (.int (0 : Int32)), none]) rfl rfl rfl (Nat.le_of_ble_eq_true rfl) rfl ?_
                          refine X_iload_n rfl rfl rfl rfl ?_
                          refine X_iconst (v := (4 : Int32)) rfl rfl rfl ?_
                          refine X_icmp_ge (tgt := 91) rfl rfl rfl (fun q => absurd q (by decide)) (fun _ => ?_)
                          refine X_iload_n rfl rfl rfl rfl ?_
                          refine X_bipush (v := (8 : Int32)) rfl rfl rfl ?_
                          refine X_iload_n rfl rfl rfl rfl ?_
                          refine X_imul (v := (0 : Int32)) rfl rfl rfl ?_
                          refine X_ishr (v := (c >>> ((0 : Int32) &&& 31))) rfl rfl rfl ?_
                          refine X_sipush (v := (255 : Int32)) rfl rfl rfl ?_
                          refine X_iand (v := b4) rfl rfl hb4 ?_
                          refine X_istore (i := 4) (ls' := [some (.ref 355), some (.int c), some (.int (4 : Int32)), some (.int (0 : Int32)), some (.int b4)]) rfl rfl (Nat.le_of_ble_eq_true rfl) rfl ?_
                          refine X_iload rfl rfl rfl ?_
                          refine X_if_ne (tgt := 37) rfl rfl rfl (fun h45 => ?_) (fun h45 => ?_)
                          · refine X_iload rfl rfl rfl ?_
                            refine X_bipush (v := (97 : Int32)) rfl rfl rfl ?_
                            refine X_bipush (v := (122 : Int32)) rfl rfl rfl ?_
                            refine X_callS (as := [.int b4, .int (97 : Int32), .int (122 : Int32)]) (st := []) rfl rfl rfl (by decide) rfl (Nat.le_of_ble_eq_true rfl) (by decide) (Nat.le_of_ble_eq_true rfl) rfl ?_
                            refine LW_ls (ls' := [some (.int b4), some (.int (97 : Int32)), some (.int (122 : Int32))]) rfl ?_
                            refine X_iload_n rfl rfl rfl rfl ?_
                            refine X_iload_n rfl rfl rfl rfl ?_
                            refine X_icmp_lt (tgt := 14) rfl rfl rfl (fun h46 => ?_) (fun h46 => ?_)
                            · refine X_iconst (v := (0 : Int32)) rfl rfl rfl ?_
                              refine LW_ireturn (st := []) rfl rfl rfl ?_
                              refine X_if_eq (tgt := 59) rfl rfl rfl (fun _ => ?_) (fun q => absurd q (by decide))
                              refine X_iconst (v := (0 : Int32)) rfl rfl rfl ?_
                              refine LW_ireturn (st := []) rfl rfl rfl ?_
                              refine X_if_ne (tgt := 35) rfl rfl rfl (fun q => absurd q (by decide)) (fun _ => ?_)
                              refine X_iconst (v := (-1 : Int32)) rfl rfl rfl ?_
                              refine LW_ireturn (st := []) rfl rfl rfl (congrArg (fun z => some (Value.int z)) ?_)
                              simp only [Int32.lt_iff_toInt_lt, Int32.le_iff_toInt_le, ← Int32.toInt_inj, (show (0 : Int32).toInt = 0 from rfl), (show (9 : Int32).toInt = 9 from rfl), (show (97 : Int32).toInt = 97 from rfl), (show (122 : Int32).toInt = 122 from rfl)] at h1 h2 h3 h4 h5 h6 h7 h8 h9 h10 h11 h12 h45 h46
                              unfold f_wordB
                              rw [if_neg (by omega)]
                            · refine X_iload_n rfl rfl rfl rfl ?_
                              refine X_iload_n rfl rfl rfl rfl ?_
                              refine X_icmp_gt (tgt := 14) rfl rfl rfl (fun h47 => ?_) (fun h47 => ?_)
                              · refine X_iconst (v := (0 : Int32)) rfl rfl rfl ?_
                                refine LW_ireturn (st := []) rfl rfl rfl ?_
                                refine X_if_eq (tgt := 59) rfl rfl rfl (fun _ => ?_) (fun q => absurd q (by decide))
                                refine X_iconst (v := (0 : Int32)) rfl rfl rfl ?_
                                refine LW_ireturn (st := []) rfl rfl rfl ?_
                                refine X_if_ne (tgt := 35) rfl rfl rfl (fun q => absurd q (by decide)) (fun _ => ?_)
                                refine X_iconst (v := (-1 : Int32)) rfl rfl rfl ?_
                                refine LW_ireturn (st := []) rfl rfl rfl (congrArg (fun z => some (Value.int z)) ?_)
                                simp only [Int32.lt_iff_toInt_lt, Int32.le_iff_toInt_le, ← Int32.toInt_inj, (show (0 : Int32).toInt = 0 from rfl), (show (9 : Int32).toInt = 9 from rfl), (show (97 : Int32).toInt = 97 from rfl), (show (122 : Int32).toInt = 122 from rfl)] at h1 h2 h3 h4 h5 h6 h7 h8 h9 h10 h11 h12 h45 h46 h47
                                unfold f_wordB
                                rw [if_neg (by omega)]
                              · refine X_iconst (v := (1 : Int32)) rfl rfl rfl ?_
                                refine LW_goto (tgt := 15) rfl rfl ?_
                                refine LW_ireturn (st := []) rfl rfl rfl ?_
                                refine X_if_eq (tgt := 59) rfl rfl rfl (fun q => absurd q (by decide)) (fun _ => ?_)
                                refine X_aload_n rfl rfl rfl rfl ?_
                                refine X_getI (v := (3 : Int32)) rfl rfl rfl ((congrFun F.1 355).trans s_355) rfl rfl ?_
                                refine X_iload_n rfl rfl rfl rfl ?_
                                refine X_iload_n rfl rfl rfl rfl ?_
                                refine X_iadd (v := (4 : Int32)) rfl rfl rfl ?_
                                refine X_icmp_ge (tgt := 61) rfl rfl rfl (fun q => absurd q (by decide)) (fun _ => ?_)
                                refine X_iconst (v := (0 : Int32)) rfl rfl rfl ?_
                                refine LW_ireturn (st := []) rfl rfl rfl ?_
                                refine X_if_ne (tgt := 35) rfl rfl rfl (fun q => absurd q (by decide)) (fun _ => ?_)
                                refine X_iconst (v := (-1 : Int32)) rfl rfl rfl ?_
                                refine LW_ireturn (st := []) rfl rfl rfl (congrArg (fun z => some (Value.int z)) ?_)
                                simp only [Int32.lt_iff_toInt_lt, Int32.le_iff_toInt_le, ← Int32.toInt_inj, (show (0 : Int32).toInt = 0 from rfl), (show (9 : Int32).toInt = 9 from rfl), (show (97 : Int32).toInt = 97 from rfl), (show (122 : Int32).toInt = 122 from rfl)] at h1 h2 h3 h4 h5 h6 h7 h8 h9 h10 h11 h12 h45 h46 h47
                                unfold f_wordB
                                rw [if_neg (by omega)]
                          · refine X_aload_n rfl rfl rfl rfl ?_
                            refine X_getI (v := (3 : Int32)) rfl rfl rfl ((congrFun F.1 355).trans s_355) rfl rfl ?_
                            refine X_iload_n rfl rfl rfl rfl ?_
                            refine X_iload_n rfl rfl rfl rfl ?_
                            refine X_iadd (v := (4 : Int32)) rfl rfl rfl ?_
                            refine X_icmp_gt (tgt := 37) rfl rfl rfl (fun q => absurd q (by decide)) (fun _ => ?_)
                            refine LW_goto (tgt := 85) rfl rfl ?_
                            refine X_iinc (v := (1 : Int32)) (ls' := [some (.ref 355), some (.int c), some (.int (4 : Int32)), some (.int (1 : Int32)), some (.int b4)]) rfl rfl rfl rfl rfl ?_
                            refine LW_goto (tgt := 2) rfl rfl ?_
                            refine X_iload_n rfl rfl rfl rfl ?_
                            refine X_iconst (v := (4 : Int32)) rfl rfl rfl ?_
                            refine X_icmp_ge (tgt := 91) rfl rfl rfl (fun q => absurd q (by decide)) (fun _ => ?_)
                            refine X_iload_n rfl rfl rfl rfl ?_
                            refine X_bipush (v := (8 : Int32)) rfl rfl rfl ?_
                            refine X_iload_n rfl rfl rfl rfl ?_
                            refine X_imul (v := (8 : Int32)) rfl rfl rfl ?_
                            refine X_ishr (v := (c >>> ((8 : Int32) &&& 31))) rfl rfl rfl ?_
                            refine X_sipush (v := (255 : Int32)) rfl rfl rfl ?_
                            refine X_iand (v := b5) rfl rfl hb5 ?_
                            refine X_istore (i := 4) (ls' := [some (.ref 355), some (.int c), some (.int (4 : Int32)), some (.int (1 : Int32)), some (.int b5)]) rfl rfl (Nat.le_of_ble_eq_true rfl) rfl ?_
                            refine X_iload rfl rfl rfl ?_
                            refine X_if_ne (tgt := 37) rfl rfl rfl (fun h48 => ?_) (fun h48 => ?_)
                            · refine X_iload rfl rfl rfl ?_
                              refine X_bipush (v := (97 : Int32)) rfl rfl rfl ?_
                              refine X_bipush (v := (122 : Int32)) rfl rfl rfl ?_
                              refine X_callS (as := [.int b5, .int (97 : Int32), .int (122 : Int32)]) (st := []) rfl rfl rfl (by decide) rfl (Nat.le_of_ble_eq_true rfl) (by decide) (Nat.le_of_ble_eq_true rfl) rfl ?_
                              refine LW_ls (ls' := [some (.int b5), some (.int (97 : Int32)), some (.int (122 : Int32))]) rfl ?_
                              refine X_iload_n rfl rfl rfl rfl ?_
                              refine X_iload_n rfl rfl rfl rfl ?_
                              refine X_icmp_lt (tgt := 14) rfl rfl rfl (fun h49 => ?_) (fun h49 => ?_)
                              · refine X_iconst (v := (0 : Int32)) rfl rfl rfl ?_
                                refine LW_ireturn (st := []) rfl rfl rfl ?_
                                refine X_if_eq (tgt := 59) rfl rfl rfl (fun _ => ?_) (fun q => absurd q (by decide))
                                refine X_iconst (v := (0 : Int32)) rfl rfl rfl ?_
                                refine LW_ireturn (st := []) rfl rfl rfl ?_
                                refine X_if_ne (tgt := 35) rfl rfl rfl (fun q => absurd q (by decide)) (fun _ => ?_)
                                refine X_iconst (v := (-1 : Int32)) rfl rfl rfl ?_
                                refine LW_ireturn (st := []) rfl rfl rfl (congrArg (fun z => some (Value.int z)) ?_)
                                simp only [Int32.lt_iff_toInt_lt, Int32.le_iff_toInt_le, ← Int32.toInt_inj, (show (0 : Int32).toInt = 0 from rfl), (show (9 : Int32).toInt = 9 from rfl), (show (97 : Int32).toInt = 97 from rfl), (show (122 : Int32).toInt = 122 from rfl)] at h1 h2 h3 h4 h5 h6 h7 h8 h9 h10 h11 h12 h45 h48 h49
                                unfold f_wordB
                                rw [if_neg (by omega)]
                              · refine X_iload_n rfl rfl rfl rfl ?_
                                refine X_iload_n rfl rfl rfl rfl ?_
                                refine X_icmp_gt (tgt := 14) rfl rfl rfl (fun h50 => ?_) (fun h50 => ?_)
                                · refine X_iconst (v := (0 : Int32)) rfl rfl rfl ?_
                                  refine LW_ireturn (st := []) rfl rfl rfl ?_
                                  refine X_if_eq (tgt := 59) rfl rfl rfl (fun _ => ?_) (fun q => absurd q (by decide))
                                  refine X_iconst (v := (0 : Int32)) rfl rfl rfl ?_
                                  refine LW_ireturn (st := []) rfl rfl rfl ?_
                                  refine X_if_ne (tgt := 35) rfl rfl rfl (fun q => absurd q (by decide)) (fun _ => ?_)
                                  refine X_iconst (v := (-1 : Int32)) rfl rfl rfl ?_
                                  refine LW_ireturn (st := []) rfl rfl rfl (congrArg (fun z => some (Value.int z)) ?_)
                                  simp only [Int32.lt_iff_toInt_lt, Int32.le_iff_toInt_le, ← Int32.toInt_inj, (show (0 : Int32).toInt = 0 from rfl), (show (9 : Int32).toInt = 9 from rfl), (show (97 : Int32).toInt = 97 from rfl), (show (122 : Int32).toInt = 122 from rfl)] at h1 h2 h3 h4 h5 h6 h7 h8 h9 h10 h11 h12 h45 h48 h49 h50
                                  unfold f_wordB
                                  rw [if_neg (by omega)]
                                · refine X_iconst (v := (1 : Int32)) rfl rfl rfl ?_
                                  refine LW_goto (tgt := 15) rfl rfl ?_
                                  refine LW_ireturn (st := []) rfl rfl rfl ?_
                                  refine X_if_eq (tgt := 59) rfl rfl rfl (fun q => absurd q (by decide)) (fun _ => ?_)
                                  refine X_aload_n rfl rfl rfl rfl ?_
                                  refine X_getI (v := (3 : Int32)) rfl rfl rfl ((congrFun F.1 355).trans s_355) rfl rfl ?_
                                  refine X_iload_n rfl rfl rfl rfl ?_
                                  refine X_iload_n rfl rfl rfl rfl ?_
                                  refine X_iadd (v := (5 : Int32)) rfl rfl rfl ?_
                                  refine X_icmp_ge (tgt := 61) rfl rfl rfl (fun q => absurd q (by decide)) (fun _ => ?_)
                                  refine X_iconst (v := (0 : Int32)) rfl rfl rfl ?_
                                  refine LW_ireturn (st := []) rfl rfl rfl ?_
                                  refine X_if_ne (tgt := 35) rfl rfl rfl (fun q => absurd q (by decide)) (fun _ => ?_)
                                  refine X_iconst (v := (-1 : Int32)) rfl rfl rfl ?_
                                  refine LW_ireturn (st := []) rfl rfl rfl (congrArg (fun z => some (Value.int z)) ?_)
                                  simp only [Int32.lt_iff_toInt_lt, Int32.le_iff_toInt_le, ← Int32.toInt_inj, (show (0 : Int32).toInt = 0 from rfl), (show (9 : Int32).toInt = 9 from rfl), (show (97 : Int32).toInt = 97 from rfl), (show (122 : Int32).toInt = 122 from rfl)] at h1 h2 h3 h4 h5 h6 h7 h8 h9 h10 h11 h12 h45 h48 h49 h50
                                  unfold f_wordB
                                  rw [if_neg (by omega)]
                            · refine X_aload_n rfl rfl rfl rfl ?_
                              refine X_getI (v := (3 : Int32)) rfl rfl rfl ((congrFun F.1 355).trans s_355) rfl rfl ?_
                              refine X_iload_n rfl rfl rfl rfl ?_
                              refine X_iload_n rfl rfl rfl rfl ?_
                              refine X_iadd (v := (5 : Int32)) rfl rfl rfl ?_
                              refine X_icmp_gt (tgt := 37) rfl rfl rfl (fun q => absurd q (by decide)) (fun _ => ?_)
                              refine LW_goto (tgt := 85) rfl rfl ?_
                              refine X_iinc (v := (2 : Int32)) (ls' := [some (.ref 355), some (.int c), some (.int (4 : Int32)), some (.int (2 : Int32)), some (.int b5)]) rfl rfl rfl rfl rfl ?_
                              refine LW_goto (tgt := 2) rfl rfl ?_
                              refine X_iload_n rfl rfl rfl rfl ?_
                              refine X_iconst (v := (4 : Int32)) rfl rfl rfl ?_
                              refine X_icmp_ge (tgt := 91) rfl rfl rfl (fun q => absurd q (by decide)) (fun _ => ?_)
                              refine X_iload_n rfl rfl rfl rfl ?_
                              refine X_bipush (v := (8 : Int32)) rfl rfl rfl ?_
                              refine X_iload_n rfl rfl rfl rfl ?_
                              refine X_imul (v := (16 : Int32)) rfl rfl rfl ?_
                              refine X_ishr (v := (c >>> ((16 : Int32) &&& 31))) rfl rfl rfl ?_
                              refine X_sipush (v := (255 : Int32)) rfl rfl rfl ?_
                              refine X_iand (v := b6) rfl rfl hb6 ?_
                              refine X_istore (i := 4) (ls' := [some (.ref 355), some (.int c), some (.int (4 : Int32)), some (.int (2 : Int32)), some (.int b6)]) rfl rfl (Nat.le_of_ble_eq_true rfl) rfl ?_
                              refine X_iload rfl rfl rfl ?_
                              refine X_if_ne (tgt := 37) rfl rfl rfl (fun h51 => ?_) (fun h51 => ?_)
                              · refine X_iload rfl rfl rfl ?_
                                refine X_bipush (v := (97 : Int32)) rfl rfl rfl ?_
                                refine X_bipush (v := (122 : Int32)) rfl rfl rfl ?_
                                refine X_callS (as := [.int b6, .int (97 : Int32), .int (122 : Int32)]) (st := []) rfl rfl rfl (by decide) rfl (Nat.le_of_ble_eq_true rfl) (by decide) (Nat.le_of_ble_eq_true rfl) rfl ?_
                                refine LW_ls (ls' := [some (.int b6), some (.int (97 : Int32)), some (.int (122 : Int32))]) rfl ?_
                                refine X_iload_n rfl rfl rfl rfl ?_
                                refine X_iload_n rfl rfl rfl rfl ?_
                                refine X_icmp_lt (tgt := 14) rfl rfl rfl (fun h52 => ?_) (fun h52 => ?_)
                                · refine X_iconst (v := (0 : Int32)) rfl rfl rfl ?_
                                  refine LW_ireturn (st := []) rfl rfl rfl ?_
                                  refine X_if_eq (tgt := 59) rfl rfl rfl (fun _ => ?_) (fun q => absurd q (by decide))
                                  refine X_iconst (v := (0 : Int32)) rfl rfl rfl ?_
                                  refine LW_ireturn (st := []) rfl rfl rfl ?_
                                  refine X_if_ne (tgt := 35) rfl rfl rfl (fun q => absurd q (by decide)) (fun _ => ?_)
                                  refine X_iconst (v := (-1 : Int32)) rfl rfl rfl ?_
                                  refine LW_ireturn (st := []) rfl rfl rfl (congrArg (fun z => some (Value.int z)) ?_)
                                  simp only [Int32.lt_iff_toInt_lt, Int32.le_iff_toInt_le, ← Int32.toInt_inj, (show (0 : Int32).toInt = 0 from rfl), (show (9 : Int32).toInt = 9 from rfl), (show (97 : Int32).toInt = 97 from rfl), (show (122 : Int32).toInt = 122 from rfl)] at h1 h2 h3 h4 h5 h6 h7 h8 h9 h10 h11 h12 h45 h48 h51 h52
                                  unfold f_wordB
                                  rw [if_neg (by omega)]
                                · refine X_iload_n rfl rfl rfl rfl ?_
                                  refine X_iload_n rfl rfl rfl rfl ?_
                                  refine X_icmp_gt (tgt := 14) rfl rfl rfl (fun h53 => ?_) (fun h53 => ?_)
                                  · refine X_iconst (v := (0 : Int32)) rfl rfl rfl ?_
                                    refine LW_ireturn (st := []) rfl rfl rfl ?_
                                    refine X_if_eq (tgt := 59) rfl rfl rfl (fun _ => ?_) (fun q => absurd q (by decide))
                                    refine X_iconst (v := (0 : Int32)) rfl rfl rfl ?_
                                    refine LW_ireturn (st := []) rfl rfl rfl ?_
                                    refine X_if_ne (tgt := 35) rfl rfl rfl (fun q => absurd q (by decide)) (fun _ => ?_)
                                    refine X_iconst (v := (-1 : Int32)) rfl rfl rfl ?_
                                    refine LW_ireturn (st := []) rfl rfl rfl (congrArg (fun z => some (Value.int z)) ?_)
                                    simp only [Int32.lt_iff_toInt_lt, Int32.le_iff_toInt_le, ← Int32.toInt_inj, (show (0 : Int32).toInt = 0 from rfl), (show (9 : Int32).toInt = 9 from rfl), (show (97 : Int32).toInt = 97 from rfl), (show (122 : Int32).toInt = 122 from rfl)] at h1 h2 h3 h4 h5 h6 h7 h8 h9 h10 h11 h12 h45 h48 h51 h52 h53
                                    unfold f_wordB
                                    rw [if_neg (by omega)]
                                  · refine X_iconst (v := (1 : Int32)) rfl rfl rfl ?_
                                    refine LW_goto (tgt := 15) rfl rfl ?_
                                    refine LW_ireturn (st := []) rfl rfl rfl ?_
                                    refine X_if_eq (tgt := 59) rfl rfl rfl (fun q => absurd q (by decide)) (fun _ => ?_)
                                    refine X_aload_n rfl rfl rfl rfl ?_
                                    refine X_getI (v := (3 : Int32)) rfl rfl rfl ((congrFun F.1 355).trans s_355) rfl rfl ?_
                                    refine X_iload_n rfl rfl rfl rfl ?_
                                    refine X_iload_n rfl rfl rfl rfl ?_
                                    refine X_iadd (v := (6 : Int32)) rfl rfl rfl ?_
                                    refine X_icmp_ge (tgt := 61) rfl rfl rfl (fun q => absurd q (by decide)) (fun _ => ?_)
                                    refine X_iconst (v := (0 : Int32)) rfl rfl rfl ?_
                                    refine LW_ireturn (st := []) rfl rfl rfl ?_
                                    refine X_if_ne (tgt := 35) rfl rfl rfl (fun q => absurd q (by decide)) (fun _ => ?_)
                                    refine X_iconst (v := (-1 : Int32)) rfl rfl rfl ?_
                                    refine LW_ireturn (st := []) rfl rfl rfl (congrArg (fun z => some (Value.int z)) ?_)
                                    simp only [Int32.lt_iff_toInt_lt, Int32.le_iff_toInt_le, ← Int32.toInt_inj, (show (0 : Int32).toInt = 0 from rfl), (show (9 : Int32).toInt = 9 from rfl), (show (97 : Int32).toInt = 97 from rfl), (show (122 : Int32).toInt = 122 from rfl)] at h1 h2 h3 h4 h5 h6 h7 h8 h9 h10 h11 h12 h45 h48 h51 h52 h53
                                    unfold f_wordB
                                    rw [if_neg (by omega)]
                              · refine X_aload_n rfl rfl rfl rfl ?_
                                refine X_getI (v := (3 : Int32)) rfl rfl rfl ((congrFun F.1 355).trans s_355) rfl rfl ?_
                                refine X_iload_n rfl rfl rfl rfl ?_
                                refine X_iload_n rfl rfl rfl rfl ?_
                                refine X_iadd (v := (6 : Int32)) rfl rfl rfl ?_
                                refine X_icmp_gt (tgt := 37) rfl rfl rfl (fun q => absurd q (by decide)) (fun _ => ?_)
                                refine LW_goto (tgt := 85) rfl rfl ?_
                                refine X_iinc (v := (3 : Int32)) (ls' := [some (.ref 355), some (.int c), some (.int (4 : Int32)), some (.int (3 : Int32)), some (.int b6)]) rfl rfl rfl rfl rfl ?_
                                refine LW_goto (tgt := 2) rfl rfl ?_
                                refine X_iload_n rfl rfl rfl rfl ?_
                                refine X_iconst (v := (4 : Int32)) rfl rfl rfl ?_
                                refine X_icmp_ge (tgt := 91) rfl rfl rfl (fun q => absurd q (by decide)) (fun _ => ?_)
                                refine X_iload_n rfl rfl rfl rfl ?_
                                refine X_bipush (v := (8 : Int32)) rfl rfl rfl ?_
                                refine X_iload_n rfl rfl rfl rfl ?_
                                refine X_imul (v := (24 : Int32)) rfl rfl rfl ?_
                                refine X_ishr (v := (c >>> ((24 : Int32) &&& 31))) rfl rfl rfl ?_
                                refine X_sipush (v := (255 : Int32)) rfl rfl rfl ?_
                                refine X_iand (v := b7) rfl rfl hb7 ?_
                                refine X_istore (i := 4) (ls' := [some (.ref 355), some (.int c), some (.int (4 : Int32)), some (.int (3 : Int32)), some (.int b7)]) rfl rfl (Nat.le_of_ble_eq_true rfl) rfl ?_
                                refine X_iload rfl rfl rfl ?_
                                refine X_if_ne (tgt := 37) rfl rfl rfl (fun h54 => ?_) (fun h54 => ?_)
                                · refine X_iload rfl rfl rfl ?_
                                  refine X_bipush (v := (97 : Int32)) rfl rfl rfl ?_
                                  refine X_bipush (v := (122 : Int32)) rfl rfl rfl ?_
                                  refine X_callS (as := [.int b7, .int (97 : Int32), .int (122 : Int32)]) (st := []) rfl rfl rfl (by decide) rfl (Nat.le_of_ble_eq_true rfl) (by decide) (Nat.le_of_ble_eq_true rfl) rfl ?_
                                  refine LW_ls (ls' := [some (.int b7), some (.int (97 : Int32)), some (.int (122 : Int32))]) rfl ?_
                                  refine X_iload_n rfl rfl rfl rfl ?_
                                  refine X_iload_n rfl rfl rfl rfl ?_
                                  refine X_icmp_lt (tgt := 14) rfl rfl rfl (fun h55 => ?_) (fun h55 => ?_)
                                  · refine X_iconst (v := (0 : Int32)) rfl rfl rfl ?_
                                    refine LW_ireturn (st := []) rfl rfl rfl ?_
                                    refine X_if_eq (tgt := 59) rfl rfl rfl (fun _ => ?_) (fun q => absurd q (by decide))
                                    refine X_iconst (v := (0 : Int32)) rfl rfl rfl ?_
                                    refine LW_ireturn (st := []) rfl rfl rfl ?_
                                    refine X_if_ne (tgt := 35) rfl rfl rfl (fun q => absurd q (by decide)) (fun _ => ?_)
                                    refine X_iconst (v := (-1 : Int32)) rfl rfl rfl ?_
                                    refine LW_ireturn (st := []) rfl rfl rfl (congrArg (fun z => some (Value.int z)) ?_)
                                    simp only [Int32.lt_iff_toInt_lt, Int32.le_iff_toInt_le, ← Int32.toInt_inj, (show (0 : Int32).toInt = 0 from rfl), (show (9 : Int32).toInt = 9 from rfl), (show (97 : Int32).toInt = 97 from rfl), (show (122 : Int32).toInt = 122 from rfl)] at h1 h2 h3 h4 h5 h6 h7 h8 h9 h10 h11 h12 h45 h48 h51 h54 h55
                                    unfold f_wordB
                                    rw [if_neg (by omega)]
                                  · refine X_iload_n rfl rfl rfl rfl ?_
                                    refine X_iload_n rfl rfl rfl rfl ?_
                                    refine X_icmp_gt (tgt := 14) rfl rfl rfl (fun h56 => ?_) (fun h56 => ?_)
                                    · refine X_iconst (v := (0 : Int32)) rfl rfl rfl ?_
                                      refine LW_ireturn (st := []) rfl rfl rfl ?_
                                      refine X_if_eq (tgt := 59) rfl rfl rfl (fun _ => ?_) (fun q => absurd q (by decide))
                                      refine X_iconst (v := (0 : Int32)) rfl rfl rfl ?_
                                      refine LW_ireturn (st := []) rfl rfl rfl ?_
                                      refine X_if_ne (tgt := 35) rfl rfl rfl (fun q => absurd q (by decide)) (fun _ => ?_)
                                      refine X_iconst (v := (-1 : Int32)) rfl rfl rfl ?_
                                      refine LW_ireturn (st := []) rfl rfl rfl (congrArg (fun z => some (Value.int z)) ?_)
                                      simp only [Int32.lt_iff_toInt_lt, Int32.le_iff_toInt_le, ← Int32.toInt_inj, (show (0 : Int32).toInt = 0 from rfl), (show (9 : Int32).toInt = 9 from rfl), (show (97 : Int32).toInt = 97 from rfl), (show (122 : Int32).toInt = 122 from rfl)] at h1 h2 h3 h4 h5 h6 h7 h8 h9 h10 h11 h12 h45 h48 h51 h54 h55 h56
                                      unfold f_wordB
                                      rw [if_neg (by omega)]
                                    · refine X_iconst (v := (1 : Int32)) rfl rfl rfl ?_
                                      refine LW_goto (tgt := 15) rfl rfl ?_
                                      refine LW_ireturn (st := []) rfl rfl rfl ?_
                                      refine X_if_eq (tgt := 59) rfl rfl rfl (fun q => absurd q (by decide)) (fun _ => ?_)
                                      refine X_aload_n rfl rfl rfl rfl ?_
                                      refine X_getI (v := (3 : Int32)) rfl rfl rfl ((congrFun F.1 355).trans s_355) rfl rfl ?_
                                      refine X_iload_n rfl rfl rfl rfl ?_
                                      refine X_iload_n rfl rfl rfl rfl ?_
                                      refine X_iadd (v := (7 : Int32)) rfl rfl rfl ?_
                                      refine X_icmp_ge (tgt := 61) rfl rfl rfl (fun q => absurd q (by decide)) (fun _ => ?_)
                                      refine X_iconst (v := (0 : Int32)) rfl rfl rfl ?_
                                      refine LW_ireturn (st := []) rfl rfl rfl ?_
                                      refine X_if_ne (tgt := 35) rfl rfl rfl (fun q => absurd q (by decide)) (fun _ => ?_)
                                      refine X_iconst (v := (-1 : Int32)) rfl rfl rfl ?_
                                      refine LW_ireturn (st := []) rfl rfl rfl (congrArg (fun z => some (Value.int z)) ?_)
                                      simp only [Int32.lt_iff_toInt_lt, Int32.le_iff_toInt_le, ← Int32.toInt_inj, (show (0 : Int32).toInt = 0 from rfl), (show (9 : Int32).toInt = 9 from rfl), (show (97 : Int32).toInt = 97 from rfl), (show (122 : Int32).toInt = 122 from rfl)] at h1 h2 h3 h4 h5 h6 h7 h8 h9 h10 h11 h12 h45 h48 h51 h54 h55 h56
                                      unfold f_wordB
                                      rw [if_neg (by omega)]
                                · refine X_aload_n rfl rfl rfl rfl ?_
                                  refine X_getI (v := (3 : Int32)) rfl rfl rfl ((congrFun F.1 355).trans s_355) rfl rfl ?_
                                  refine X_iload_n rfl rfl rfl rfl ?_
                                  refine X_iload_n rfl rfl rfl rfl ?_
                                  refine X_iadd (v := (7 : Int32)) rfl rfl rfl ?_
                                  refine X_icmp_gt (tgt := 37) rfl rfl rfl (fun q => absurd q (by decide)) (fun _ => ?_)
                                  refine LW_goto (tgt := 85) rfl rfl ?_
                                  refine X_iinc (v := (4 : Int32)) (ls' := [some (.ref 355), some (.int c), some (.int (4 : Int32)), some (.int (4 : Int32)), some (.int b7)]) rfl rfl rfl rfl rfl ?_
                                  refine LW_goto (tgt := 2) rfl rfl ?_
                                  refine X_iload_n rfl rfl rfl rfl ?_
                                  refine X_iconst (v := (4 : Int32)) rfl rfl rfl ?_
                                  refine X_icmp_ge (tgt := 91) rfl rfl rfl (fun _ => ?_) (fun q => absurd q (by decide))
                                  refine X_iconst (v := (1 : Int32)) rfl rfl rfl ?_
                                  refine LW_ireturn (st := []) rfl rfl rfl ?_
                                  refine X_if_ne (tgt := 35) rfl rfl rfl (fun _ => ?_) (fun q => absurd q (by decide))
                                  refine X_aload_n rfl rfl rfl rfl ?_
                                  refine X_iload_n rfl rfl rfl rfl ?_
                                  refine X_callV (as := [.int s]) (st := []) rfl rfl rfl (by decide) rfl (Nat.le_of_ble_eq_true rfl) (by decide) (Nat.le_of_ble_eq_true rfl) rfl ((congrFun F.1 355).trans s_355) (by decide) ?_
                                  refine LW_ls (ls' := [some (.ref 355), some (.int s), none, none]) rfl ?_
                                  refine X_aload_n rfl rfl rfl rfl ?_
                                  refine X_getI (v := (3 : Int32)) rfl rfl rfl ((congrFun F.1 355).trans s_355) rfl rfl ?_
                                  refine X_if_eq (tgt := 25) rfl rfl rfl (fun q => absurd q (by decide)) (fun _ => ?_)
                                  refine X_aload_n rfl rfl rfl rfl ?_
                                  refine X_callV (as := []) (st := []) rfl rfl rfl (by decide) rfl (Nat.le_of_ble_eq_true rfl) (by decide) (Nat.le_of_ble_eq_true rfl) rfl ((congrFun F.1 355).trans s_355) (by decide) ?_
                                  refine LW_ls (ls' := [some (.ref 355), none, none, none]) rfl ?_
                                  refine X_iconst (v := (0 : Int32)) rfl rfl rfl ?_
                                  refine X_istore_n (i := 1) (ls' := [some (.ref 355), some (.int (0 : Int32)), none, none]) rfl rfl rfl (Nat.le_of_ble_eq_true rfl) rfl ?_
                                  refine X_iload_n rfl rfl rfl rfl ?_
                                  refine X_aload_n rfl rfl rfl rfl ?_
                                  refine X_getR (a := 356) rfl rfl rfl ((congrFun F.1 355).trans s_355) rfl ((congrFun (F.2.1 355 (by decide)) 0).trans r_355_0) ?_
                                  refine X_iconst (v := (0 : Int32)) rfl rfl rfl ?_
                                  refine X_iald (v := (0 : Int32)) rfl rfl ((congrFun F.1 356).trans s_356) (vp_in_d rfl) ((congrFun (F.2.2 356 (by decide)).1 0).trans i_356_0) ?_
                                  refine X_icmp_ge (tgt := 83) rfl rfl rfl (fun _ => ?_) (fun q => absurd q (by decide))
                                  refine X_iconst (v := (0 : Int32)) rfl rfl rfl ?_
                                  refine LW_ireturn (st := []) rfl rfl rfl ?_
                                  refine X_if_ne (tgt := 25) rfl rfl rfl (fun q => absurd q (by decide)) (fun _ => ?_)
                                  refine X_aload_n rfl rfl rfl rfl ?_
                                  refine X_getR (a := 356) rfl rfl rfl ((congrFun F.1 355).trans s_355) rfl ((congrFun (F.2.1 355 (by decide)) 0).trans r_355_0) ?_
                                  refine X_iconst (v := (0 : Int32)) rfl rfl rfl ?_
                                  refine X_iald (v := (0 : Int32)) rfl rfl ((congrFun F.1 356).trans s_356) (vp_in_d rfl) ((congrFun (F.2.2 356 (by decide)).1 0).trans i_356_0) ?_
                                  refine X_bipush (v := (24 : Int32)) rfl rfl rfl ?_
                                  refine X_icmp_ne (tgt := 27) rfl rfl rfl (fun _ => ?_) (fun q => absurd q (by decide))
                                  refine X_bipush (v := (116 : Int32)) rfl rfl rfl ?_
                                  refine X_bipush (v := (10 : Int32)) rfl rfl rfl ?_
                                  refine X_aload_n rfl rfl rfl rfl ?_
                                  refine X_getR (a := 356) rfl rfl rfl ((congrFun F.1 355).trans s_355) rfl ((congrFun (F.2.1 355 (by decide)) 0).trans r_355_0) ?_
                                  refine X_iconst (v := (0 : Int32)) rfl rfl rfl ?_
                                  refine X_iald (v := (0 : Int32)) rfl rfl ((congrFun F.1 356).trans s_356) (vp_in_d rfl) ((congrFun (F.2.2 356 (by decide)).1 0).trans i_356_0) ?_
                                  refine X_imul (v := (0 : Int32)) rfl rfl rfl ?_
                                  refine X_iadd (v := (116 : Int32)) rfl rfl rfl ?_
                                  refine X_istore_n (i := 2) (ls' := [some (.ref 355), some (.int s), some (.int (116 : Int32)), none]) rfl rfl rfl (Nat.le_of_ble_eq_true rfl) rfl ?_
                                  refine X_iconst (v := (0 : Int32)) rfl rfl rfl ?_
                                  refine X_istore_n (i := 3) (ls' := [some (.ref 355), some (.int s), some (.int (116 : Int32)), some (.int (0 : Int32))]) rfl rfl rfl (Nat.le_of_ble_eq_true rfl) rfl ?_
                                  refine X_iload_n rfl rfl rfl rfl ?_
                                  refine X_bipush (v := (8 : Int32)) rfl rfl rfl ?_
                                  refine X_icmp_ge (tgt := 80) rfl rfl rfl (fun q => absurd q (by decide)) (fun _ => ?_)
                                  refine X_aload_n rfl rfl rfl rfl ?_
                                  refine X_getR (a := 356) rfl rfl rfl ((congrFun F.1 355).trans s_355) rfl ((congrFun (F.2.1 355 (by decide)) 0).trans r_355_0) ?_
                                  refine X_iload_n rfl rfl rfl rfl ?_
                                  refine X_iload_n rfl rfl rfl rfl ?_
                                  refine X_iadd (v := (116 : Int32)) rfl rfl rfl ?_
                                  refine X_iload_n rfl rfl rfl rfl ?_
                                  refine X_aload_n rfl rfl rfl rfl ?_
                                  refine X_getI (v := (3 : Int32)) rfl rfl rfl ((congrFun F.1 355).trans s_355) rfl rfl ?_
                                  refine X_icmp_ge (tgt := 72) rfl rfl rfl (fun q => absurd q (by decide)) (fun _ => ?_)
                                  refine X_aload_n rfl rfl rfl rfl ?_
                                  refine X_getR (a := 359) rfl rfl rfl ((congrFun F.1 355).trans s_355) rfl ((congrFun (F.2.1 355 (by decide)) 3).trans r_355_3) ?_
                                  refine X_iload_n rfl rfl rfl rfl ?_
                                  refine X_iald (v := (b0 - (97 : Int32))) rfl rfl ((congrFun F.1 359).trans s_359) (vp_in_d rfl) rfl ?_
                                  refine LW_goto (tgt := 73) rfl rfl ?_
                                  refine X_iast (k0 := 116) rfl rfl ((congrFun F.1 356).trans s_356) (vp_in_d rfl) rfl ?_
                                  refine X_iinc (v := (1 : Int32)) (ls' := [some (.ref 355), some (.int s), some (.int (116 : Int32)), some (.int (1 : Int32))]) rfl rfl rfl rfl rfl ?_
                                  refine LW_goto (tgt := 42) rfl rfl ?_
                                  refine X_iload_n rfl rfl rfl rfl ?_
                                  refine X_bipush (v := (8 : Int32)) rfl rfl rfl ?_
                                  refine X_icmp_ge (tgt := 80) rfl rfl rfl (fun q => absurd q (by decide)) (fun _ => ?_)
                                  refine X_aload_n rfl rfl rfl rfl ?_
                                  refine X_getR (a := 356) rfl rfl rfl ((congrFun F.1 355).trans s_355) rfl ((congrFun (F.2.1 355 (by decide)) 0).trans r_355_0) ?_
                                  refine X_iload_n rfl rfl rfl rfl ?_
                                  refine X_iload_n rfl rfl rfl rfl ?_
                                  refine X_iadd (v := (117 : Int32)) rfl rfl rfl ?_
                                  refine X_iload_n rfl rfl rfl rfl ?_
                                  refine X_aload_n rfl rfl rfl rfl ?_
                                  refine X_getI (v := (3 : Int32)) rfl rfl rfl ((congrFun F.1 355).trans s_355) rfl rfl ?_
                                  refine X_icmp_ge (tgt := 72) rfl rfl rfl (fun q => absurd q (by decide)) (fun _ => ?_)
                                  refine X_aload_n rfl rfl rfl rfl ?_
                                  refine X_getR (a := 359) rfl rfl rfl ((congrFun F.1 355).trans s_355) rfl ((congrFun (F.2.1 355 (by decide)) 3).trans r_355_3) ?_
                                  refine X_iload_n rfl rfl rfl rfl ?_
                                  refine X_iald (v := (b1 - (97 : Int32))) rfl rfl ((congrFun F.1 359).trans s_359) (vp_in_d rfl) rfl ?_
                                  refine LW_goto (tgt := 73) rfl rfl ?_
                                  refine X_iast (k0 := 117) rfl rfl ((congrFun F.1 356).trans s_356) (vp_in_d rfl) rfl ?_
                                  refine X_iinc (v := (2 : Int32)) (ls' := [some (.ref 355), some (.int s), some (.int (116 : Int32)), some (.int (2 : Int32))]) rfl rfl rfl rfl rfl ?_
                                  refine LW_goto (tgt := 42) rfl rfl ?_
                                  refine X_iload_n rfl rfl rfl rfl ?_
                                  refine X_bipush (v := (8 : Int32)) rfl rfl rfl ?_
                                  refine X_icmp_ge (tgt := 80) rfl rfl rfl (fun q => absurd q (by decide)) (fun _ => ?_)
                                  refine X_aload_n rfl rfl rfl rfl ?_
                                  refine X_getR (a := 356) rfl rfl rfl ((congrFun F.1 355).trans s_355) rfl ((congrFun (F.2.1 355 (by decide)) 0).trans r_355_0) ?_
                                  refine X_iload_n rfl rfl rfl rfl ?_
                                  refine X_iload_n rfl rfl rfl rfl ?_
                                  refine X_iadd (v := (118 : Int32)) rfl rfl rfl ?_
                                  refine X_iload_n rfl rfl rfl rfl ?_
                                  refine X_aload_n rfl rfl rfl rfl ?_
                                  refine X_getI (v := (3 : Int32)) rfl rfl rfl ((congrFun F.1 355).trans s_355) rfl rfl ?_
                                  refine X_icmp_ge (tgt := 72) rfl rfl rfl (fun q => absurd q (by decide)) (fun _ => ?_)
                                  refine X_aload_n rfl rfl rfl rfl ?_
                                  refine X_getR (a := 359) rfl rfl rfl ((congrFun F.1 355).trans s_355) rfl ((congrFun (F.2.1 355 (by decide)) 3).trans r_355_3) ?_
                                  refine X_iload_n rfl rfl rfl rfl ?_
                                  refine X_iald (v := (b2 - (97 : Int32))) rfl rfl ((congrFun F.1 359).trans s_359) (vp_in_d rfl) rfl ?_
                                  refine LW_goto (tgt := 73) rfl rfl ?_
                                  refine X_iast (k0 := 118) rfl rfl ((congrFun F.1 356).trans s_356) (vp_in_d rfl) rfl ?_
                                  refine X_iinc (v := (3 : Int32)) (ls' := [some (.ref 355), some (.int s), some (.int (116 : Int32)), some (.int (3 : Int32))]) rfl rfl rfl rfl rfl ?_
                                  refine LW_goto (tgt := 42) rfl rfl ?_
                                  refine X_iload_n rfl rfl rfl rfl ?_
                                  refine X_bipush (v := (8 : Int32)) rfl rfl rfl ?_
                                  refine X_icmp_ge (tgt := 80) rfl rfl rfl (fun q => absurd q (by decide)) (fun _ => ?_)
                                  refine X_aload_n rfl rfl rfl rfl ?_
                                  refine X_getR (a := 356) rfl rfl rfl ((congrFun F.1 355).trans s_355) rfl ((congrFun (F.2.1 355 (by decide)) 0).trans r_355_0) ?_
                                  refine X_iload_n rfl rfl rfl rfl ?_
                                  refine X_iload_n rfl rfl rfl rfl ?_
                                  refine X_iadd (v := (119 : Int32)) rfl rfl rfl ?_
                                  refine X_iload_n rfl rfl rfl rfl ?_
                                  refine X_aload_n rfl rfl rfl rfl ?_
                                  refine X_getI (v := (3 : Int32)) rfl rfl rfl ((congrFun F.1 355).trans s_355) rfl rfl ?_
                                  refine X_icmp_ge (tgt := 72) rfl rfl rfl (fun _ => ?_) (fun q => absurd q (by decide))
                                  refine X_iconst (v := (0 : Int32)) rfl rfl rfl ?_
                                  refine X_iast (k0 := 119) rfl rfl ((congrFun F.1 356).trans s_356) (vp_in_d rfl) rfl ?_
                                  refine X_iinc (v := (4 : Int32)) (ls' := [some (.ref 355), some (.int s), some (.int (116 : Int32)), some (.int (4 : Int32))]) rfl rfl rfl rfl rfl ?_
                                  refine LW_goto (tgt := 42) rfl rfl ?_
                                  refine X_iload_n rfl rfl rfl rfl ?_
                                  refine X_bipush (v := (8 : Int32)) rfl rfl rfl ?_
                                  refine X_icmp_ge (tgt := 80) rfl rfl rfl (fun q => absurd q (by decide)) (fun _ => ?_)
                                  refine X_aload_n rfl rfl rfl rfl ?_
                                  refine X_getR (a := 356) rfl rfl rfl ((congrFun F.1 355).trans s_355) rfl ((congrFun (F.2.1 355 (by decide)) 0).trans r_355_0) ?_
                                  refine X_iload_n rfl rfl rfl rfl ?_
                                  refine X_iload_n rfl rfl rfl rfl ?_
                                  refine X_iadd (v := (120 : Int32)) rfl rfl rfl ?_
                                  refine X_iload_n rfl rfl rfl rfl ?_
                                  refine X_aload_n rfl rfl rfl rfl ?_
                                  refine X_getI (v := (3 : Int32)) rfl rfl rfl ((congrFun F.1 355).trans s_355) rfl rfl ?_
                                  refine X_icmp_ge (tgt := 72) rfl rfl rfl (fun _ => ?_) (fun q => absurd q (by decide))
                                  refine X_iconst (v := (0 : Int32)) rfl rfl rfl ?_
                                  refine X_iast (k0 := 120) rfl rfl ((congrFun F.1 356).trans s_356) (vp_in_d rfl) rfl ?_
                                  refine X_iinc (v := (5 : Int32)) (ls' := [some (.ref 355), some (.int s), some (.int (116 : Int32)), some (.int (5 : Int32))]) rfl rfl rfl rfl rfl ?_
                                  refine LW_goto (tgt := 42) rfl rfl ?_
                                  refine X_iload_n rfl rfl rfl rfl ?_
                                  refine X_bipush (v := (8 : Int32)) rfl rfl rfl ?_
                                  refine X_icmp_ge (tgt := 80) rfl rfl rfl (fun q => absurd q (by decide)) (fun _ => ?_)
                                  refine X_aload_n rfl rfl rfl rfl ?_
                                  refine X_getR (a := 356) rfl rfl rfl ((congrFun F.1 355).trans s_355) rfl ((congrFun (F.2.1 355 (by decide)) 0).trans r_355_0) ?_
                                  refine X_iload_n rfl rfl rfl rfl ?_
                                  refine X_iload_n rfl rfl rfl rfl ?_
                                  refine X_iadd (v := (121 : Int32)) rfl rfl rfl ?_
                                  refine X_iload_n rfl rfl rfl rfl ?_
                                  refine X_aload_n rfl rfl rfl rfl ?_
                                  refine X_getI (v := (3 : Int32)) rfl rfl rfl ((congrFun F.1 355).trans s_355) rfl rfl ?_
                                  refine X_icmp_ge (tgt := 72) rfl rfl rfl (fun _ => ?_) (fun q => absurd q (by decide))
                                  refine X_iconst (v := (0 : Int32)) rfl rfl rfl ?_
                                  refine X_iast (k0 := 121) rfl rfl ((congrFun F.1 356).trans s_356) (vp_in_d rfl) rfl ?_
                                  refine X_iinc (v := (6 : Int32)) (ls' := [some (.ref 355), some (.int s), some (.int (116 : Int32)), some (.int (6 : Int32))]) rfl rfl rfl rfl rfl ?_
                                  refine LW_goto (tgt := 42) rfl rfl ?_
                                  refine X_iload_n rfl rfl rfl rfl ?_
                                  refine X_bipush (v := (8 : Int32)) rfl rfl rfl ?_
                                  refine X_icmp_ge (tgt := 80) rfl rfl rfl (fun q => absurd q (by decide)) (fun _ => ?_)
                                  refine X_aload_n rfl rfl rfl rfl ?_
                                  refine X_getR (a := 356) rfl rfl rfl ((congrFun F.1 355).trans s_355) rfl ((congrFun (F.2.1 355 (by decide)) 0).trans r_355_0) ?_
                                  refine X_iload_n rfl rfl rfl rfl ?_
                                  refine X_iload_n rfl rfl rfl rfl ?_
                                  refine X_iadd (v := (122 : Int32)) rfl rfl rfl ?_
                                  refine X_iload_n rfl rfl rfl rfl ?_
                                  refine X_aload_n rfl rfl rfl rfl ?_
                                  refine X_getI (v := (3 : Int32)) rfl rfl rfl ((congrFun F.1 355).trans s_355) rfl rfl ?_
                                  refine X_icmp_ge (tgt := 72) rfl rfl rfl (fun _ => ?_) (fun q => absurd q (by decide))
                                  refine X_iconst (v := (0 : Int32)) rfl rfl rfl ?_
                                  refine X_iast (k0 := 122) rfl rfl ((congrFun F.1 356).trans s_356) (vp_in_d rfl) rfl ?_
                                  refine X_iinc (v := (7 : Int32)) (ls' := [some (.ref 355), some (.int s), some (.int (116 : Int32)), some (.int (7 : Int32))]) rfl rfl rfl rfl rfl ?_
                                  refine LW_goto (tgt := 42) rfl rfl ?_
                                  refine X_iload_n rfl rfl rfl rfl ?_
                                  refine X_bipush (v := (8 : Int32)) rfl rfl rfl ?_
                                  refine X_icmp_ge (tgt := 80) rfl rfl rfl (fun q => absurd q (by decide)) (fun _ => ?_)
                                  refine X_aload_n rfl rfl rfl rfl ?_
                                  refine X_getR (a := 356) rfl rfl rfl ((congrFun F.1 355).trans s_355) rfl ((congrFun (F.2.1 355 (by decide)) 0).trans r_355_0) ?_
                                  refine X_iload_n rfl rfl rfl rfl ?_
                                  refine X_iload_n rfl rfl rfl rfl ?_
                                  refine X_iadd (v := (123 : Int32)) rfl rfl rfl ?_
                                  refine X_iload_n rfl rfl rfl rfl ?_
                                  refine X_aload_n rfl rfl rfl rfl ?_
                                  refine X_getI (v := (3 : Int32)) rfl rfl rfl ((congrFun F.1 355).trans s_355) rfl rfl ?_
                                  refine X_icmp_ge (tgt := 72) rfl rfl rfl (fun _ => ?_) (fun q => absurd q (by decide))
                                  refine X_iconst (v := (0 : Int32)) rfl rfl rfl ?_
                                  refine X_iast (k0 := 123) rfl rfl ((congrFun F.1 356).trans s_356) (vp_in_d rfl) rfl ?_
                                  refine X_iinc (v := (8 : Int32)) (ls' := [some (.ref 355), some (.int s), some (.int (116 : Int32)), some (.int (8 : Int32))]) rfl rfl rfl rfl rfl ?_
                                  refine LW_goto (tgt := 42) rfl rfl ?_
                                  refine X_iload_n rfl rfl rfl rfl ?_
                                  refine X_bipush (v := (8 : Int32)) rfl rfl rfl ?_
                                  refine X_icmp_ge (tgt := 80) rfl rfl rfl (fun _ => ?_) (fun q => absurd q (by decide))
                                  refine X_aload_n rfl rfl rfl rfl ?_
                                  refine X_getR (a := 356) rfl rfl rfl ((congrFun F.1 355).trans s_355) rfl ((congrFun (F.2.1 355 (by decide)) 0).trans r_355_0) ?_
                                  refine X_iload_n rfl rfl rfl rfl ?_
                                  refine X_bipush (v := (8 : Int32)) rfl rfl rfl ?_
                                  refine X_iadd (v := (124 : Int32)) rfl rfl rfl ?_
                                  refine X_aload_n rfl rfl rfl rfl ?_
                                  refine X_getI (v := (3 : Int32)) rfl rfl rfl ((congrFun F.1 355).trans s_355) rfl rfl ?_
                                  refine X_iast (k0 := 124) rfl rfl ((congrFun F.1 356).trans s_356) (vp_in_d rfl) rfl ?_
                                  refine X_aload_n rfl rfl rfl rfl ?_
                                  refine X_getR (a := 356) rfl rfl rfl ((congrFun F.1 355).trans s_355) rfl ((congrFun (F.2.1 355 (by decide)) 0).trans r_355_0) ?_
                                  refine X_iload_n rfl rfl rfl rfl ?_
                                  refine X_bipush (v := (9 : Int32)) rfl rfl rfl ?_
                                  refine X_iadd (v := (125 : Int32)) rfl rfl rfl ?_
                                  refine X_iload_n rfl rfl rfl rfl ?_
                                  refine X_iast (k0 := 125) rfl rfl ((congrFun F.1 356).trans s_356) (vp_in_d rfl) rfl ?_
                                  refine X_aload_n rfl rfl rfl rfl ?_
                                  refine X_getR (a := 356) rfl rfl rfl ((congrFun F.1 355).trans s_355) rfl ((congrFun (F.2.1 355 (by decide)) 0).trans r_355_0) ?_
                                  refine X_iconst (v := (0 : Int32)) rfl rfl rfl ?_
                                  refine X_dup2 rfl rfl rfl rfl ?_
                                  refine X_iald (v := (0 : Int32)) rfl rfl ((congrFun F.1 356).trans s_356) (vp_in_d rfl) ((congrFun (F.2.2 356 (by decide)).1 0).trans i_356_0) ?_
                                  refine X_iconst (v := (1 : Int32)) rfl rfl rfl ?_
                                  refine X_iadd (v := (1 : Int32)) rfl rfl rfl ?_
                                  refine X_iast (k0 := 0) rfl rfl ((congrFun F.1 356).trans s_356) (vp_in_d rfl) rfl ?_
                                  refine X_aload_n rfl rfl rfl rfl ?_
                                  refine X_getR (a := 356) rfl rfl rfl ((congrFun F.1 355).trans s_355) rfl ((congrFun (F.2.1 355 (by decide)) 0).trans r_355_0) ?_
                                  refine X_iconst (v := (0 : Int32)) rfl rfl rfl ?_
                                  refine X_iald (v := (1 : Int32)) rfl rfl ((congrFun F.1 356).trans s_356) (vp_in_d rfl) rfl ?_
                                  refine X_iconst (v := (1 : Int32)) rfl rfl rfl ?_
                                  refine X_isub (v := (0 : Int32)) rfl rfl rfl ?_
                                  refine LW_ireturn (st := []) rfl rfl rfl ?_
                                  refine LW_ireturn (st := []) rfl rfl rfl (congrArg (fun z => some (Value.int z)) ?_)
                                  simp only [Int32.lt_iff_toInt_lt, Int32.le_iff_toInt_le, ← Int32.toInt_inj, (show (0 : Int32).toInt = 0 from rfl), (show (9 : Int32).toInt = 9 from rfl), (show (97 : Int32).toInt = 97 from rfl), (show (122 : Int32).toInt = 122 from rfl)] at h1 h2 h3 h4 h5 h6 h7 h8 h9 h10 h11 h12 h45 h48 h51 h54
                                  unfold f_wordB
                                  rw [if_pos (by omega)]
                  · refine X_aload_n rfl rfl rfl rfl ?_
                    refine X_getI (v := (2 : Int32)) rfl rfl rfl ((congrFun F.1 355).trans s_355) rfl rfl ?_
                    refine X_iload_n rfl rfl rfl rfl ?_
                    refine X_iload_n rfl rfl rfl rfl ?_
                    refine X_iadd (v := (2 : Int32)) rfl rfl rfl ?_
                    refine X_icmp_gt (tgt := 37) rfl rfl rfl (fun q => absurd q (by decide)) (fun _ => ?_)
                    refine LW_goto (tgt := 85) rfl rfl ?_
                    refine X_iinc (v := (3 : Int32)) (ls' := [some (.ref 355), some (.int a), some (.int (0 : Int32)), some (.int (3 : Int32)), some (.int b2)]) rfl rfl rfl rfl rfl ?_
                    refine LW_goto (tgt := 2) rfl rfl ?_
                    refine X_iload_n rfl rfl rfl rfl ?_
                    refine X_iconst (v := (4 : Int32)) rfl rfl rfl ?_
                    refine X_icmp_ge (tgt := 91) rfl rfl rfl (fun q => absurd q (by decide)) (fun _ => ?_)
                    refine X_iload_n rfl rfl rfl rfl ?_
                    refine X_bipush (v := (8 : Int32)) rfl rfl rfl ?_
                    refine X_iload_n rfl rfl rfl rfl ?_
                    refine X_imul (v := (24 : Int32)) rfl rfl rfl ?_
                    refine X_ishr (v := (a >>> ((24 : Int32) &&& 31))) rfl rfl rfl ?_
                    refine X_sipush (v := (255 : Int32)) rfl rfl rfl ?_
                    refine X_iand (v := b3) rfl rfl hb3 ?_
                    refine X_istore (i := 4) (ls' := [some (.ref 355), some (.int a), some (.int (0 : Int32)), some (.int (3 : Int32)), some (.int b3)]) rfl rfl (Nat.le_of_ble_eq_true rfl) rfl ?_
                    refine X_iload rfl rfl rfl ?_
                    refine X_if_ne (tgt := 37) rfl rfl rfl (fun h57 => ?_) (fun h57 => ?_)
                    · refine X_iload rfl rfl rfl ?_
                      refine X_bipush (v := (97 : Int32)) rfl rfl rfl ?_
                      refine X_bipush (v := (122 : Int32)) rfl rfl rfl ?_
                      refine X_callS (as := [.int b3, .int (97 : Int32), .int (122 : Int32)]) (st := []) rfl rfl rfl (by decide) rfl (Nat.le_of_ble_eq_true rfl) (by decide) (Nat.le_of_ble_eq_true rfl) rfl ?_
                      refine LW_ls (ls' := [some (.int b3), some (.int (97 : Int32)), some (.int (122 : Int32))]) rfl ?_
                      refine X_iload_n rfl rfl rfl rfl ?_
                      refine X_iload_n rfl rfl rfl rfl ?_
                      refine X_icmp_lt (tgt := 14) rfl rfl rfl (fun h58 => ?_) (fun h58 => ?_)
                      · refine X_iconst (v := (0 : Int32)) rfl rfl rfl ?_
                        refine LW_ireturn (st := []) rfl rfl rfl ?_
                        refine X_if_eq (tgt := 59) rfl rfl rfl (fun _ => ?_) (fun q => absurd q (by decide))
                        refine X_iconst (v := (0 : Int32)) rfl rfl rfl ?_
                        refine LW_ireturn (st := []) rfl rfl rfl ?_
                        refine X_if_eq (tgt := 33) rfl rfl rfl (fun _ => ?_) (fun q => absurd q (by decide))
                        refine X_iconst (v := (-1 : Int32)) rfl rfl rfl ?_
                        refine LW_ireturn (st := []) rfl rfl rfl (congrArg (fun z => some (Value.int z)) ?_)
                        simp only [Int32.lt_iff_toInt_lt, Int32.le_iff_toInt_le, ← Int32.toInt_inj, (show (0 : Int32).toInt = 0 from rfl), (show (9 : Int32).toInt = 9 from rfl), (show (97 : Int32).toInt = 97 from rfl), (show (122 : Int32).toInt = 122 from rfl)] at h1 h2 h3 h4 h5 h6 h7 h8 h9 h57 h58
                        unfold f_wordB
                        rw [if_neg (by omega)]
                      · refine X_iload_n rfl rfl rfl rfl ?_
                        refine X_iload_n rfl rfl rfl rfl ?_
                        refine X_icmp_gt (tgt := 14) rfl rfl rfl (fun h59 => ?_) (fun h59 => ?_)
                        · refine X_iconst (v := (0 : Int32)) rfl rfl rfl ?_
                          refine LW_ireturn (st := []) rfl rfl rfl ?_
                          refine X_if_eq (tgt := 59) rfl rfl rfl (fun _ => ?_) (fun q => absurd q (by decide))
                          refine X_iconst (v := (0 : Int32)) rfl rfl rfl ?_
                          refine LW_ireturn (st := []) rfl rfl rfl ?_
                          refine X_if_eq (tgt := 33) rfl rfl rfl (fun _ => ?_) (fun q => absurd q (by decide))
                          refine X_iconst (v := (-1 : Int32)) rfl rfl rfl ?_
                          refine LW_ireturn (st := []) rfl rfl rfl (congrArg (fun z => some (Value.int z)) ?_)
                          simp only [Int32.lt_iff_toInt_lt, Int32.le_iff_toInt_le, ← Int32.toInt_inj, (show (0 : Int32).toInt = 0 from rfl), (show (9 : Int32).toInt = 9 from rfl), (show (97 : Int32).toInt = 97 from rfl), (show (122 : Int32).toInt = 122 from rfl)] at h1 h2 h3 h4 h5 h6 h7 h8 h9 h57 h58 h59
                          unfold f_wordB
                          rw [if_neg (by omega)]
                        · refine X_iconst (v := (1 : Int32)) rfl rfl rfl ?_
                          refine LW_goto (tgt := 15) rfl rfl ?_
                          refine LW_ireturn (st := []) rfl rfl rfl ?_
                          refine X_if_eq (tgt := 59) rfl rfl rfl (fun q => absurd q (by decide)) (fun _ => ?_)
                          refine X_aload_n rfl rfl rfl rfl ?_
                          refine X_getI (v := (2 : Int32)) rfl rfl rfl ((congrFun F.1 355).trans s_355) rfl rfl ?_
                          refine X_iload_n rfl rfl rfl rfl ?_
                          refine X_iload_n rfl rfl rfl rfl ?_
                          refine X_iadd (v := (3 : Int32)) rfl rfl rfl ?_
                          refine X_icmp_ge (tgt := 61) rfl rfl rfl (fun q => absurd q (by decide)) (fun _ => ?_)
                          refine X_iconst (v := (0 : Int32)) rfl rfl rfl ?_
                          refine LW_ireturn (st := []) rfl rfl rfl ?_
                          refine X_if_eq (tgt := 33) rfl rfl rfl (fun _ => ?_) (fun q => absurd q (by decide))
                          refine X_iconst (v := (-1 : Int32)) rfl rfl rfl ?_
                          refine LW_ireturn (st := []) rfl rfl rfl (congrArg (fun z => some (Value.int z)) ?_)
                          simp only [Int32.lt_iff_toInt_lt, Int32.le_iff_toInt_le, ← Int32.toInt_inj, (show (0 : Int32).toInt = 0 from rfl), (show (9 : Int32).toInt = 9 from rfl), (show (97 : Int32).toInt = 97 from rfl), (show (122 : Int32).toInt = 122 from rfl)] at h1 h2 h3 h4 h5 h6 h7 h8 h9 h57 h58 h59
                          unfold f_wordB
                          rw [if_neg (by omega)]
                    · refine X_aload_n rfl rfl rfl rfl ?_
                      refine X_getI (v := (2 : Int32)) rfl rfl rfl ((congrFun F.1 355).trans s_355) rfl rfl ?_
                      refine X_iload_n rfl rfl rfl rfl ?_
                      refine X_iload_n rfl rfl rfl rfl ?_
                      refine X_iadd (v := (3 : Int32)) rfl rfl rfl ?_
                      refine X_icmp_gt (tgt := 37) rfl rfl rfl (fun q => absurd q (by decide)) (fun _ => ?_)
                      refine LW_goto (tgt := 85) rfl rfl ?_
                      refine X_iinc (v := (4 : Int32)) (ls' := [some (.ref 355), some (.int a), some (.int (0 : Int32)), some (.int (4 : Int32)), some (.int b3)]) rfl rfl rfl rfl rfl ?_
                      refine LW_goto (tgt := 2) rfl rfl ?_
                      refine X_iload_n rfl rfl rfl rfl ?_
                      refine X_iconst (v := (4 : Int32)) rfl rfl rfl ?_
                      refine X_icmp_ge (tgt := 91) rfl rfl rfl (fun _ => ?_) (fun q => absurd q (by decide))
                      refine X_iconst (v := (1 : Int32)) rfl rfl rfl ?_
                      refine LW_ireturn (st := []) rfl rfl rfl ?_
                      refine X_if_eq (tgt := 33) rfl rfl rfl (fun q => absurd q (by decide)) (fun _ => ?_)
                      refine X_aload_n rfl rfl rfl rfl ?_
                      refine X_iload_n rfl rfl rfl rfl ?_
                      refine X_iconst (v := (4 : Int32)) rfl rfl rfl ?_
                      refine X_callV (as := [.int c, .int (4 : Int32)]) (st := []) rfl rfl rfl (by decide) rfl (Nat.le_of_ble_eq_true rfl) (by decide) (Nat.le_of_ble_eq_true rfl) rfl ((congrFun F.1 355).trans s_355) (by decide) ?_
                      refine LW_ls (ls' := [some (.ref 355), some (.int c), some (.int (4 : Int32)), none, none]) rfl ?_
                      refine X_iconst (v := (0 : Int32)) rfl rfl rfl ?_
                      refine X_istore_n (i := 3) (ls' := [some (.ref 355), some (.int c), some (.int (4 : Int32)), some (.int (0 : Int32)), none]) rfl rfl rfl (Nat.le_of_ble_eq_true rfl) rfl ?_
                      refine X_iload_n rfl rfl rfl rfl ?_
                      refine X_iconst (v := (4 : Int32)) rfl rfl rfl ?_
                      refine X_icmp_ge (tgt := 91) rfl rfl rfl (fun q => absurd q (by decide)) (fun _ => ?_)
                      refine X_iload_n rfl rfl rfl rfl ?_
                      refine X_bipush (v := (8 : Int32)) rfl rfl rfl ?_
                      refine X_iload_n rfl rfl rfl rfl ?_
                      refine X_imul (v := (0 : Int32)) rfl rfl rfl ?_
                      refine X_ishr (v := (c >>> ((0 : Int32) &&& 31))) rfl rfl rfl ?_
                      refine X_sipush (v := (255 : Int32)) rfl rfl rfl ?_
                      refine X_iand (v := b4) rfl rfl hb4 ?_
                      refine X_istore (i := 4) (ls' := [some (.ref 355), some (.int c), some (.int (4 : Int32)), some (.int (0 : Int32)), some (.int b4)]) rfl rfl (Nat.le_of_ble_eq_true rfl) rfl ?_
                      refine X_iload rfl rfl rfl ?_
                      refine X_if_ne (tgt := 37) rfl rfl rfl (fun h60 => ?_) (fun h60 => ?_)
                      · refine X_iload rfl rfl rfl ?_
                        refine X_bipush (v := (97 : Int32)) rfl rfl rfl ?_
                        refine X_bipush (v := (122 : Int32)) rfl rfl rfl ?_
                        refine X_callS (as := [.int b4, .int (97 : Int32), .int (122 : Int32)]) (st := []) rfl rfl rfl (by decide) rfl (Nat.le_of_ble_eq_true rfl) (by decide) (Nat.le_of_ble_eq_true rfl) rfl ?_
                        refine LW_ls (ls' := [some (.int b4), some (.int (97 : Int32)), some (.int (122 : Int32))]) rfl ?_
                        refine X_iload_n rfl rfl rfl rfl ?_
                        refine X_iload_n rfl rfl rfl rfl ?_
                        refine X_icmp_lt (tgt := 14) rfl rfl rfl (fun h61 => ?_) (fun h61 => ?_)
                        · refine X_iconst (v := (0 : Int32)) rfl rfl rfl ?_
                          refine LW_ireturn (st := []) rfl rfl rfl ?_
                          refine X_if_eq (tgt := 59) rfl rfl rfl (fun _ => ?_) (fun q => absurd q (by decide))
                          refine X_iconst (v := (0 : Int32)) rfl rfl rfl ?_
                          refine LW_ireturn (st := []) rfl rfl rfl ?_
                          refine X_if_ne (tgt := 35) rfl rfl rfl (fun q => absurd q (by decide)) (fun _ => ?_)
                          refine X_iconst (v := (-1 : Int32)) rfl rfl rfl ?_
                          refine LW_ireturn (st := []) rfl rfl rfl (congrArg (fun z => some (Value.int z)) ?_)
                          simp only [Int32.lt_iff_toInt_lt, Int32.le_iff_toInt_le, ← Int32.toInt_inj, (show (0 : Int32).toInt = 0 from rfl), (show (9 : Int32).toInt = 9 from rfl), (show (97 : Int32).toInt = 97 from rfl), (show (122 : Int32).toInt = 122 from rfl)] at h1 h2 h3 h4 h5 h6 h7 h8 h9 h57 h60 h61
                          unfold f_wordB
                          rw [if_neg (by omega)]
                        · refine X_iload_n rfl rfl rfl rfl ?_
                          refine X_iload_n rfl rfl rfl rfl ?_
                          refine X_icmp_gt (tgt := 14) rfl rfl rfl (fun h62 => ?_) (fun h62 => ?_)
                          · refine X_iconst (v := (0 : Int32)) rfl rfl rfl ?_
                            refine LW_ireturn (st := []) rfl rfl rfl ?_
                            refine X_if_eq (tgt := 59) rfl rfl rfl (fun _ => ?_) (fun q => absurd q (by decide))
                            refine X_iconst (v := (0 : Int32)) rfl rfl rfl ?_
                            refine LW_ireturn (st := []) rfl rfl rfl ?_
                            refine X_if_ne (tgt := 35) rfl rfl rfl (fun q => absurd q (by decide)) (fun _ => ?_)
                            refine X_iconst (v := (-1 : Int32)) rfl rfl rfl ?_
                            refine LW_ireturn (st := []) rfl rfl rfl (congrArg (fun z => some (Value.int z)) ?_)
                            simp only [Int32.lt_iff_toInt_lt, Int32.le_iff_toInt_le, ← Int32.toInt_inj, (show (0 : Int32).toInt = 0 from rfl), (show (9 : Int32).toInt = 9 from rfl), (show (97 : Int32).toInt = 97 from rfl), (show (122 : Int32).toInt = 122 from rfl)] at h1 h2 h3 h4 h5 h6 h7 h8 h9 h57 h60 h61 h62
                            unfold f_wordB
                            rw [if_neg (by omega)]
                          · refine X_iconst (v := (1 : Int32)) rfl rfl rfl ?_
                            refine LW_goto (tgt := 15) rfl rfl ?_
                            refine LW_ireturn (st := []) rfl rfl rfl ?_
                            refine X_if_eq (tgt := 59) rfl rfl rfl (fun q => absurd q (by decide)) (fun _ => ?_)
                            refine X_aload_n rfl rfl rfl rfl ?_
                            refine X_getI (v := (2 : Int32)) rfl rfl rfl ((congrFun F.1 355).trans s_355) rfl rfl ?_
                            refine X_iload_n rfl rfl rfl rfl ?_
                            refine X_iload_n rfl rfl rfl rfl ?_
                            refine X_iadd (v := (4 : Int32)) rfl rfl rfl ?_
                            refine X_icmp_ge (tgt := 61) rfl rfl rfl (fun q => absurd q (by decide)) (fun _ => ?_)
                            refine X_iconst (v := (0 : Int32)) rfl rfl rfl ?_
                            refine LW_ireturn (st := []) rfl rfl rfl ?_
                            refine X_if_ne (tgt := 35) rfl rfl rfl (fun q => absurd q (by decide)) (fun _ => ?_)
                            refine X_iconst (v := (-1 : Int32)) rfl rfl rfl ?_
                            refine LW_ireturn (st := []) rfl rfl rfl (congrArg (fun z => some (Value.int z)) ?_)
                            simp only [Int32.lt_iff_toInt_lt, Int32.le_iff_toInt_le, ← Int32.toInt_inj, (show (0 : Int32).toInt = 0 from rfl), (show (9 : Int32).toInt = 9 from rfl), (show (97 : Int32).toInt = 97 from rfl), (show (122 : Int32).toInt = 122 from rfl)] at h1 h2 h3 h4 h5 h6 h7 h8 h9 h57 h60 h61 h62
                            unfold f_wordB
                            rw [if_neg (by omega)]
                      · refine X_aload_n rfl rfl rfl rfl ?_
                        refine X_getI (v := (2 : Int32)) rfl rfl rfl ((congrFun F.1 355).trans s_355) rfl rfl ?_
                        refine X_iload_n rfl rfl rfl rfl ?_
                        refine X_iload_n rfl rfl rfl rfl ?_
                        refine X_iadd (v := (4 : Int32)) rfl rfl rfl ?_
                        refine X_icmp_gt (tgt := 37) rfl rfl rfl (fun q => absurd q (by decide)) (fun _ => ?_)
                        refine LW_goto (tgt := 85) rfl rfl ?_
                        refine X_iinc (v := (1 : Int32)) (ls' := [some (.ref 355), some (.int c), some (.int (4 : Int32)), some (.int (1 : Int32)), some (.int b4)]) rfl rfl rfl rfl rfl ?_
                        refine LW_goto (tgt := 2) rfl rfl ?_
                        refine X_iload_n rfl rfl rfl rfl ?_
                        refine X_iconst (v := (4 : Int32)) rfl rfl rfl ?_
                        refine X_icmp_ge (tgt := 91) rfl rfl rfl (fun q => absurd q (by decide)) (fun _ => ?_)
                        refine X_iload_n rfl rfl rfl rfl ?_
                        refine X_bipush (v := (8 : Int32)) rfl rfl rfl ?_
                        refine X_iload_n rfl rfl rfl rfl ?_
                        refine X_imul (v := (8 : Int32)) rfl rfl rfl ?_
                        refine X_ishr (v := (c >>> ((8 : Int32) &&& 31))) rfl rfl rfl ?_
                        refine X_sipush (v := (255 : Int32)) rfl rfl rfl ?_
                        refine X_iand (v := b5) rfl rfl hb5 ?_
                        refine X_istore (i := 4) (ls' := [some (.ref 355), some (.int c), some (.int (4 : Int32)), some (.int (1 : Int32)), some (.int b5)]) rfl rfl (Nat.le_of_ble_eq_true rfl) rfl ?_
                        refine X_iload rfl rfl rfl ?_
                        refine X_if_ne (tgt := 37) rfl rfl rfl (fun h63 => ?_) (fun h63 => ?_)
                        · refine X_iload rfl rfl rfl ?_
                          refine X_bipush (v := (97 : Int32)) rfl rfl rfl ?_
                          refine X_bipush (v := (122 : Int32)) rfl rfl rfl ?_
                          refine X_callS (as := [.int b5, .int (97 : Int32), .int (122 : Int32)]) (st := []) rfl rfl rfl (by decide) rfl (Nat.le_of_ble_eq_true rfl) (by decide) (Nat.le_of_ble_eq_true rfl) rfl ?_
                          refine LW_ls (ls' := [some (.int b5), some (.int (97 : Int32)), some (.int (122 : Int32))]) rfl ?_
                          refine X_iload_n rfl rfl rfl rfl ?_
                          refine X_iload_n rfl rfl rfl rfl ?_
                          refine X_icmp_lt (tgt := 14) rfl rfl rfl (fun h64 => ?_) (fun h64 => ?_)
                          · refine X_iconst (v := (0 : Int32)) rfl rfl rfl ?_
                            refine LW_ireturn (st := []) rfl rfl rfl ?_
                            refine X_if_eq (tgt := 59) rfl rfl rfl (fun _ => ?_) (fun q => absurd q (by decide))
                            refine X_iconst (v := (0 : Int32)) rfl rfl rfl ?_
                            refine LW_ireturn (st := []) rfl rfl rfl ?_
                            refine X_if_ne (tgt := 35) rfl rfl rfl (fun q => absurd q (by decide)) (fun _ => ?_)
                            refine X_iconst (v := (-1 : Int32)) rfl rfl rfl ?_
                            refine LW_ireturn (st := []) rfl rfl rfl (congrArg (fun z => some (Value.int z)) ?_)
                            simp only [Int32.lt_iff_toInt_lt, Int32.le_iff_toInt_le, ← Int32.toInt_inj, (show (0 : Int32).toInt = 0 from rfl), (show (9 : Int32).toInt = 9 from rfl), (show (97 : Int32).toInt = 97 from rfl), (show (122 : Int32).toInt = 122 from rfl)] at h1 h2 h3 h4 h5 h6 h7 h8 h9 h57 h60 h63 h64
                            unfold f_wordB
                            rw [if_neg (by omega)]
                          · refine X_iload_n rfl rfl rfl rfl ?_
                            refine X_iload_n rfl rfl rfl rfl ?_
                            refine X_icmp_gt (tgt := 14) rfl rfl rfl (fun h65 => ?_) (fun h65 => ?_)
                            · refine X_iconst (v := (0 : Int32)) rfl rfl rfl ?_
                              refine LW_ireturn (st := []) rfl rfl rfl ?_
                              refine X_if_eq (tgt := 59) rfl rfl rfl (fun _ => ?_) (fun q => absurd q (by decide))
                              refine X_iconst (v := (0 : Int32)) rfl rfl rfl ?_
                              refine LW_ireturn (st := []) rfl rfl rfl ?_
                              refine X_if_ne (tgt := 35) rfl rfl rfl (fun q => absurd q (by decide)) (fun _ => ?_)
                              refine X_iconst (v := (-1 : Int32)) rfl rfl rfl ?_
                              refine LW_ireturn (st := []) rfl rfl rfl (congrArg (fun z => some (Value.int z)) ?_)
                              simp only [Int32.lt_iff_toInt_lt, Int32.le_iff_toInt_le, ← Int32.toInt_inj, (show (0 : Int32).toInt = 0 from rfl), (show (9 : Int32).toInt = 9 from rfl), (show (97 : Int32).toInt = 97 from rfl), (show (122 : Int32).toInt = 122 from rfl)] at h1 h2 h3 h4 h5 h6 h7 h8 h9 h57 h60 h63 h64 h65
                              unfold f_wordB
                              rw [if_neg (by omega)]
                            · refine X_iconst (v := (1 : Int32)) rfl rfl rfl ?_
                              refine LW_goto (tgt := 15) rfl rfl ?_
                              refine LW_ireturn (st := []) rfl rfl rfl ?_
                              refine X_if_eq (tgt := 59) rfl rfl rfl (fun q => absurd q (by decide)) (fun _ => ?_)
                              refine X_aload_n rfl rfl rfl rfl ?_
                              refine X_getI (v := (2 : Int32)) rfl rfl rfl ((congrFun F.1 355).trans s_355) rfl rfl ?_
                              refine X_iload_n rfl rfl rfl rfl ?_
                              refine X_iload_n rfl rfl rfl rfl ?_
                              refine X_iadd (v := (5 : Int32)) rfl rfl rfl ?_
                              refine X_icmp_ge (tgt := 61) rfl rfl rfl (fun q => absurd q (by decide)) (fun _ => ?_)
                              refine X_iconst (v := (0 : Int32)) rfl rfl rfl ?_
                              refine LW_ireturn (st := []) rfl rfl rfl ?_
                              refine X_if_ne (tgt := 35) rfl rfl rfl (fun q => absurd q (by decide)) (fun _ => ?_)
                              refine X_iconst (v := (-1 : Int32)) rfl rfl rfl ?_
                              refine LW_ireturn (st := []) rfl rfl rfl (congrArg (fun z => some (Value.int z)) ?_)
                              simp only [Int32.lt_iff_toInt_lt, Int32.le_iff_toInt_le, ← Int32.toInt_inj, (show (0 : Int32).toInt = 0 from rfl), (show (9 : Int32).toInt = 9 from rfl), (show (97 : Int32).toInt = 97 from rfl), (show (122 : Int32).toInt = 122 from rfl)] at h1 h2 h3 h4 h5 h6 h7 h8 h9 h57 h60 h63 h64 h65
                              unfold f_wordB
                              rw [if_neg (by omega)]
                        · refine X_aload_n rfl rfl rfl rfl ?_
                          refine X_getI (v := (2 : Int32)) rfl rfl rfl ((congrFun F.1 355).trans s_355) rfl rfl ?_
                          refine X_iload_n rfl rfl rfl rfl ?_
                          refine X_iload_n rfl rfl rfl rfl ?_
                          refine X_iadd (v := (5 : Int32)) rfl rfl rfl ?_
                          refine X_icmp_gt (tgt := 37) rfl rfl rfl (fun q => absurd q (by decide)) (fun _ => ?_)
                          refine LW_goto (tgt := 85) rfl rfl ?_
                          refine X_iinc (v := (2 : Int32)) (ls' := [some (.ref 355), some (.int c), some (.int (4 : Int32)), some (.int (2 : Int32)), some (.int b5)]) rfl rfl rfl rfl rfl ?_
                          refine LW_goto (tgt := 2) rfl rfl ?_
                          refine X_iload_n rfl rfl rfl rfl ?_
                          refine X_iconst (v := (4 : Int32)) rfl rfl rfl ?_
                          refine X_icmp_ge (tgt := 91) rfl rfl rfl (fun q => absurd q (by decide)) (fun _ => ?_)
                          refine X_iload_n rfl rfl rfl rfl ?_
                          refine X_bipush (v := (8 : Int32)) rfl rfl rfl ?_
                          refine X_iload_n rfl rfl rfl rfl ?_
                          refine X_imul (v := (16 : Int32)) rfl rfl rfl ?_
                          refine X_ishr (v := (c >>> ((16 : Int32) &&& 31))) rfl rfl rfl ?_
                          refine X_sipush (v := (255 : Int32)) rfl rfl rfl ?_
                          refine X_iand (v := b6) rfl rfl hb6 ?_
                          refine X_istore (i := 4) (ls' := [some (.ref 355), some (.int c), some (.int (4 : Int32)), some (.int (2 : Int32)), some (.int b6)]) rfl rfl (Nat.le_of_ble_eq_true rfl) rfl ?_
                          refine X_iload rfl rfl rfl ?_
                          refine X_if_ne (tgt := 37) rfl rfl rfl (fun h66 => ?_) (fun h66 => ?_)
                          · refine X_iload rfl rfl rfl ?_
                            refine X_bipush (v := (97 : Int32)) rfl rfl rfl ?_
                            refine X_bipush (v := (122 : Int32)) rfl rfl rfl ?_
                            refine X_callS (as := [.int b6, .int (97 : Int32), .int (122 : Int32)]) (st := []) rfl rfl rfl (by decide) rfl (Nat.le_of_ble_eq_true rfl) (by decide) (Nat.le_of_ble_eq_true rfl) rfl ?_
                            refine LW_ls (ls' := [some (.int b6), some (.int (97 : Int32)), some (.int (122 : Int32))]) rfl ?_
                            refine X_iload_n rfl rfl rfl rfl ?_
                            refine X_iload_n rfl rfl rfl rfl ?_
                            refine X_icmp_lt (tgt := 14) rfl rfl rfl (fun h67 => ?_) (fun h67 => ?_)
                            · refine X_iconst (v := (0 : Int32)) rfl rfl rfl ?_
                              refine LW_ireturn (st := []) rfl rfl rfl ?_
                              refine X_if_eq (tgt := 59) rfl rfl rfl (fun _ => ?_) (fun q => absurd q (by decide))
                              refine X_iconst (v := (0 : Int32)) rfl rfl rfl ?_
                              refine LW_ireturn (st := []) rfl rfl rfl ?_
                              refine X_if_ne (tgt := 35) rfl rfl rfl (fun q => absurd q (by decide)) (fun _ => ?_)
                              refine X_iconst (v := (-1 : Int32)) rfl rfl rfl ?_
                              refine LW_ireturn (st := []) rfl rfl rfl (congrArg (fun z => some (Value.int z)) ?_)
                              simp only [Int32.lt_iff_toInt_lt, Int32.le_iff_toInt_le, ← Int32.toInt_inj, (show (0 : Int32).toInt = 0 from rfl), (show (9 : Int32).toInt = 9 from rfl), (show (97 : Int32).toInt = 97 from rfl), (show (122 : Int32).toInt = 122 from rfl)] at h1 h2 h3 h4 h5 h6 h7 h8 h9 h57 h60 h63 h66 h67
                              unfold f_wordB
                              rw [if_neg (by omega)]
                            · refine X_iload_n rfl rfl rfl rfl ?_
                              refine X_iload_n rfl rfl rfl rfl ?_
                              refine X_icmp_gt (tgt := 14) rfl rfl rfl (fun h68 => ?_) (fun h68 => ?_)
                              · refine X_iconst (v := (0 : Int32)) rfl rfl rfl ?_
                                refine LW_ireturn (st := []) rfl rfl rfl ?_
                                refine X_if_eq (tgt := 59) rfl rfl rfl (fun _ => ?_) (fun q => absurd q (by decide))
                                refine X_iconst (v := (0 : Int32)) rfl rfl rfl ?_
                                refine LW_ireturn (st := []) rfl rfl rfl ?_
                                refine X_if_ne (tgt := 35) rfl rfl rfl (fun q => absurd q (by decide)) (fun _ => ?_)
                                refine X_iconst (v := (-1 : Int32)) rfl rfl rfl ?_
                                refine LW_ireturn (st := []) rfl rfl rfl (congrArg (fun z => some (Value.int z)) ?_)
                                simp only [Int32.lt_iff_toInt_lt, Int32.le_iff_toInt_le, ← Int32.toInt_inj, (show (0 : Int32).toInt = 0 from rfl), (show (9 : Int32).toInt = 9 from rfl), (show (97 : Int32).toInt = 97 from rfl), (show (122 : Int32).toInt = 122 from rfl)] at h1 h2 h3 h4 h5 h6 h7 h8 h9 h57 h60 h63 h66 h67 h68
                                unfold f_wordB
                                rw [if_neg (by omega)]
                              · refine X_iconst (v := (1 : Int32)) rfl rfl rfl ?_
                                refine LW_goto (tgt := 15) rfl rfl ?_
                                refine LW_ireturn (st := []) rfl rfl rfl ?_
                                refine X_if_eq (tgt := 59) rfl rfl rfl (fun q => absurd q (by decide)) (fun _ => ?_)
                                refine X_aload_n rfl rfl rfl rfl ?_
                                refine X_getI (v := (2 : Int32)) rfl rfl rfl ((congrFun F.1 355).trans s_355) rfl rfl ?_
                                refine X_iload_n rfl rfl rfl rfl ?_
                                refine X_iload_n rfl rfl rfl rfl ?_
                                refine X_iadd (v := (6 : Int32)) rfl rfl rfl ?_
                                refine X_icmp_ge (tgt := 61) rfl rfl rfl (fun q => absurd q (by decide)) (fun _ => ?_)
                                refine X_iconst (v := (0 : Int32)) rfl rfl rfl ?_
                                refine LW_ireturn (st := []) rfl rfl rfl ?_
                                refine X_if_ne (tgt := 35) rfl rfl rfl (fun q => absurd q (by decide)) (fun _ => ?_)
                                refine X_iconst (v := (-1 : Int32)) rfl rfl rfl ?_
                                refine LW_ireturn (st := []) rfl rfl rfl (congrArg (fun z => some (Value.int z)) ?_)
                                simp only [Int32.lt_iff_toInt_lt, Int32.le_iff_toInt_le, ← Int32.toInt_inj, (show (0 : Int32).toInt = 0 from rfl), (show (9 : Int32).toInt = 9 from rfl), (show (97 : Int32).toInt = 97 from rfl), (show (122 : Int32).toInt = 122 from rfl)] at h1 h2 h3 h4 h5 h6 h7 h8 h9 h57 h60 h63 h66 h67 h68
                                unfold f_wordB
                                rw [if_neg (by omega)]
                          · refine X_aload_n rfl rfl rfl rfl ?_
                            refine X_getI (v := (2 : Int32)) rfl rfl rfl ((congrFun F.1 355).trans s_355) rfl rfl ?_
                            refine X_iload_n rfl rfl rfl rfl ?_
                            refine X_iload_n rfl rfl rfl rfl ?_
                            refine X_iadd (v := (6 : Int32)) rfl rfl rfl ?_
                            refine X_icmp_gt (tgt := 37) rfl rfl rfl (fun q => absurd q (by decide)) (fun _ => ?_)
                            refine LW_goto (tgt := 85) rfl rfl ?_
                            refine X_iinc (v := (3 : Int32)) (ls' := [some (.ref 355), some (.int c), some (.int (4 : Int32)), some (.int (3 : Int32)), some (.int b6)]) rfl rfl rfl rfl rfl ?_
                            refine LW_goto (tgt := 2) rfl rfl ?_
                            refine X_iload_n rfl rfl rfl rfl ?_
                            refine X_iconst (v := (4 : Int32)) rfl rfl rfl ?_
                            refine X_icmp_ge (tgt := 91) rfl rfl rfl (fun q => absurd q (by decide)) (fun _ => ?_)
                            refine X_iload_n rfl rfl rfl rfl ?_
                            refine X_bipush (v := (8 : Int32)) rfl rfl rfl ?_
                            refine X_iload_n rfl rfl rfl rfl ?_
                            refine X_imul (v := (24 : Int32)) rfl rfl rfl ?_
                            refine X_ishr (v := (c >>> ((24 : Int32) &&& 31))) rfl rfl rfl ?_
                            refine X_sipush (v := (255 : Int32)) rfl rfl rfl ?_
                            refine X_iand (v := b7) rfl rfl hb7 ?_
                            refine X_istore (i := 4) (ls' := [some (.ref 355), some (.int c), some (.int (4 : Int32)), some (.int (3 : Int32)), some (.int b7)]) rfl rfl (Nat.le_of_ble_eq_true rfl) rfl ?_
                            refine X_iload rfl rfl rfl ?_
                            refine X_if_ne (tgt := 37) rfl rfl rfl (fun h69 => ?_) (fun h69 => ?_)
                            · refine X_iload rfl rfl rfl ?_
                              refine X_bipush (v := (97 : Int32)) rfl rfl rfl ?_
                              refine X_bipush (v := (122 : Int32)) rfl rfl rfl ?_
                              refine X_callS (as := [.int b7, .int (97 : Int32), .int (122 : Int32)]) (st := []) rfl rfl rfl (by decide) rfl (Nat.le_of_ble_eq_true rfl) (by decide) (Nat.le_of_ble_eq_true rfl) rfl ?_
                              refine LW_ls (ls' := [some (.int b7), some (.int (97 : Int32)), some (.int (122 : Int32))]) rfl ?_
                              refine X_iload_n rfl rfl rfl rfl ?_
                              refine X_iload_n rfl rfl rfl rfl ?_
                              refine X_icmp_lt (tgt := 14) rfl rfl rfl (fun h70 => ?_) (fun h70 => ?_)
                              · refine X_iconst (v := (0 : Int32)) rfl rfl rfl ?_
                                refine LW_ireturn (st := []) rfl rfl rfl ?_
                                refine X_if_eq (tgt := 59) rfl rfl rfl (fun _ => ?_) (fun q => absurd q (by decide))
                                refine X_iconst (v := (0 : Int32)) rfl rfl rfl ?_
                                refine LW_ireturn (st := []) rfl rfl rfl ?_
                                refine X_if_ne (tgt := 35) rfl rfl rfl (fun q => absurd q (by decide)) (fun _ => ?_)
                                refine X_iconst (v := (-1 : Int32)) rfl rfl rfl ?_
                                refine LW_ireturn (st := []) rfl rfl rfl (congrArg (fun z => some (Value.int z)) ?_)
                                simp only [Int32.lt_iff_toInt_lt, Int32.le_iff_toInt_le, ← Int32.toInt_inj, (show (0 : Int32).toInt = 0 from rfl), (show (9 : Int32).toInt = 9 from rfl), (show (97 : Int32).toInt = 97 from rfl), (show (122 : Int32).toInt = 122 from rfl)] at h1 h2 h3 h4 h5 h6 h7 h8 h9 h57 h60 h63 h66 h69 h70
                                unfold f_wordB
                                rw [if_neg (by omega)]
                              · refine X_iload_n rfl rfl rfl rfl ?_
                                refine X_iload_n rfl rfl rfl rfl ?_
                                refine X_icmp_gt (tgt := 14) rfl rfl rfl (fun h71 => ?_) (fun h71 => ?_)
                                · refine X_iconst (v := (0 : Int32)) rfl rfl rfl ?_
                                  refine LW_ireturn (st := []) rfl rfl rfl ?_
                                  refine X_if_eq (tgt := 59) rfl rfl rfl (fun _ => ?_) (fun q => absurd q (by decide))
                                  refine X_iconst (v := (0 : Int32)) rfl rfl rfl ?_
                                  refine LW_ireturn (st := []) rfl rfl rfl ?_
                                  refine X_if_ne (tgt := 35) rfl rfl rfl (fun q => absurd q (by decide)) (fun _ => ?_)
                                  refine X_iconst (v := (-1 : Int32)) rfl rfl rfl ?_
                                  refine LW_ireturn (st := []) rfl rfl rfl (congrArg (fun z => some (Value.int z)) ?_)
                                  simp only [Int32.lt_iff_toInt_lt, Int32.le_iff_toInt_le, ← Int32.toInt_inj, (show (0 : Int32).toInt = 0 from rfl), (show (9 : Int32).toInt = 9 from rfl), (show (97 : Int32).toInt = 97 from rfl), (show (122 : Int32).toInt = 122 from rfl)] at h1 h2 h3 h4 h5 h6 h7 h8 h9 h57 h60 h63 h66 h69 h70 h71
                                  unfold f_wordB
                                  rw [if_neg (by omega)]
                                · refine X_iconst (v := (1 : Int32)) rfl rfl rfl ?_
                                  refine LW_goto (tgt := 15) rfl rfl ?_
                                  refine LW_ireturn (st := []) rfl rfl rfl ?_
                                  refine X_if_eq (tgt := 59) rfl rfl rfl (fun q => absurd q (by decide)) (fun _ => ?_)
                                  refine X_aload_n rfl rfl rfl rfl ?_
                                  refine X_getI (v := (2 : Int32)) rfl rfl rfl ((congrFun F.1 355).trans s_355) rfl rfl ?_
                                  refine X_iload_n rfl rfl rfl rfl ?_
                                  refine X_iload_n rfl rfl rfl rfl ?_
                                  refine X_iadd (v := (7 : Int32)) rfl rfl rfl ?_
                                  refine X_icmp_ge (tgt := 61) rfl rfl rfl (fun q => absurd q (by decide)) (fun _ => ?_)
                                  refine X_iconst (v := (0 : Int32)) rfl rfl rfl ?_
                                  refine LW_ireturn (st := []) rfl rfl rfl ?_
                                  refine X_if_ne (tgt := 35) rfl rfl rfl (fun q => absurd q (by decide)) (fun _ => ?_)
                                  refine X_iconst (v := (-1 : Int32)) rfl rfl rfl ?_
                                  refine LW_ireturn (st := []) rfl rfl rfl (congrArg (fun z => some (Value.int z)) ?_)
                                  simp only [Int32.lt_iff_toInt_lt, Int32.le_iff_toInt_le, ← Int32.toInt_inj, (show (0 : Int32).toInt = 0 from rfl), (show (9 : Int32).toInt = 9 from rfl), (show (97 : Int32).toInt = 97 from rfl), (show (122 : Int32).toInt = 122 from rfl)] at h1 h2 h3 h4 h5 h6 h7 h8 h9 h57 h60 h63 h66 h69 h70 h71
                                  unfold f_wordB
                                  rw [if_neg (by omega)]
                            · refine X_aload_n rfl rfl rfl rfl ?_
                              refine X_getI (v := (2 : Int32)) rfl rfl rfl ((congrFun F.1 355).trans s_355) rfl rfl ?_
                              refine X_iload_n rfl rfl rfl rfl ?_
                              refine X_iload_n rfl rfl rfl rfl ?_
                              refine X_iadd (v := (7 : Int32)) rfl rfl rfl ?_
                              refine X_icmp_gt (tgt := 37) rfl rfl rfl (fun q => absurd q (by decide)) (fun _ => ?_)
                              refine LW_goto (tgt := 85) rfl rfl ?_
                              refine X_iinc (v := (4 : Int32)) (ls' := [some (.ref 355), some (.int c), some (.int (4 : Int32)), some (.int (4 : Int32)), some (.int b7)]) rfl rfl rfl rfl rfl ?_
                              refine LW_goto (tgt := 2) rfl rfl ?_
                              refine X_iload_n rfl rfl rfl rfl ?_
                              refine X_iconst (v := (4 : Int32)) rfl rfl rfl ?_
                              refine X_icmp_ge (tgt := 91) rfl rfl rfl (fun _ => ?_) (fun q => absurd q (by decide))
                              refine X_iconst (v := (1 : Int32)) rfl rfl rfl ?_
                              refine LW_ireturn (st := []) rfl rfl rfl ?_
                              refine X_if_ne (tgt := 35) rfl rfl rfl (fun _ => ?_) (fun q => absurd q (by decide))
                              refine X_aload_n rfl rfl rfl rfl ?_
                              refine X_iload_n rfl rfl rfl rfl ?_
                              refine X_callV (as := [.int s]) (st := []) rfl rfl rfl (by decide) rfl (Nat.le_of_ble_eq_true rfl) (by decide) (Nat.le_of_ble_eq_true rfl) rfl ((congrFun F.1 355).trans s_355) (by decide) ?_
                              refine LW_ls (ls' := [some (.ref 355), some (.int s), none, none]) rfl ?_
                              refine X_aload_n rfl rfl rfl rfl ?_
                              refine X_getI (v := (2 : Int32)) rfl rfl rfl ((congrFun F.1 355).trans s_355) rfl rfl ?_
                              refine X_if_eq (tgt := 25) rfl rfl rfl (fun q => absurd q (by decide)) (fun _ => ?_)
                              refine X_aload_n rfl rfl rfl rfl ?_
                              refine X_callV (as := []) (st := []) rfl rfl rfl (by decide) rfl (Nat.le_of_ble_eq_true rfl) (by decide) (Nat.le_of_ble_eq_true rfl) rfl ((congrFun F.1 355).trans s_355) (by decide) ?_
                              refine LW_ls (ls' := [some (.ref 355), none, none, none]) rfl ?_
                              refine X_iconst (v := (0 : Int32)) rfl rfl rfl ?_
                              refine X_istore_n (i := 1) (ls' := [some (.ref 355), some (.int (0 : Int32)), none, none]) rfl rfl rfl (Nat.le_of_ble_eq_true rfl) rfl ?_
                              refine X_iload_n rfl rfl rfl rfl ?_
                              refine X_aload_n rfl rfl rfl rfl ?_
                              refine X_getR (a := 356) rfl rfl rfl ((congrFun F.1 355).trans s_355) rfl ((congrFun (F.2.1 355 (by decide)) 0).trans r_355_0) ?_
                              refine X_iconst (v := (0 : Int32)) rfl rfl rfl ?_
                              refine X_iald (v := (0 : Int32)) rfl rfl ((congrFun F.1 356).trans s_356) (vp_in_d rfl) ((congrFun (F.2.2 356 (by decide)).1 0).trans i_356_0) ?_
                              refine X_icmp_ge (tgt := 83) rfl rfl rfl (fun _ => ?_) (fun q => absurd q (by decide))
                              refine X_iconst (v := (0 : Int32)) rfl rfl rfl ?_
                              refine LW_ireturn (st := []) rfl rfl rfl ?_
                              refine X_if_ne (tgt := 25) rfl rfl rfl (fun q => absurd q (by decide)) (fun _ => ?_)
                              refine X_aload_n rfl rfl rfl rfl ?_
                              refine X_getR (a := 356) rfl rfl rfl ((congrFun F.1 355).trans s_355) rfl ((congrFun (F.2.1 355 (by decide)) 0).trans r_355_0) ?_
                              refine X_iconst (v := (0 : Int32)) rfl rfl rfl ?_
                              refine X_iald (v := (0 : Int32)) rfl rfl ((congrFun F.1 356).trans s_356) (vp_in_d rfl) ((congrFun (F.2.2 356 (by decide)).1 0).trans i_356_0) ?_
                              refine X_bipush (v := (24 : Int32)) rfl rfl rfl ?_
                              refine X_icmp_ne (tgt := 27) rfl rfl rfl (fun _ => ?_) (fun q => absurd q (by decide))
                              refine X_bipush (v := (116 : Int32)) rfl rfl rfl ?_
                              refine X_bipush (v := (10 : Int32)) rfl rfl rfl ?_
                              refine X_aload_n rfl rfl rfl rfl ?_
                              refine X_getR (a := 356) rfl rfl rfl ((congrFun F.1 355).trans s_355) rfl ((congrFun (F.2.1 355 (by decide)) 0).trans r_355_0) ?_
                              refine X_iconst (v := (0 : Int32)) rfl rfl rfl ?_
                              refine X_iald (v := (0 : Int32)) rfl rfl ((congrFun F.1 356).trans s_356) (vp_in_d rfl) ((congrFun (F.2.2 356 (by decide)).1 0).trans i_356_0) ?_
                              refine X_imul (v := (0 : Int32)) rfl rfl rfl ?_
                              refine X_iadd (v := (116 : Int32)) rfl rfl rfl ?_
                              refine X_istore_n (i := 2) (ls' := [some (.ref 355), some (.int s), some (.int (116 : Int32)), none]) rfl rfl rfl (Nat.le_of_ble_eq_true rfl) rfl ?_
                              refine X_iconst (v := (0 : Int32)) rfl rfl rfl ?_
                              refine X_istore_n (i := 3) (ls' := [some (.ref 355), some (.int s), some (.int (116 : Int32)), some (.int (0 : Int32))]) rfl rfl rfl (Nat.le_of_ble_eq_true rfl) rfl ?_
                              refine X_iload_n rfl rfl rfl rfl ?_
                              refine X_bipush (v := (8 : Int32)) rfl rfl rfl ?_
                              refine X_icmp_ge (tgt := 80) rfl rfl rfl (fun q => absurd q (by decide)) (fun _ => ?_)
                              refine X_aload_n rfl rfl rfl rfl ?_
                              refine X_getR (a := 356) rfl rfl rfl ((congrFun F.1 355).trans s_355) rfl ((congrFun (F.2.1 355 (by decide)) 0).trans r_355_0) ?_
                              refine X_iload_n rfl rfl rfl rfl ?_
                              refine X_iload_n rfl rfl rfl rfl ?_
                              refine X_iadd (v := (116 : Int32)) rfl rfl rfl ?_
                              refine X_iload_n rfl rfl rfl rfl ?_
                              refine X_aload_n rfl rfl rfl rfl ?_
                              refine X_getI (v := (2 : Int32)) rfl rfl rfl ((congrFun F.1 355).trans s_355) rfl rfl ?_
                              refine X_icmp_ge (tgt := 72) rfl rfl rfl (fun q => absurd q (by decide)) (fun _ => ?_)
                              refine X_aload_n rfl rfl rfl rfl ?_
                              refine X_getR (a := 359) rfl rfl rfl ((congrFun F.1 355).trans s_355) rfl ((congrFun (F.2.1 355 (by decide)) 3).trans r_355_3) ?_
                              refine X_iload_n rfl rfl rfl rfl ?_
                              refine X_iald (v := (b0 - (97 : Int32))) rfl rfl ((congrFun F.1 359).trans s_359) (vp_in_d rfl) rfl ?_
                              refine LW_goto (tgt := 73) rfl rfl ?_
                              refine X_iast (k0 := 116) rfl rfl ((congrFun F.1 356).trans s_356) (vp_in_d rfl) rfl ?_
                              refine X_iinc (v := (1 : Int32)) (ls' := [some (.ref 355), some (.int s), some (.int (116 : Int32)), some (.int (1 : Int32))]) rfl rfl rfl rfl rfl ?_
                              refine LW_goto (tgt := 42) rfl rfl ?_
                              refine X_iload_n rfl rfl rfl rfl ?_
                              refine X_bipush (v := (8 : Int32)) rfl rfl rfl ?_
                              refine X_icmp_ge (tgt := 80) rfl rfl rfl (fun q => absurd q (by decide)) (fun _ => ?_)
                              refine X_aload_n rfl rfl rfl rfl ?_
                              refine X_getR (a := 356) rfl rfl rfl ((congrFun F.1 355).trans s_355) rfl ((congrFun (F.2.1 355 (by decide)) 0).trans r_355_0) ?_
                              refine X_iload_n rfl rfl rfl rfl ?_
                              refine X_iload_n rfl rfl rfl rfl ?_
                              refine X_iadd (v := (117 : Int32)) rfl rfl rfl ?_
                              refine X_iload_n rfl rfl rfl rfl ?_
                              refine X_aload_n rfl rfl rfl rfl ?_
                              refine X_getI (v := (2 : Int32)) rfl rfl rfl ((congrFun F.1 355).trans s_355) rfl rfl ?_
                              refine X_icmp_ge (tgt := 72) rfl rfl rfl (fun q => absurd q (by decide)) (fun _ => ?_)
                              refine X_aload_n rfl rfl rfl rfl ?_
                              refine X_getR (a := 359) rfl rfl rfl ((congrFun F.1 355).trans s_355) rfl ((congrFun (F.2.1 355 (by decide)) 3).trans r_355_3) ?_
                              refine X_iload_n rfl rfl rfl rfl ?_
                              refine X_iald (v := (b1 - (97 : Int32))) rfl rfl ((congrFun F.1 359).trans s_359) (vp_in_d rfl) rfl ?_
                              refine LW_goto (tgt := 73) rfl rfl ?_
                              refine X_iast (k0 := 117) rfl rfl ((congrFun F.1 356).trans s_356) (vp_in_d rfl) rfl ?_
                              refine X_iinc (v := (2 : Int32)) (ls' := [some (.ref 355), some (.int s), some (.int (116 : Int32)), some (.int (2 : Int32))]) rfl rfl rfl rfl rfl ?_
                              refine LW_goto (tgt := 42) rfl rfl ?_
                              refine X_iload_n rfl rfl rfl rfl ?_
                              refine X_bipush (v := (8 : Int32)) rfl rfl rfl ?_
                              refine X_icmp_ge (tgt := 80) rfl rfl rfl (fun q => absurd q (by decide)) (fun _ => ?_)
                              refine X_aload_n rfl rfl rfl rfl ?_
                              refine X_getR (a := 356) rfl rfl rfl ((congrFun F.1 355).trans s_355) rfl ((congrFun (F.2.1 355 (by decide)) 0).trans r_355_0) ?_
                              refine X_iload_n rfl rfl rfl rfl ?_
                              refine X_iload_n rfl rfl rfl rfl ?_
                              refine X_iadd (v := (118 : Int32)) rfl rfl rfl ?_
                              refine X_iload_n rfl rfl rfl rfl ?_
                              refine X_aload_n rfl rfl rfl rfl ?_
                              refine X_getI (v := (2 : Int32)) rfl rfl rfl ((congrFun F.1 355).trans s_355) rfl rfl ?_
                              refine X_icmp_ge (tgt := 72) rfl rfl rfl (fun _ => ?_) (fun q => absurd q (by decide))
                              refine X_iconst (v := (0 : Int32)) rfl rfl rfl ?_
                              refine X_iast (k0 := 118) rfl rfl ((congrFun F.1 356).trans s_356) (vp_in_d rfl) rfl ?_
                              refine X_iinc (v := (3 : Int32)) (ls' := [some (.ref 355), some (.int s), some (.int (116 : Int32)), some (.int (3 : Int32))]) rfl rfl rfl rfl rfl ?_
                              refine LW_goto (tgt := 42) rfl rfl ?_
                              refine X_iload_n rfl rfl rfl rfl ?_
                              refine X_bipush (v := (8 : Int32)) rfl rfl rfl ?_
                              refine X_icmp_ge (tgt := 80) rfl rfl rfl (fun q => absurd q (by decide)) (fun _ => ?_)
                              refine X_aload_n rfl rfl rfl rfl ?_
                              refine X_getR (a := 356) rfl rfl rfl ((congrFun F.1 355).trans s_355) rfl ((congrFun (F.2.1 355 (by decide)) 0).trans r_355_0) ?_
                              refine X_iload_n rfl rfl rfl rfl ?_
                              refine X_iload_n rfl rfl rfl rfl ?_
                              refine X_iadd (v := (119 : Int32)) rfl rfl rfl ?_
                              refine X_iload_n rfl rfl rfl rfl ?_
                              refine X_aload_n rfl rfl rfl rfl ?_
                              refine X_getI (v := (2 : Int32)) rfl rfl rfl ((congrFun F.1 355).trans s_355) rfl rfl ?_
                              refine X_icmp_ge (tgt := 72) rfl rfl rfl (fun _ => ?_) (fun q => absurd q (by decide))
                              refine X_iconst (v := (0 : Int32)) rfl rfl rfl ?_
                              refine X_iast (k0 := 119) rfl rfl ((congrFun F.1 356).trans s_356) (vp_in_d rfl) rfl ?_
                              refine X_iinc (v := (4 : Int32)) (ls' := [some (.ref 355), some (.int s), some (.int (116 : Int32)), some (.int (4 : Int32))]) rfl rfl rfl rfl rfl ?_
                              refine LW_goto (tgt := 42) rfl rfl ?_
                              refine X_iload_n rfl rfl rfl rfl ?_
                              refine X_bipush (v := (8 : Int32)) rfl rfl rfl ?_
                              refine X_icmp_ge (tgt := 80) rfl rfl rfl (fun q => absurd q (by decide)) (fun _ => ?_)
                              refine X_aload_n rfl rfl rfl rfl ?_
                              refine X_getR (a := 356) rfl rfl rfl ((congrFun F.1 355).trans s_355) rfl ((congrFun (F.2.1 355 (by decide)) 0).trans r_355_0) ?_
                              refine X_iload_n rfl rfl rfl rfl ?_
                              refine X_iload_n rfl rfl rfl rfl ?_
                              refine X_iadd (v := (120 : Int32)) rfl rfl rfl ?_
                              refine X_iload_n rfl rfl rfl rfl ?_
                              refine X_aload_n rfl rfl rfl rfl ?_
                              refine X_getI (v := (2 : Int32)) rfl rfl rfl ((congrFun F.1 355).trans s_355) rfl rfl ?_
                              refine X_icmp_ge (tgt := 72) rfl rfl rfl (fun _ => ?_) (fun q => absurd q (by decide))
                              refine X_iconst (v := (0 : Int32)) rfl rfl rfl ?_
                              refine X_iast (k0 := 120) rfl rfl ((congrFun F.1 356).trans s_356) (vp_in_d rfl) rfl ?_
                              refine X_iinc (v := (5 : Int32)) (ls' := [some (.ref 355), some (.int s), some (.int (116 : Int32)), some (.int (5 : Int32))]) rfl rfl rfl rfl rfl ?_
                              refine LW_goto (tgt := 42) rfl rfl ?_
                              refine X_iload_n rfl rfl rfl rfl ?_
                              refine X_bipush (v := (8 : Int32)) rfl rfl rfl ?_
                              refine X_icmp_ge (tgt := 80) rfl rfl rfl (fun q => absurd q (by decide)) (fun _ => ?_)
                              refine X_aload_n rfl rfl rfl rfl ?_
                              refine X_getR (a := 356) rfl rfl rfl ((congrFun F.1 355).trans s_355) rfl ((congrFun (F.2.1 355 (by decide)) 0).trans r_355_0) ?_
                              refine X_iload_n rfl rfl rfl rfl ?_
                              refine X_iload_n rfl rfl rfl rfl ?_
                              refine X_iadd (v := (121 : Int32)) rfl rfl rfl ?_
                              refine X_iload_n rfl rfl rfl rfl ?_
                              refine X_aload_n rfl rfl rfl rfl ?_
                              refine X_getI (v := (2 : Int32)) rfl rfl rfl ((congrFun F.1 355).trans s_355) rfl rfl ?_
                              refine X_icmp_ge (tgt := 72) rfl rfl rfl (fun _ => ?_) (fun q => absurd q (by decide))
                              refine X_iconst (v := (0 : Int32)) rfl rfl rfl ?_
                              refine X_iast (k0 := 121) rfl rfl ((congrFun F.1 356).trans s_356) (vp_in_d rfl) rfl ?_
                              refine X_iinc (v := (6 : Int32)) (ls' := [some (.ref 355), some (.int s), some (.int (116 : Int32)), some (.int (6 : Int32))]) rfl rfl rfl rfl rfl ?_
                              refine LW_goto (tgt := 42) rfl rfl ?_
                              refine X_iload_n rfl rfl rfl rfl ?_
                              refine X_bipush (v := (8 : Int32)) rfl rfl rfl ?_
                              refine X_icmp_ge (tgt := 80) rfl rfl rfl (fun q => absurd q (by decide)) (fun _ => ?_)
                              refine X_aload_n rfl rfl rfl rfl ?_
                              refine X_getR (a := 356) rfl rfl rfl ((congrFun F.1 355).trans s_355) rfl ((congrFun (F.2.1 355 (by decide)) 0).trans r_355_0) ?_
                              refine X_iload_n rfl rfl rfl rfl ?_
                              refine X_iload_n rfl rfl rfl rfl ?_
                              refine X_iadd (v := (122 : Int32)) rfl rfl rfl ?_
                              refine X_iload_n rfl rfl rfl rfl ?_
                              refine X_aload_n rfl rfl rfl rfl ?_
                              refine X_getI (v := (2 : Int32)) rfl rfl rfl ((congrFun F.1 355).trans s_355) rfl rfl ?_
                              refine X_icmp_ge (tgt := 72) rfl rfl rfl (fun _ => ?_) (fun q => absurd q (by decide))
                              refine X_iconst (v := (0 : Int32)) rfl rfl rfl ?_
                              refine X_iast (k0 := 122) rfl rfl ((congrFun F.1 356).trans s_356) (vp_in_d rfl) rfl ?_
                              refine X_iinc (v := (7 : Int32)) (ls' := [some (.ref 355), some (.int s), some (.int (116 : Int32)), some (.int (7 : Int32))]) rfl rfl rfl rfl rfl ?_
                              refine LW_goto (tgt := 42) rfl rfl ?_
                              refine X_iload_n rfl rfl rfl rfl ?_
                              refine X_bipush (v := (8 : Int32)) rfl rfl rfl ?_
                              refine X_icmp_ge (tgt := 80) rfl rfl rfl (fun q => absurd q (by decide)) (fun _ => ?_)
                              refine X_aload_n rfl rfl rfl rfl ?_
                              refine X_getR (a := 356) rfl rfl rfl ((congrFun F.1 355).trans s_355) rfl ((congrFun (F.2.1 355 (by decide)) 0).trans r_355_0) ?_
                              refine X_iload_n rfl rfl rfl rfl ?_
                              refine X_iload_n rfl rfl rfl rfl ?_
                              refine X_iadd (v := (123 : Int32)) rfl rfl rfl ?_
                              refine X_iload_n rfl rfl rfl rfl ?_
                              refine X_aload_n rfl rfl rfl rfl ?_
                              refine X_getI (v := (2 : Int32)) rfl rfl rfl ((congrFun F.1 355).trans s_355) rfl rfl ?_
                              refine X_icmp_ge (tgt := 72) rfl rfl rfl (fun _ => ?_) (fun q => absurd q (by decide))
                              refine X_iconst (v := (0 : Int32)) rfl rfl rfl ?_
                              refine X_iast (k0 := 123) rfl rfl ((congrFun F.1 356).trans s_356) (vp_in_d rfl) rfl ?_
                              refine X_iinc (v := (8 : Int32)) (ls' := [some (.ref 355), some (.int s), some (.int (116 : Int32)), some (.int (8 : Int32))]) rfl rfl rfl rfl rfl ?_
                              refine LW_goto (tgt := 42) rfl rfl ?_
                              refine X_iload_n rfl rfl rfl rfl ?_
                              refine X_bipush (v := (8 : Int32)) rfl rfl rfl ?_
                              refine X_icmp_ge (tgt := 80) rfl rfl rfl (fun _ => ?_) (fun q => absurd q (by decide))
                              refine X_aload_n rfl rfl rfl rfl ?_
                              refine X_getR (a := 356) rfl rfl rfl ((congrFun F.1 355).trans s_355) rfl ((congrFun (F.2.1 355 (by decide)) 0).trans r_355_0) ?_
                              refine X_iload_n rfl rfl rfl rfl ?_
                              refine X_bipush (v := (8 : Int32)) rfl rfl rfl ?_
                              refine X_iadd (v := (124 : Int32)) rfl rfl rfl ?_
                              refine X_aload_n rfl rfl rfl rfl ?_
                              refine X_getI (v := (2 : Int32)) rfl rfl rfl ((congrFun F.1 355).trans s_355) rfl rfl ?_
                              refine X_iast (k0 := 124) rfl rfl ((congrFun F.1 356).trans s_356) (vp_in_d rfl) rfl ?_
                              refine X_aload_n rfl rfl rfl rfl ?_
                              refine X_getR (a := 356) rfl rfl rfl ((congrFun F.1 355).trans s_355) rfl ((congrFun (F.2.1 355 (by decide)) 0).trans r_355_0) ?_
                              refine X_iload_n rfl rfl rfl rfl ?_
                              refine X_bipush (v := (9 : Int32)) rfl rfl rfl ?_
                              refine X_iadd (v := (125 : Int32)) rfl rfl rfl ?_
                              refine X_iload_n rfl rfl rfl rfl ?_
                              refine X_iast (k0 := 125) rfl rfl ((congrFun F.1 356).trans s_356) (vp_in_d rfl) rfl ?_
                              refine X_aload_n rfl rfl rfl rfl ?_
                              refine X_getR (a := 356) rfl rfl rfl ((congrFun F.1 355).trans s_355) rfl ((congrFun (F.2.1 355 (by decide)) 0).trans r_355_0) ?_
                              refine X_iconst (v := (0 : Int32)) rfl rfl rfl ?_
                              refine X_dup2 rfl rfl rfl rfl ?_
                              refine X_iald (v := (0 : Int32)) rfl rfl ((congrFun F.1 356).trans s_356) (vp_in_d rfl) ((congrFun (F.2.2 356 (by decide)).1 0).trans i_356_0) ?_
                              refine X_iconst (v := (1 : Int32)) rfl rfl rfl ?_
                              refine X_iadd (v := (1 : Int32)) rfl rfl rfl ?_
                              refine X_iast (k0 := 0) rfl rfl ((congrFun F.1 356).trans s_356) (vp_in_d rfl) rfl ?_
                              refine X_aload_n rfl rfl rfl rfl ?_
                              refine X_getR (a := 356) rfl rfl rfl ((congrFun F.1 355).trans s_355) rfl ((congrFun (F.2.1 355 (by decide)) 0).trans r_355_0) ?_
                              refine X_iconst (v := (0 : Int32)) rfl rfl rfl ?_
                              refine X_iald (v := (1 : Int32)) rfl rfl ((congrFun F.1 356).trans s_356) (vp_in_d rfl) rfl ?_
                              refine X_iconst (v := (1 : Int32)) rfl rfl rfl ?_
                              refine X_isub (v := (0 : Int32)) rfl rfl rfl ?_
                              refine LW_ireturn (st := []) rfl rfl rfl ?_
                              refine LW_ireturn (st := []) rfl rfl rfl (congrArg (fun z => some (Value.int z)) ?_)
                              simp only [Int32.lt_iff_toInt_lt, Int32.le_iff_toInt_le, ← Int32.toInt_inj, (show (0 : Int32).toInt = 0 from rfl), (show (9 : Int32).toInt = 9 from rfl), (show (97 : Int32).toInt = 97 from rfl), (show (122 : Int32).toInt = 122 from rfl)] at h1 h2 h3 h4 h5 h6 h7 h8 h9 h57 h60 h63 h66 h69
                              unfold f_wordB
                              rw [if_pos (by omega)]
            · refine X_aload_n rfl rfl rfl rfl ?_
              refine X_getI (v := (1 : Int32)) rfl rfl rfl ((congrFun F.1 355).trans s_355) rfl rfl ?_
              refine X_iload_n rfl rfl rfl rfl ?_
              refine X_iload_n rfl rfl rfl rfl ?_
              refine X_iadd (v := (1 : Int32)) rfl rfl rfl ?_
              refine X_icmp_gt (tgt := 37) rfl rfl rfl (fun q => absurd q (by decide)) (fun _ => ?_)
              refine LW_goto (tgt := 85) rfl rfl ?_
              refine X_iinc (v := (2 : Int32)) (ls' := [some (.ref 355), some (.int a), some (.int (0 : Int32)), some (.int (2 : Int32)), some (.int b1)]) rfl rfl rfl rfl rfl ?_
              refine LW_goto (tgt := 2) rfl rfl ?_
              refine X_iload_n rfl rfl rfl rfl ?_
              refine X_iconst (v := (4 : Int32)) rfl rfl rfl ?_
              refine X_icmp_ge (tgt := 91) rfl rfl rfl (fun q => absurd q (by decide)) (fun _ => ?_)
              refine X_iload_n rfl rfl rfl rfl ?_
              refine X_bipush (v := (8 : Int32)) rfl rfl rfl ?_
              refine X_iload_n rfl rfl rfl rfl ?_
              refine X_imul (v := (16 : Int32)) rfl rfl rfl ?_
              refine X_ishr (v := (a >>> ((16 : Int32) &&& 31))) rfl rfl rfl ?_
              refine X_sipush (v := (255 : Int32)) rfl rfl rfl ?_
              refine X_iand (v := b2) rfl rfl hb2 ?_
              refine X_istore (i := 4) (ls' := [some (.ref 355), some (.int a), some (.int (0 : Int32)), some (.int (2 : Int32)), some (.int b2)]) rfl rfl (Nat.le_of_ble_eq_true rfl) rfl ?_
              refine X_iload rfl rfl rfl ?_
              refine X_if_ne (tgt := 37) rfl rfl rfl (fun h72 => ?_) (fun h72 => ?_)
              · refine X_iload rfl rfl rfl ?_
                refine X_bipush (v := (97 : Int32)) rfl rfl rfl ?_
                refine X_bipush (v := (122 : Int32)) rfl rfl rfl ?_
                refine X_callS (as := [.int b2, .int (97 : Int32), .int (122 : Int32)]) (st := []) rfl rfl rfl (by decide) rfl (Nat.le_of_ble_eq_true rfl) (by decide) (Nat.le_of_ble_eq_true rfl) rfl ?_
                refine LW_ls (ls' := [some (.int b2), some (.int (97 : Int32)), some (.int (122 : Int32))]) rfl ?_
                refine X_iload_n rfl rfl rfl rfl ?_
                refine X_iload_n rfl rfl rfl rfl ?_
                refine X_icmp_lt (tgt := 14) rfl rfl rfl (fun h73 => ?_) (fun h73 => ?_)
                · refine X_iconst (v := (0 : Int32)) rfl rfl rfl ?_
                  refine LW_ireturn (st := []) rfl rfl rfl ?_
                  refine X_if_eq (tgt := 59) rfl rfl rfl (fun _ => ?_) (fun q => absurd q (by decide))
                  refine X_iconst (v := (0 : Int32)) rfl rfl rfl ?_
                  refine LW_ireturn (st := []) rfl rfl rfl ?_
                  refine X_if_eq (tgt := 33) rfl rfl rfl (fun _ => ?_) (fun q => absurd q (by decide))
                  refine X_iconst (v := (-1 : Int32)) rfl rfl rfl ?_
                  refine LW_ireturn (st := []) rfl rfl rfl (congrArg (fun z => some (Value.int z)) ?_)
                  simp only [Int32.lt_iff_toInt_lt, Int32.le_iff_toInt_le, ← Int32.toInt_inj, (show (0 : Int32).toInt = 0 from rfl), (show (9 : Int32).toInt = 9 from rfl), (show (97 : Int32).toInt = 97 from rfl), (show (122 : Int32).toInt = 122 from rfl)] at h1 h2 h3 h4 h5 h6 h72 h73
                  unfold f_wordB
                  rw [if_neg (by omega)]
                · refine X_iload_n rfl rfl rfl rfl ?_
                  refine X_iload_n rfl rfl rfl rfl ?_
                  refine X_icmp_gt (tgt := 14) rfl rfl rfl (fun h74 => ?_) (fun h74 => ?_)
                  · refine X_iconst (v := (0 : Int32)) rfl rfl rfl ?_
                    refine LW_ireturn (st := []) rfl rfl rfl ?_
                    refine X_if_eq (tgt := 59) rfl rfl rfl (fun _ => ?_) (fun q => absurd q (by decide))
                    refine X_iconst (v := (0 : Int32)) rfl rfl rfl ?_
                    refine LW_ireturn (st := []) rfl rfl rfl ?_
                    refine X_if_eq (tgt := 33) rfl rfl rfl (fun _ => ?_) (fun q => absurd q (by decide))
                    refine X_iconst (v := (-1 : Int32)) rfl rfl rfl ?_
                    refine LW_ireturn (st := []) rfl rfl rfl (congrArg (fun z => some (Value.int z)) ?_)
                    simp only [Int32.lt_iff_toInt_lt, Int32.le_iff_toInt_le, ← Int32.toInt_inj, (show (0 : Int32).toInt = 0 from rfl), (show (9 : Int32).toInt = 9 from rfl), (show (97 : Int32).toInt = 97 from rfl), (show (122 : Int32).toInt = 122 from rfl)] at h1 h2 h3 h4 h5 h6 h72 h73 h74
                    unfold f_wordB
                    rw [if_neg (by omega)]
                  · refine X_iconst (v := (1 : Int32)) rfl rfl rfl ?_
                    refine LW_goto (tgt := 15) rfl rfl ?_
                    refine LW_ireturn (st := []) rfl rfl rfl ?_
                    refine X_if_eq (tgt := 59) rfl rfl rfl (fun q => absurd q (by decide)) (fun _ => ?_)
                    refine X_aload_n rfl rfl rfl rfl ?_
                    refine X_getI (v := (1 : Int32)) rfl rfl rfl ((congrFun F.1 355).trans s_355) rfl rfl ?_
                    refine X_iload_n rfl rfl rfl rfl ?_
                    refine X_iload_n rfl rfl rfl rfl ?_
                    refine X_iadd (v := (2 : Int32)) rfl rfl rfl ?_
                    refine X_icmp_ge (tgt := 61) rfl rfl rfl (fun q => absurd q (by decide)) (fun _ => ?_)
                    refine X_iconst (v := (0 : Int32)) rfl rfl rfl ?_
                    refine LW_ireturn (st := []) rfl rfl rfl ?_
                    refine X_if_eq (tgt := 33) rfl rfl rfl (fun _ => ?_) (fun q => absurd q (by decide))
                    refine X_iconst (v := (-1 : Int32)) rfl rfl rfl ?_
                    refine LW_ireturn (st := []) rfl rfl rfl (congrArg (fun z => some (Value.int z)) ?_)
                    simp only [Int32.lt_iff_toInt_lt, Int32.le_iff_toInt_le, ← Int32.toInt_inj, (show (0 : Int32).toInt = 0 from rfl), (show (9 : Int32).toInt = 9 from rfl), (show (97 : Int32).toInt = 97 from rfl), (show (122 : Int32).toInt = 122 from rfl)] at h1 h2 h3 h4 h5 h6 h72 h73 h74
                    unfold f_wordB
                    rw [if_neg (by omega)]
              · refine X_aload_n rfl rfl rfl rfl ?_
                refine X_getI (v := (1 : Int32)) rfl rfl rfl ((congrFun F.1 355).trans s_355) rfl rfl ?_
                refine X_iload_n rfl rfl rfl rfl ?_
                refine X_iload_n rfl rfl rfl rfl ?_
                refine X_iadd (v := (2 : Int32)) rfl rfl rfl ?_
                refine X_icmp_gt (tgt := 37) rfl rfl rfl (fun q => absurd q (by decide)) (fun _ => ?_)
                refine LW_goto (tgt := 85) rfl rfl ?_
                refine X_iinc (v := (3 : Int32)) (ls' := [some (.ref 355), some (.int a), some (.int (0 : Int32)), some (.int (3 : Int32)), some (.int b2)]) rfl rfl rfl rfl rfl ?_
                refine LW_goto (tgt := 2) rfl rfl ?_
                refine X_iload_n rfl rfl rfl rfl ?_
                refine X_iconst (v := (4 : Int32)) rfl rfl rfl ?_
                refine X_icmp_ge (tgt := 91) rfl rfl rfl (fun q => absurd q (by decide)) (fun _ => ?_)
                refine X_iload_n rfl rfl rfl rfl ?_
                refine X_bipush (v := (8 : Int32)) rfl rfl rfl ?_
                refine X_iload_n rfl rfl rfl rfl ?_
                refine X_imul (v := (24 : Int32)) rfl rfl rfl ?_
                refine X_ishr (v := (a >>> ((24 : Int32) &&& 31))) rfl rfl rfl ?_
                refine X_sipush (v := (255 : Int32)) rfl rfl rfl ?_
                refine X_iand (v := b3) rfl rfl hb3 ?_
                refine X_istore (i := 4) (ls' := [some (.ref 355), some (.int a), some (.int (0 : Int32)), some (.int (3 : Int32)), some (.int b3)]) rfl rfl (Nat.le_of_ble_eq_true rfl) rfl ?_
                refine X_iload rfl rfl rfl ?_
                refine X_if_ne (tgt := 37) rfl rfl rfl (fun h75 => ?_) (fun h75 => ?_)
                · refine X_iload rfl rfl rfl ?_
                  refine X_bipush (v := (97 : Int32)) rfl rfl rfl ?_
                  refine X_bipush (v := (122 : Int32)) rfl rfl rfl ?_
                  refine X_callS (as := [.int b3, .int (97 : Int32), .int (122 : Int32)]) (st := []) rfl rfl rfl (by decide) rfl (Nat.le_of_ble_eq_true rfl) (by decide) (Nat.le_of_ble_eq_true rfl) rfl ?_
                  refine LW_ls (ls' := [some (.int b3), some (.int (97 : Int32)), some (.int (122 : Int32))]) rfl ?_
                  refine X_iload_n rfl rfl rfl rfl ?_
                  refine X_iload_n rfl rfl rfl rfl ?_
                  refine X_icmp_lt (tgt := 14) rfl rfl rfl (fun h76 => ?_) (fun h76 => ?_)
                  · refine X_iconst (v := (0 : Int32)) rfl rfl rfl ?_
                    refine LW_ireturn (st := []) rfl rfl rfl ?_
                    refine X_if_eq (tgt := 59) rfl rfl rfl (fun _ => ?_) (fun q => absurd q (by decide))
                    refine X_iconst (v := (0 : Int32)) rfl rfl rfl ?_
                    refine LW_ireturn (st := []) rfl rfl rfl ?_
                    refine X_if_eq (tgt := 33) rfl rfl rfl (fun _ => ?_) (fun q => absurd q (by decide))
                    refine X_iconst (v := (-1 : Int32)) rfl rfl rfl ?_
                    refine LW_ireturn (st := []) rfl rfl rfl (congrArg (fun z => some (Value.int z)) ?_)
                    simp only [Int32.lt_iff_toInt_lt, Int32.le_iff_toInt_le, ← Int32.toInt_inj, (show (0 : Int32).toInt = 0 from rfl), (show (9 : Int32).toInt = 9 from rfl), (show (97 : Int32).toInt = 97 from rfl), (show (122 : Int32).toInt = 122 from rfl)] at h1 h2 h3 h4 h5 h6 h72 h75 h76
                    unfold f_wordB
                    rw [if_neg (by omega)]
                  · refine X_iload_n rfl rfl rfl rfl ?_
                    refine X_iload_n rfl rfl rfl rfl ?_
                    refine X_icmp_gt (tgt := 14) rfl rfl rfl (fun h77 => ?_) (fun h77 => ?_)
                    · refine X_iconst (v := (0 : Int32)) rfl rfl rfl ?_
                      refine LW_ireturn (st := []) rfl rfl rfl ?_
                      refine X_if_eq (tgt := 59) rfl rfl rfl (fun _ => ?_) (fun q => absurd q (by decide))
                      refine X_iconst (v := (0 : Int32)) rfl rfl rfl ?_
                      refine LW_ireturn (st := []) rfl rfl rfl ?_
                      refine X_if_eq (tgt := 33) rfl rfl rfl (fun _ => ?_) (fun q => absurd q (by decide))
                      refine X_iconst (v := (-1 : Int32)) rfl rfl rfl ?_
                      refine LW_ireturn (st := []) rfl rfl rfl (congrArg (fun z => some (Value.int z)) ?_)
                      simp only [Int32.lt_iff_toInt_lt, Int32.le_iff_toInt_le, ← Int32.toInt_inj, (show (0 : Int32).toInt = 0 from rfl), (show (9 : Int32).toInt = 9 from rfl), (show (97 : Int32).toInt = 97 from rfl), (show (122 : Int32).toInt = 122 from rfl)] at h1 h2 h3 h4 h5 h6 h72 h75 h76 h77
                      unfold f_wordB
                      rw [if_neg (by omega)]
                    · refine X_iconst (v := (1 : Int32)) rfl rfl rfl ?_
                      refine LW_goto (tgt := 15) rfl rfl ?_
                      refine LW_ireturn (st := []) rfl rfl rfl ?_
                      refine X_if_eq (tgt := 59) rfl rfl rfl (fun q => absurd q (by decide)) (fun _ => ?_)
                      refine X_aload_n rfl rfl rfl rfl ?_
                      refine X_getI (v := (1 : Int32)) rfl rfl rfl ((congrFun F.1 355).trans s_355) rfl rfl ?_
                      refine X_iload_n rfl rfl rfl rfl ?_
                      refine X_iload_n rfl rfl rfl rfl ?_
                      refine X_iadd (v := (3 : Int32)) rfl rfl rfl ?_
                      refine X_icmp_ge (tgt := 61) rfl rfl rfl (fun q => absurd q (by decide)) (fun _ => ?_)
                      refine X_iconst (v := (0 : Int32)) rfl rfl rfl ?_
                      refine LW_ireturn (st := []) rfl rfl rfl ?_
                      refine X_if_eq (tgt := 33) rfl rfl rfl (fun _ => ?_) (fun q => absurd q (by decide))
                      refine X_iconst (v := (-1 : Int32)) rfl rfl rfl ?_
                      refine LW_ireturn (st := []) rfl rfl rfl (congrArg (fun z => some (Value.int z)) ?_)
                      simp only [Int32.lt_iff_toInt_lt, Int32.le_iff_toInt_le, ← Int32.toInt_inj, (show (0 : Int32).toInt = 0 from rfl), (show (9 : Int32).toInt = 9 from rfl), (show (97 : Int32).toInt = 97 from rfl), (show (122 : Int32).toInt = 122 from rfl)] at h1 h2 h3 h4 h5 h6 h72 h75 h76 h77
                      unfold f_wordB
                      rw [if_neg (by omega)]
                · refine X_aload_n rfl rfl rfl rfl ?_
                  refine X_getI (v := (1 : Int32)) rfl rfl rfl ((congrFun F.1 355).trans s_355) rfl rfl ?_
                  refine X_iload_n rfl rfl rfl rfl ?_
                  refine X_iload_n rfl rfl rfl rfl ?_
                  refine X_iadd (v := (3 : Int32)) rfl rfl rfl ?_
                  refine X_icmp_gt (tgt := 37) rfl rfl rfl (fun q => absurd q (by decide)) (fun _ => ?_)
                  refine LW_goto (tgt := 85) rfl rfl ?_
                  refine X_iinc (v := (4 : Int32)) (ls' := [some (.ref 355), some (.int a), some (.int (0 : Int32)), some (.int (4 : Int32)), some (.int b3)]) rfl rfl rfl rfl rfl ?_
                  refine LW_goto (tgt := 2) rfl rfl ?_
                  refine X_iload_n rfl rfl rfl rfl ?_
                  refine X_iconst (v := (4 : Int32)) rfl rfl rfl ?_
                  refine X_icmp_ge (tgt := 91) rfl rfl rfl (fun _ => ?_) (fun q => absurd q (by decide))
                  refine X_iconst (v := (1 : Int32)) rfl rfl rfl ?_
                  refine LW_ireturn (st := []) rfl rfl rfl ?_
                  refine X_if_eq (tgt := 33) rfl rfl rfl (fun q => absurd q (by decide)) (fun _ => ?_)
                  refine X_aload_n rfl rfl rfl rfl ?_
                  refine X_iload_n rfl rfl rfl rfl ?_
                  refine X_iconst (v := (4 : Int32)) rfl rfl rfl ?_
                  refine X_callV (as := [.int c, .int (4 : Int32)]) (st := []) rfl rfl rfl (by decide) rfl (Nat.le_of_ble_eq_true rfl) (by decide) (Nat.le_of_ble_eq_true rfl) rfl ((congrFun F.1 355).trans s_355) (by decide) ?_
                  refine LW_ls (ls' := [some (.ref 355), some (.int c), some (.int (4 : Int32)), none, none]) rfl ?_
                  refine X_iconst (v := (0 : Int32)) rfl rfl rfl ?_
                  refine X_istore_n (i := 3) (ls' := [some (.ref 355), some (.int c), some (.int (4 : Int32)), some (.int (0 : Int32)), none]) rfl rfl rfl (Nat.le_of_ble_eq_true rfl) rfl ?_
                  refine X_iload_n rfl rfl rfl rfl ?_
                  refine X_iconst (v := (4 : Int32)) rfl rfl rfl ?_
                  refine X_icmp_ge (tgt := 91) rfl rfl rfl (fun q => absurd q (by decide)) (fun _ => ?_)
                  refine X_iload_n rfl rfl rfl rfl ?_
                  refine X_bipush (v := (8 : Int32)) rfl rfl rfl ?_
                  refine X_iload_n rfl rfl rfl rfl ?_
                  refine X_imul (v := (0 : Int32)) rfl rfl rfl ?_
                  refine X_ishr (v := (c >>> ((0 : Int32) &&& 31))) rfl rfl rfl ?_
                  refine X_sipush (v := (255 : Int32)) rfl rfl rfl ?_
                  refine X_iand (v := b4) rfl rfl hb4 ?_
                  refine X_istore (i := 4) (ls' := [some (.ref 355), some (.int c), some (.int (4 : Int32)), some (.int (0 : Int32)), some (.int b4)]) rfl rfl (Nat.le_of_ble_eq_true rfl) rfl ?_
                  refine X_iload rfl rfl rfl ?_
                  refine X_if_ne (tgt := 37) rfl rfl rfl (fun h78 => ?_) (fun h78 => ?_)
                  · refine X_iload rfl rfl rfl ?_
                    refine X_bipush (v := (97 : Int32)) rfl rfl rfl ?_
                    refine X_bipush (v := (122 : Int32)) rfl rfl rfl ?_
                    refine X_callS (as := [.int b4, .int (97 : Int32), .int (122 : Int32)]) (st := []) rfl rfl rfl (by decide) rfl (Nat.le_of_ble_eq_true rfl) (by decide) (Nat.le_of_ble_eq_true rfl) rfl ?_
                    refine LW_ls (ls' := [some (.int b4), some (.int (97 : Int32)), some (.int (122 : Int32))]) rfl ?_
                    refine X_iload_n rfl rfl rfl rfl ?_
                    refine X_iload_n rfl rfl rfl rfl ?_
                    refine X_icmp_lt (tgt := 14) rfl rfl rfl (fun h79 => ?_) (fun h79 => ?_)
                    · refine X_iconst (v := (0 : Int32)) rfl rfl rfl ?_
                      refine LW_ireturn (st := []) rfl rfl rfl ?_
                      refine X_if_eq (tgt := 59) rfl rfl rfl (fun _ => ?_) (fun q => absurd q (by decide))
                      refine X_iconst (v := (0 : Int32)) rfl rfl rfl ?_
                      refine LW_ireturn (st := []) rfl rfl rfl ?_
                      refine X_if_ne (tgt := 35) rfl rfl rfl (fun q => absurd q (by decide)) (fun _ => ?_)
                      refine X_iconst (v := (-1 : Int32)) rfl rfl rfl ?_
                      refine LW_ireturn (st := []) rfl rfl rfl (congrArg (fun z => some (Value.int z)) ?_)
                      simp only [Int32.lt_iff_toInt_lt, Int32.le_iff_toInt_le, ← Int32.toInt_inj, (show (0 : Int32).toInt = 0 from rfl), (show (9 : Int32).toInt = 9 from rfl), (show (97 : Int32).toInt = 97 from rfl), (show (122 : Int32).toInt = 122 from rfl)] at h1 h2 h3 h4 h5 h6 h72 h75 h78 h79
                      unfold f_wordB
                      rw [if_neg (by omega)]
                    · refine X_iload_n rfl rfl rfl rfl ?_
                      refine X_iload_n rfl rfl rfl rfl ?_
                      refine X_icmp_gt (tgt := 14) rfl rfl rfl (fun h80 => ?_) (fun h80 => ?_)
                      · refine X_iconst (v := (0 : Int32)) rfl rfl rfl ?_
                        refine LW_ireturn (st := []) rfl rfl rfl ?_
                        refine X_if_eq (tgt := 59) rfl rfl rfl (fun _ => ?_) (fun q => absurd q (by decide))
                        refine X_iconst (v := (0 : Int32)) rfl rfl rfl ?_
                        refine LW_ireturn (st := []) rfl rfl rfl ?_
                        refine X_if_ne (tgt := 35) rfl rfl rfl (fun q => absurd q (by decide)) (fun _ => ?_)
                        refine X_iconst (v := (-1 : Int32)) rfl rfl rfl ?_
                        refine LW_ireturn (st := []) rfl rfl rfl (congrArg (fun z => some (Value.int z)) ?_)
                        simp only [Int32.lt_iff_toInt_lt, Int32.le_iff_toInt_le, ← Int32.toInt_inj, (show (0 : Int32).toInt = 0 from rfl), (show (9 : Int32).toInt = 9 from rfl), (show (97 : Int32).toInt = 97 from rfl), (show (122 : Int32).toInt = 122 from rfl)] at h1 h2 h3 h4 h5 h6 h72 h75 h78 h79 h80
                        unfold f_wordB
                        rw [if_neg (by omega)]
                      · refine X_iconst (v := (1 : Int32)) rfl rfl rfl ?_
                        refine LW_goto (tgt := 15) rfl rfl ?_
                        refine LW_ireturn (st := []) rfl rfl rfl ?_
                        refine X_if_eq (tgt := 59) rfl rfl rfl (fun q => absurd q (by decide)) (fun _ => ?_)
                        refine X_aload_n rfl rfl rfl rfl ?_
                        refine X_getI (v := (1 : Int32)) rfl rfl rfl ((congrFun F.1 355).trans s_355) rfl rfl ?_
                        refine X_iload_n rfl rfl rfl rfl ?_
                        refine X_iload_n rfl rfl rfl rfl ?_
                        refine X_iadd (v := (4 : Int32)) rfl rfl rfl ?_
                        refine X_icmp_ge (tgt := 61) rfl rfl rfl (fun q => absurd q (by decide)) (fun _ => ?_)
                        refine X_iconst (v := (0 : Int32)) rfl rfl rfl ?_
                        refine LW_ireturn (st := []) rfl rfl rfl ?_
                        refine X_if_ne (tgt := 35) rfl rfl rfl (fun q => absurd q (by decide)) (fun _ => ?_)
                        refine X_iconst (v := (-1 : Int32)) rfl rfl rfl ?_
                        refine LW_ireturn (st := []) rfl rfl rfl (congrArg (fun z => some (Value.int z)) ?_)
                        simp only [Int32.lt_iff_toInt_lt, Int32.le_iff_toInt_le, ← Int32.toInt_inj, (show (0 : Int32).toInt = 0 from rfl), (show (9 : Int32).toInt = 9 from rfl), (show (97 : Int32).toInt = 97 from rfl), (show (122 : Int32).toInt = 122 from rfl)] at h1 h2 h3 h4 h5 h6 h72 h75 h78 h79 h80
                        unfold f_wordB
                        rw [if_neg (by omega)]
                  · refine X_aload_n rfl rfl rfl rfl ?_
                    refine X_getI (v := (1 : Int32)) rfl rfl rfl ((congrFun F.1 355).trans s_355) rfl rfl ?_
                    refine X_iload_n rfl rfl rfl rfl ?_
                    refine X_iload_n rfl rfl rfl rfl ?_
                    refine X_iadd (v := (4 : Int32)) rfl rfl rfl ?_
                    refine X_icmp_gt (tgt := 37) rfl rfl rfl (fun q => absurd q (by decide)) (fun _ => ?_)
                    refine LW_goto (tgt := 85) rfl rfl ?_
                    refine X_iinc (v := (1 : Int32)) (ls' := [some (.ref 355), some (.int c), some (.int (4 : Int32)), some (.int (1 : Int32)), some (.int b4)]) rfl rfl rfl rfl rfl ?_
                    refine LW_goto (tgt := 2) rfl rfl ?_
                    refine X_iload_n rfl rfl rfl rfl ?_
                    refine X_iconst (v := (4 : Int32)) rfl rfl rfl ?_
                    refine X_icmp_ge (tgt := 91) rfl rfl rfl (fun q => absurd q (by decide)) (fun _ => ?_)
                    refine X_iload_n rfl rfl rfl rfl ?_
                    refine X_bipush (v := (8 : Int32)) rfl rfl rfl ?_
                    refine X_iload_n rfl rfl rfl rfl ?_
                    refine X_imul (v := (8 : Int32)) rfl rfl rfl ?_
                    refine X_ishr (v := (c >>> ((8 : Int32) &&& 31))) rfl rfl rfl ?_
                    refine X_sipush (v := (255 : Int32)) rfl rfl rfl ?_
                    refine X_iand (v := b5) rfl rfl hb5 ?_
                    refine X_istore (i := 4) (ls' := [some (.ref 355), some (.int c), some (.int (4 : Int32)), some (.int (1 : Int32)), some (.int b5)]) rfl rfl (Nat.le_of_ble_eq_true rfl) rfl ?_
                    refine X_iload rfl rfl rfl ?_
                    refine X_if_ne (tgt := 37) rfl rfl rfl (fun h81 => ?_) (fun h81 => ?_)
                    · refine X_iload rfl rfl rfl ?_
                      refine X_bipush (v := (97 : Int32)) rfl rfl rfl ?_
                      refine X_bipush (v := (122 : Int32)) rfl rfl rfl ?_
                      refine X_callS (as := [.int b5, .int (97 : Int32), .int (122 : Int32)]) (st := []) rfl rfl rfl (by decide) rfl (Nat.le_of_ble_eq_true rfl) (by decide) (Nat.le_of_ble_eq_true rfl) rfl ?_
                      refine LW_ls (ls' := [some (.int b5), some (.int (97 : Int32)), some (.int (122 : Int32))]) rfl ?_
                      refine X_iload_n rfl rfl rfl rfl ?_
                      refine X_iload_n rfl rfl rfl rfl ?_
                      refine X_icmp_lt (tgt := 14) rfl rfl rfl (fun h82 => ?_) (fun h82 => ?_)
                      · refine X_iconst (v := (0 : Int32)) rfl rfl rfl ?_
                        refine LW_ireturn (st := []) rfl rfl rfl ?_
                        refine X_if_eq (tgt := 59) rfl rfl rfl (fun _ => ?_) (fun q => absurd q (by decide))
                        refine X_iconst (v := (0 : Int32)) rfl rfl rfl ?_
                        refine LW_ireturn (st := []) rfl rfl rfl ?_
                        refine X_if_ne (tgt := 35) rfl rfl rfl (fun q => absurd q (by decide)) (fun _ => ?_)
                        refine X_iconst (v := (-1 : Int32)) rfl rfl rfl ?_
                        refine LW_ireturn (st := []) rfl rfl rfl (congrArg (fun z => some (Value.int z)) ?_)
                        simp only [Int32.lt_iff_toInt_lt, Int32.le_iff_toInt_le, ← Int32.toInt_inj, (show (0 : Int32).toInt = 0 from rfl), (show (9 : Int32).toInt = 9 from rfl), (show (97 : Int32).toInt = 97 from rfl), (show (122 : Int32).toInt = 122 from rfl)] at h1 h2 h3 h4 h5 h6 h72 h75 h78 h81 h82
                        unfold f_wordB
                        rw [if_neg (by omega)]
                      · refine X_iload_n rfl rfl rfl rfl ?_
                        refine X_iload_n rfl rfl rfl rfl ?_
                        refine X_icmp_gt (tgt := 14) rfl rfl rfl (fun h83 => ?_) (fun h83 => ?_)
                        · refine X_iconst (v := (0 : Int32)) rfl rfl rfl ?_
                          refine LW_ireturn (st := []) rfl rfl rfl ?_
                          refine X_if_eq (tgt := 59) rfl rfl rfl (fun _ => ?_) (fun q => absurd q (by decide))
                          refine X_iconst (v := (0 : Int32)) rfl rfl rfl ?_
                          refine LW_ireturn (st := []) rfl rfl rfl ?_
                          refine X_if_ne (tgt := 35) rfl rfl rfl (fun q => absurd q (by decide)) (fun _ => ?_)
                          refine X_iconst (v := (-1 : Int32)) rfl rfl rfl ?_
                          refine LW_ireturn (st := []) rfl rfl rfl (congrArg (fun z => some (Value.int z)) ?_)
                          simp only [Int32.lt_iff_toInt_lt, Int32.le_iff_toInt_le, ← Int32.toInt_inj, (show (0 : Int32).toInt = 0 from rfl), (show (9 : Int32).toInt = 9 from rfl), (show (97 : Int32).toInt = 97 from rfl), (show (122 : Int32).toInt = 122 from rfl)] at h1 h2 h3 h4 h5 h6 h72 h75 h78 h81 h82 h83
                          unfold f_wordB
                          rw [if_neg (by omega)]
                        · refine X_iconst (v := (1 : Int32)) rfl rfl rfl ?_
                          refine LW_goto (tgt := 15) rfl rfl ?_
                          refine LW_ireturn (st := []) rfl rfl rfl ?_
                          refine X_if_eq (tgt := 59) rfl rfl rfl (fun q => absurd q (by decide)) (fun _ => ?_)
                          refine X_aload_n rfl rfl rfl rfl ?_
                          refine X_getI (v := (1 : Int32)) rfl rfl rfl ((congrFun F.1 355).trans s_355) rfl rfl ?_
                          refine X_iload_n rfl rfl rfl rfl ?_
                          refine X_iload_n rfl rfl rfl rfl ?_
                          refine X_iadd (v := (5 : Int32)) rfl rfl rfl ?_
                          refine X_icmp_ge (tgt := 61) rfl rfl rfl (fun q => absurd q (by decide)) (fun _ => ?_)
                          refine X_iconst (v := (0 : Int32)) rfl rfl rfl ?_
                          refine LW_ireturn (st := []) rfl rfl rfl ?_
                          refine X_if_ne (tgt := 35) rfl rfl rfl (fun q => absurd q (by decide)) (fun _ => ?_)
                          refine X_iconst (v := (-1 : Int32)) rfl rfl rfl ?_
                          refine LW_ireturn (st := []) rfl rfl rfl (congrArg (fun z => some (Value.int z)) ?_)
                          simp only [Int32.lt_iff_toInt_lt, Int32.le_iff_toInt_le, ← Int32.toInt_inj, (show (0 : Int32).toInt = 0 from rfl), (show (9 : Int32).toInt = 9 from rfl), (show (97 : Int32).toInt = 97 from rfl), (show (122 : Int32).toInt = 122 from rfl)] at h1 h2 h3 h4 h5 h6 h72 h75 h78 h81 h82 h83
                          unfold f_wordB
                          rw [if_neg (by omega)]
                    · refine X_aload_n rfl rfl rfl rfl ?_
                      refine X_getI (v := (1 : Int32)) rfl rfl rfl ((congrFun F.1 355).trans s_355) rfl rfl ?_
                      refine X_iload_n rfl rfl rfl rfl ?_
                      refine X_iload_n rfl rfl rfl rfl ?_
                      refine X_iadd (v := (5 : Int32)) rfl rfl rfl ?_
                      refine X_icmp_gt (tgt := 37) rfl rfl rfl (fun q => absurd q (by decide)) (fun _ => ?_)
                      refine LW_goto (tgt := 85) rfl rfl ?_
                      refine X_iinc (v := (2 : Int32)) (ls' := [some (.ref 355), some (.int c), some (.int (4 : Int32)), some (.int (2 : Int32)), some (.int b5)]) rfl rfl rfl rfl rfl ?_
                      refine LW_goto (tgt := 2) rfl rfl ?_
                      refine X_iload_n rfl rfl rfl rfl ?_
                      refine X_iconst (v := (4 : Int32)) rfl rfl rfl ?_
                      refine X_icmp_ge (tgt := 91) rfl rfl rfl (fun q => absurd q (by decide)) (fun _ => ?_)
                      refine X_iload_n rfl rfl rfl rfl ?_
                      refine X_bipush (v := (8 : Int32)) rfl rfl rfl ?_
                      refine X_iload_n rfl rfl rfl rfl ?_
                      refine X_imul (v := (16 : Int32)) rfl rfl rfl ?_
                      refine X_ishr (v := (c >>> ((16 : Int32) &&& 31))) rfl rfl rfl ?_
                      refine X_sipush (v := (255 : Int32)) rfl rfl rfl ?_
                      refine X_iand (v := b6) rfl rfl hb6 ?_
                      refine X_istore (i := 4) (ls' := [some (.ref 355), some (.int c), some (.int (4 : Int32)), some (.int (2 : Int32)), some (.int b6)]) rfl rfl (Nat.le_of_ble_eq_true rfl) rfl ?_
                      refine X_iload rfl rfl rfl ?_
                      refine X_if_ne (tgt := 37) rfl rfl rfl (fun h84 => ?_) (fun h84 => ?_)
                      · refine X_iload rfl rfl rfl ?_
                        refine X_bipush (v := (97 : Int32)) rfl rfl rfl ?_
                        refine X_bipush (v := (122 : Int32)) rfl rfl rfl ?_
                        refine X_callS (as := [.int b6, .int (97 : Int32), .int (122 : Int32)]) (st := []) rfl rfl rfl (by decide) rfl (Nat.le_of_ble_eq_true rfl) (by decide) (Nat.le_of_ble_eq_true rfl) rfl ?_
                        refine LW_ls (ls' := [some (.int b6), some (.int (97 : Int32)), some (.int (122 : Int32))]) rfl ?_
                        refine X_iload_n rfl rfl rfl rfl ?_
                        refine X_iload_n rfl rfl rfl rfl ?_
                        refine X_icmp_lt (tgt := 14) rfl rfl rfl (fun h85 => ?_) (fun h85 => ?_)
                        · refine X_iconst (v := (0 : Int32)) rfl rfl rfl ?_
                          refine LW_ireturn (st := []) rfl rfl rfl ?_
                          refine X_if_eq (tgt := 59) rfl rfl rfl (fun _ => ?_) (fun q => absurd q (by decide))
                          refine X_iconst (v := (0 : Int32)) rfl rfl rfl ?_
                          refine LW_ireturn (st := []) rfl rfl rfl ?_
                          refine X_if_ne (tgt := 35) rfl rfl rfl (fun q => absurd q (by decide)) (fun _ => ?_)
                          refine X_iconst (v := (-1 : Int32)) rfl rfl rfl ?_
                          refine LW_ireturn (st := []) rfl rfl rfl (congrArg (fun z => some (Value.int z)) ?_)
                          simp only [Int32.lt_iff_toInt_lt, Int32.le_iff_toInt_le, ← Int32.toInt_inj, (show (0 : Int32).toInt = 0 from rfl), (show (9 : Int32).toInt = 9 from rfl), (show (97 : Int32).toInt = 97 from rfl), (show (122 : Int32).toInt = 122 from rfl)] at h1 h2 h3 h4 h5 h6 h72 h75 h78 h81 h84 h85
                          unfold f_wordB
                          rw [if_neg (by omega)]
                        · refine X_iload_n rfl rfl rfl rfl ?_
                          refine X_iload_n rfl rfl rfl rfl ?_
                          refine X_icmp_gt (tgt := 14) rfl rfl rfl (fun h86 => ?_) (fun h86 => ?_)
                          · refine X_iconst (v := (0 : Int32)) rfl rfl rfl ?_
                            refine LW_ireturn (st := []) rfl rfl rfl ?_
                            refine X_if_eq (tgt := 59) rfl rfl rfl (fun _ => ?_) (fun q => absurd q (by decide))
                            refine X_iconst (v := (0 : Int32)) rfl rfl rfl ?_
                            refine LW_ireturn (st := []) rfl rfl rfl ?_
                            refine X_if_ne (tgt := 35) rfl rfl rfl (fun q => absurd q (by decide)) (fun _ => ?_)
                            refine X_iconst (v := (-1 : Int32)) rfl rfl rfl ?_
                            refine LW_ireturn (st := []) rfl rfl rfl (congrArg (fun z => some (Value.int z)) ?_)
                            simp only [Int32.lt_iff_toInt_lt, Int32.le_iff_toInt_le, ← Int32.toInt_inj, (show (0 : Int32).toInt = 0 from rfl), (show (9 : Int32).toInt = 9 from rfl), (show (97 : Int32).toInt = 97 from rfl), (show (122 : Int32).toInt = 122 from rfl)] at h1 h2 h3 h4 h5 h6 h72 h75 h78 h81 h84 h85 h86
                            unfold f_wordB
                            rw [if_neg (by omega)]
                          · refine X_iconst (v := (1 : Int32)) rfl rfl rfl ?_
                            refine LW_goto (tgt := 15) rfl rfl ?_
                            refine LW_ireturn (st := []) rfl rfl rfl ?_
                            refine X_if_eq (tgt := 59) rfl rfl rfl (fun q => absurd q (by decide)) (fun _ => ?_)
                            refine X_aload_n rfl rfl rfl rfl ?_
                            refine X_getI (v := (1 : Int32)) rfl rfl rfl ((congrFun F.1 355).trans s_355) rfl rfl ?_
                            refine X_iload_n rfl rfl rfl rfl ?_
                            refine X_iload_n rfl rfl rfl rfl ?_
                            refine X_iadd (v := (6 : Int32)) rfl rfl rfl ?_
                            refine X_icmp_ge (tgt := 61) rfl rfl rfl (fun q => absurd q (by decide)) (fun _ => ?_)
                            refine X_iconst (v := (0 : Int32)) rfl rfl rfl ?_
                            refine LW_ireturn (st := []) rfl rfl rfl ?_
                            refine X_if_ne (tgt := 35) rfl rfl rfl (fun q => absurd q (by decide)) (fun _ => ?_)
                            refine X_iconst (v := (-1 : Int32)) rfl rfl rfl ?_
                            refine LW_ireturn (st := []) rfl rfl rfl (congrArg (fun z => some (Value.int z)) ?_)
                            simp only [Int32.lt_iff_toInt_lt, Int32.le_iff_toInt_le, ← Int32.toInt_inj, (show (0 : Int32).toInt = 0 from rfl), (show (9 : Int32).toInt = 9 from rfl), (show (97 : Int32).toInt = 97 from rfl), (show (122 : Int32).toInt = 122 from rfl)] at h1 h2 h3 h4 h5 h6 h72 h75 h78 h81 h84 h85 h86
                            unfold f_wordB
                            rw [if_neg (by omega)]
                      · refine X_aload_n rfl rfl rfl rfl ?_
                        refine X_getI (v := (1 : Int32)) rfl rfl rfl ((congrFun F.1 355).trans s_355) rfl rfl ?_
                        refine X_iload_n rfl rfl rfl rfl ?_
                        refine X_iload_n rfl rfl rfl rfl ?_
                        refine X_iadd (v := (6 : Int32)) rfl rfl rfl ?_
                        refine X_icmp_gt (tgt := 37) rfl rfl rfl (fun q => absurd q (by decide)) (fun _ => ?_)
                        refine LW_goto (tgt := 85) rfl rfl ?_
                        refine X_iinc (v := (3 : Int32)) (ls' := [some (.ref 355), some (.int c), some (.int (4 : Int32)), some (.int (3 : Int32)), some (.int b6)]) rfl rfl rfl rfl rfl ?_
                        refine LW_goto (tgt := 2) rfl rfl ?_
                        refine X_iload_n rfl rfl rfl rfl ?_
                        refine X_iconst (v := (4 : Int32)) rfl rfl rfl ?_
                        refine X_icmp_ge (tgt := 91) rfl rfl rfl (fun q => absurd q (by decide)) (fun _ => ?_)
                        refine X_iload_n rfl rfl rfl rfl ?_
                        refine X_bipush (v := (8 : Int32)) rfl rfl rfl ?_
                        refine X_iload_n rfl rfl rfl rfl ?_
                        refine X_imul (v := (24 : Int32)) rfl rfl rfl ?_
                        refine X_ishr (v := (c >>> ((24 : Int32) &&& 31))) rfl rfl rfl ?_
                        refine X_sipush (v := (255 : Int32)) rfl rfl rfl ?_
                        refine X_iand (v := b7) rfl rfl hb7 ?_
                        refine X_istore (i := 4) (ls' := [some (.ref 355), some (.int c), some (.int (4 : Int32)), some (.int (3 : Int32)), some (.int b7)]) rfl rfl (Nat.le_of_ble_eq_true rfl) rfl ?_
                        refine X_iload rfl rfl rfl ?_
                        refine X_if_ne (tgt := 37) rfl rfl rfl (fun h87 => ?_) (fun h87 => ?_)
                        · refine X_iload rfl rfl rfl ?_
                          refine X_bipush (v := (97 : Int32)) rfl rfl rfl ?_
                          refine X_bipush (v := (122 : Int32)) rfl rfl rfl ?_
                          refine X_callS (as := [.int b7, .int (97 : Int32), .int (122 : Int32)]) (st := []) rfl rfl rfl (by decide) rfl (Nat.le_of_ble_eq_true rfl) (by decide) (Nat.le_of_ble_eq_true rfl) rfl ?_
                          refine LW_ls (ls' := [some (.int b7), some (.int (97 : Int32)), some (.int (122 : Int32))]) rfl ?_
                          refine X_iload_n rfl rfl rfl rfl ?_
                          refine X_iload_n rfl rfl rfl rfl ?_
                          refine X_icmp_lt (tgt := 14) rfl rfl rfl (fun h88 => ?_) (fun h88 => ?_)
                          · refine X_iconst (v := (0 : Int32)) rfl rfl rfl ?_
                            refine LW_ireturn (st := []) rfl rfl rfl ?_
                            refine X_if_eq (tgt := 59) rfl rfl rfl (fun _ => ?_) (fun q => absurd q (by decide))
                            refine X_iconst (v := (0 : Int32)) rfl rfl rfl ?_
                            refine LW_ireturn (st := []) rfl rfl rfl ?_
                            refine X_if_ne (tgt := 35) rfl rfl rfl (fun q => absurd q (by decide)) (fun _ => ?_)
                            refine X_iconst (v := (-1 : Int32)) rfl rfl rfl ?_
                            refine LW_ireturn (st := []) rfl rfl rfl (congrArg (fun z => some (Value.int z)) ?_)
                            simp only [Int32.lt_iff_toInt_lt, Int32.le_iff_toInt_le, ← Int32.toInt_inj, (show (0 : Int32).toInt = 0 from rfl), (show (9 : Int32).toInt = 9 from rfl), (show (97 : Int32).toInt = 97 from rfl), (show (122 : Int32).toInt = 122 from rfl)] at h1 h2 h3 h4 h5 h6 h72 h75 h78 h81 h84 h87 h88
                            unfold f_wordB
                            rw [if_neg (by omega)]
                          · refine X_iload_n rfl rfl rfl rfl ?_
                            refine X_iload_n rfl rfl rfl rfl ?_
                            refine X_icmp_gt (tgt := 14) rfl rfl rfl (fun h89 => ?_) (fun h89 => ?_)
                            · refine X_iconst (v := (0 : Int32)) rfl rfl rfl ?_
                              refine LW_ireturn (st := []) rfl rfl rfl ?_
                              refine X_if_eq (tgt := 59) rfl rfl rfl (fun _ => ?_) (fun q => absurd q (by decide))
                              refine X_iconst (v := (0 : Int32)) rfl rfl rfl ?_
                              refine LW_ireturn (st := []) rfl rfl rfl ?_
                              refine X_if_ne (tgt := 35) rfl rfl rfl (fun q => absurd q (by decide)) (fun _ => ?_)
                              refine X_iconst (v := (-1 : Int32)) rfl rfl rfl ?_
                              refine LW_ireturn (st := []) rfl rfl rfl (congrArg (fun z => some (Value.int z)) ?_)
                              simp only [Int32.lt_iff_toInt_lt, Int32.le_iff_toInt_le, ← Int32.toInt_inj, (show (0 : Int32).toInt = 0 from rfl), (show (9 : Int32).toInt = 9 from rfl), (show (97 : Int32).toInt = 97 from rfl), (show (122 : Int32).toInt = 122 from rfl)] at h1 h2 h3 h4 h5 h6 h72 h75 h78 h81 h84 h87 h88 h89
                              unfold f_wordB
                              rw [if_neg (by omega)]
                            · refine X_iconst (v := (1 : Int32)) rfl rfl rfl ?_
                              refine LW_goto (tgt := 15) rfl rfl ?_
                              refine LW_ireturn (st := []) rfl rfl rfl ?_
                              refine X_if_eq (tgt := 59) rfl rfl rfl (fun q => absurd q (by decide)) (fun _ => ?_)
                              refine X_aload_n rfl rfl rfl rfl ?_
                              refine X_getI (v := (1 : Int32)) rfl rfl rfl ((congrFun F.1 355).trans s_355) rfl rfl ?_
                              refine X_iload_n rfl rfl rfl rfl ?_
                              refine X_iload_n rfl rfl rfl rfl ?_
                              refine X_iadd (v := (7 : Int32)) rfl rfl rfl ?_
                              refine X_icmp_ge (tgt := 61) rfl rfl rfl (fun q => absurd q (by decide)) (fun _ => ?_)
                              refine X_iconst (v := (0 : Int32)) rfl rfl rfl ?_
                              refine LW_ireturn (st := []) rfl rfl rfl ?_
                              refine X_if_ne (tgt := 35) rfl rfl rfl (fun q => absurd q (by decide)) (fun _ => ?_)
                              refine X_iconst (v := (-1 : Int32)) rfl rfl rfl ?_
                              refine LW_ireturn (st := []) rfl rfl rfl (congrArg (fun z => some (Value.int z)) ?_)
                              simp only [Int32.lt_iff_toInt_lt, Int32.le_iff_toInt_le, ← Int32.toInt_inj, (show (0 : Int32).toInt = 0 from rfl), (show (9 : Int32).toInt = 9 from rfl), (show (97 : Int32).toInt = 97 from rfl), (show (122 : Int32).toInt = 122 from rfl)] at h1 h2 h3 h4 h5 h6 h72 h75 h78 h81 h84 h87 h88 h89
                              unfold f_wordB
                              rw [if_neg (by omega)]
                        · refine X_aload_n rfl rfl rfl rfl ?_
                          refine X_getI (v := (1 : Int32)) rfl rfl rfl ((congrFun F.1 355).trans s_355) rfl rfl ?_
                          refine X_iload_n rfl rfl rfl rfl ?_
                          refine X_iload_n rfl rfl rfl rfl ?_
                          refine X_iadd (v := (7 : Int32)) rfl rfl rfl ?_
                          refine X_icmp_gt (tgt := 37) rfl rfl rfl (fun q => absurd q (by decide)) (fun _ => ?_)
                          refine LW_goto (tgt := 85) rfl rfl ?_
                          refine X_iinc (v := (4 : Int32)) (ls' := [some (.ref 355), some (.int c), some (.int (4 : Int32)), some (.int (4 : Int32)), some (.int b7)]) rfl rfl rfl rfl rfl ?_
                          refine LW_goto (tgt := 2) rfl rfl ?_
                          refine X_iload_n rfl rfl rfl rfl ?_
                          refine X_iconst (v := (4 : Int32)) rfl rfl rfl ?_
                          refine X_icmp_ge (tgt := 91) rfl rfl rfl (fun _ => ?_) (fun q => absurd q (by decide))
                          refine X_iconst (v := (1 : Int32)) rfl rfl rfl ?_
                          refine LW_ireturn (st := []) rfl rfl rfl ?_
                          refine X_if_ne (tgt := 35) rfl rfl rfl (fun _ => ?_) (fun q => absurd q (by decide))
                          refine X_aload_n rfl rfl rfl rfl ?_
                          refine X_iload_n rfl rfl rfl rfl ?_
                          refine X_callV (as := [.int s]) (st := []) rfl rfl rfl (by decide) rfl (Nat.le_of_ble_eq_true rfl) (by decide) (Nat.le_of_ble_eq_true rfl) rfl ((congrFun F.1 355).trans s_355) (by decide) ?_
                          refine LW_ls (ls' := [some (.ref 355), some (.int s), none, none]) rfl ?_
                          refine X_aload_n rfl rfl rfl rfl ?_
                          refine X_getI (v := (1 : Int32)) rfl rfl rfl ((congrFun F.1 355).trans s_355) rfl rfl ?_
                          refine X_if_eq (tgt := 25) rfl rfl rfl (fun q => absurd q (by decide)) (fun _ => ?_)
                          refine X_aload_n rfl rfl rfl rfl ?_
                          refine X_callV (as := []) (st := []) rfl rfl rfl (by decide) rfl (Nat.le_of_ble_eq_true rfl) (by decide) (Nat.le_of_ble_eq_true rfl) rfl ((congrFun F.1 355).trans s_355) (by decide) ?_
                          refine LW_ls (ls' := [some (.ref 355), none, none, none]) rfl ?_
                          refine X_iconst (v := (0 : Int32)) rfl rfl rfl ?_
                          refine X_istore_n (i := 1) (ls' := [some (.ref 355), some (.int (0 : Int32)), none, none]) rfl rfl rfl (Nat.le_of_ble_eq_true rfl) rfl ?_
                          refine X_iload_n rfl rfl rfl rfl ?_
                          refine X_aload_n rfl rfl rfl rfl ?_
                          refine X_getR (a := 356) rfl rfl rfl ((congrFun F.1 355).trans s_355) rfl ((congrFun (F.2.1 355 (by decide)) 0).trans r_355_0) ?_
                          refine X_iconst (v := (0 : Int32)) rfl rfl rfl ?_
                          refine X_iald (v := (0 : Int32)) rfl rfl ((congrFun F.1 356).trans s_356) (vp_in_d rfl) ((congrFun (F.2.2 356 (by decide)).1 0).trans i_356_0) ?_
                          refine X_icmp_ge (tgt := 83) rfl rfl rfl (fun _ => ?_) (fun q => absurd q (by decide))
                          refine X_iconst (v := (0 : Int32)) rfl rfl rfl ?_
                          refine LW_ireturn (st := []) rfl rfl rfl ?_
                          refine X_if_ne (tgt := 25) rfl rfl rfl (fun q => absurd q (by decide)) (fun _ => ?_)
                          refine X_aload_n rfl rfl rfl rfl ?_
                          refine X_getR (a := 356) rfl rfl rfl ((congrFun F.1 355).trans s_355) rfl ((congrFun (F.2.1 355 (by decide)) 0).trans r_355_0) ?_
                          refine X_iconst (v := (0 : Int32)) rfl rfl rfl ?_
                          refine X_iald (v := (0 : Int32)) rfl rfl ((congrFun F.1 356).trans s_356) (vp_in_d rfl) ((congrFun (F.2.2 356 (by decide)).1 0).trans i_356_0) ?_
                          refine X_bipush (v := (24 : Int32)) rfl rfl rfl ?_
                          refine X_icmp_ne (tgt := 27) rfl rfl rfl (fun _ => ?_) (fun q => absurd q (by decide))
                          refine X_bipush (v := (116 : Int32)) rfl rfl rfl ?_
                          refine X_bipush (v := (10 : Int32)) rfl rfl rfl ?_
                          refine X_aload_n rfl rfl rfl rfl ?_
                          refine X_getR (a := 356) rfl rfl rfl ((congrFun F.1 355).trans s_355) rfl ((congrFun (F.2.1 355 (by decide)) 0).trans r_355_0) ?_
                          refine X_iconst (v := (0 : Int32)) rfl rfl rfl ?_
                          refine X_iald (v := (0 : Int32)) rfl rfl ((congrFun F.1 356).trans s_356) (vp_in_d rfl) ((congrFun (F.2.2 356 (by decide)).1 0).trans i_356_0) ?_
                          refine X_imul (v := (0 : Int32)) rfl rfl rfl ?_
                          refine X_iadd (v := (116 : Int32)) rfl rfl rfl ?_
                          refine X_istore_n (i := 2) (ls' := [some (.ref 355), some (.int s), some (.int (116 : Int32)), none]) rfl rfl rfl (Nat.le_of_ble_eq_true rfl) rfl ?_
                          refine X_iconst (v := (0 : Int32)) rfl rfl rfl ?_
                          refine X_istore_n (i := 3) (ls' := [some (.ref 355), some (.int s), some (.int (116 : Int32)), some (.int (0 : Int32))]) rfl rfl rfl (Nat.le_of_ble_eq_true rfl) rfl ?_
                          refine X_iload_n rfl rfl rfl rfl ?_
                          refine X_bipush (v := (8 : Int32)) rfl rfl rfl ?_
                          refine X_icmp_ge (tgt := 80) rfl rfl rfl (fun q => absurd q (by decide)) (fun _ => ?_)
                          refine X_aload_n rfl rfl rfl rfl ?_
                          refine X_getR (a := 356) rfl rfl rfl ((congrFun F.1 355).trans s_355) rfl ((congrFun (F.2.1 355 (by decide)) 0).trans r_355_0) ?_
                          refine X_iload_n rfl rfl rfl rfl ?_
                          refine X_iload_n rfl rfl rfl rfl ?_
                          refine X_iadd (v := (116 : Int32)) rfl rfl rfl ?_
                          refine X_iload_n rfl rfl rfl rfl ?_
                          refine X_aload_n rfl rfl rfl rfl ?_
                          refine X_getI (v := (1 : Int32)) rfl rfl rfl ((congrFun F.1 355).trans s_355) rfl rfl ?_
                          refine X_icmp_ge (tgt := 72) rfl rfl rfl (fun q => absurd q (by decide)) (fun _ => ?_)
                          refine X_aload_n rfl rfl rfl rfl ?_
                          refine X_getR (a := 359) rfl rfl rfl ((congrFun F.1 355).trans s_355) rfl ((congrFun (F.2.1 355 (by decide)) 3).trans r_355_3) ?_
                          refine X_iload_n rfl rfl rfl rfl ?_
                          refine X_iald (v := (b0 - (97 : Int32))) rfl rfl ((congrFun F.1 359).trans s_359) (vp_in_d rfl) rfl ?_
                          refine LW_goto (tgt := 73) rfl rfl ?_
                          refine X_iast (k0 := 116) rfl rfl ((congrFun F.1 356).trans s_356) (vp_in_d rfl) rfl ?_
                          refine X_iinc (v := (1 : Int32)) (ls' := [some (.ref 355), some (.int s), some (.int (116 : Int32)), some (.int (1 : Int32))]) rfl rfl rfl rfl rfl ?_
                          refine LW_goto (tgt := 42) rfl rfl ?_
                          refine X_iload_n rfl rfl rfl rfl ?_
                          refine X_bipush (v := (8 : Int32)) rfl rfl rfl ?_
                          refine X_icmp_ge (tgt := 80) rfl rfl rfl (fun q => absurd q (by decide)) (fun _ => ?_)
                          refine X_aload_n rfl rfl rfl rfl ?_
                          refine X_getR (a := 356) rfl rfl rfl ((congrFun F.1 355).trans s_355) rfl ((congrFun (F.2.1 355 (by decide)) 0).trans r_355_0) ?_
                          refine X_iload_n rfl rfl rfl rfl ?_
                          refine X_iload_n rfl rfl rfl rfl ?_
                          refine X_iadd (v := (117 : Int32)) rfl rfl rfl ?_
                          refine X_iload_n rfl rfl rfl rfl ?_
                          refine X_aload_n rfl rfl rfl rfl ?_
                          refine X_getI (v := (1 : Int32)) rfl rfl rfl ((congrFun F.1 355).trans s_355) rfl rfl ?_
                          refine X_icmp_ge (tgt := 72) rfl rfl rfl (fun _ => ?_) (fun q => absurd q (by decide))
                          refine X_iconst (v := (0 : Int32)) rfl rfl rfl ?_
                          refine X_iast (k0 := 117) rfl rfl ((congrFun F.1 356).trans s_356) (vp_in_d rfl) rfl ?_
                          refine X_iinc (v := (2 : Int32)) (ls' := [some (.ref 355), some (.int s), some (.int (116 : Int32)), some (.int (2 : Int32))]) rfl rfl rfl rfl rfl ?_
                          refine LW_goto (tgt := 42) rfl rfl ?_
                          refine X_iload_n rfl rfl rfl rfl ?_
                          refine X_bipush (v := (8 : Int32)) rfl rfl rfl ?_
                          refine X_icmp_ge (tgt := 80) rfl rfl rfl (fun q => absurd q (by decide)) (fun _ => ?_)
                          refine X_aload_n rfl rfl rfl rfl ?_
                          refine X_getR (a := 356) rfl rfl rfl ((congrFun F.1 355).trans s_355) rfl ((congrFun (F.2.1 355 (by decide)) 0).trans r_355_0) ?_
                          refine X_iload_n rfl rfl rfl rfl ?_
                          refine X_iload_n rfl rfl rfl rfl ?_
                          refine X_iadd (v := (118 : Int32)) rfl rfl rfl ?_
                          refine X_iload_n rfl rfl rfl rfl ?_
                          refine X_aload_n rfl rfl rfl rfl ?_
                          refine X_getI (v := (1 : Int32)) rfl rfl rfl ((congrFun F.1 355).trans s_355) rfl rfl ?_
                          refine X_icmp_ge (tgt := 72) rfl rfl rfl (fun _ => ?_) (fun q => absurd q (by decide))
                          refine X_iconst (v := (0 : Int32)) rfl rfl rfl ?_
                          refine X_iast (k0 := 118) rfl rfl ((congrFun F.1 356).trans s_356) (vp_in_d rfl) rfl ?_
                          refine X_iinc (v := (3 : Int32)) (ls' := [some (.ref 355), some (.int s), some (.int (116 : Int32)), some (.int (3 : Int32))]) rfl rfl rfl rfl rfl ?_
                          refine LW_goto (tgt := 42) rfl rfl ?_
                          refine X_iload_n rfl rfl rfl rfl ?_
                          refine X_bipush (v := (8 : Int32)) rfl rfl rfl ?_
                          refine X_icmp_ge (tgt := 80) rfl rfl rfl (fun q => absurd q (by decide)) (fun _ => ?_)
                          refine X_aload_n rfl rfl rfl rfl ?_
                          refine X_getR (a := 356) rfl rfl rfl ((congrFun F.1 355).trans s_355) rfl ((congrFun (F.2.1 355 (by decide)) 0).trans r_355_0) ?_
                          refine X_iload_n rfl rfl rfl rfl ?_
                          refine X_iload_n rfl rfl rfl rfl ?_
                          refine X_iadd (v := (119 : Int32)) rfl rfl rfl ?_
                          refine X_iload_n rfl rfl rfl rfl ?_
                          refine X_aload_n rfl rfl rfl rfl ?_
                          refine X_getI (v := (1 : Int32)) rfl rfl rfl ((congrFun F.1 355).trans s_355) rfl rfl ?_
                          refine X_icmp_ge (tgt := 72) rfl rfl rfl (fun _ => ?_) (fun q => absurd q (by decide))
                          refine X_iconst (v := (0 : Int32)) rfl rfl rfl ?_
                          refine X_iast (k0 := 119) rfl rfl ((congrFun F.1 356).trans s_356) (vp_in_d rfl) rfl ?_
                          refine X_iinc (v := (4 : Int32)) (ls' := [some (.ref 355), some (.int s), some (.int (116 : Int32)), some (.int (4 : Int32))]) rfl rfl rfl rfl rfl ?_
                          refine LW_goto (tgt := 42) rfl rfl ?_
                          refine X_iload_n rfl rfl rfl rfl ?_
                          refine X_bipush (v := (8 : Int32)) rfl rfl rfl ?_
                          refine X_icmp_ge (tgt := 80) rfl rfl rfl (fun q => absurd q (by decide)) (fun _ => ?_)
                          refine X_aload_n rfl rfl rfl rfl ?_
                          refine X_getR (a := 356) rfl rfl rfl ((congrFun F.1 355).trans s_355) rfl ((congrFun (F.2.1 355 (by decide)) 0).trans r_355_0) ?_
                          refine X_iload_n rfl rfl rfl rfl ?_
                          refine X_iload_n rfl rfl rfl rfl ?_
                          refine X_iadd (v := (120 : Int32)) rfl rfl rfl ?_
                          refine X_iload_n rfl rfl rfl rfl ?_
                          refine X_aload_n rfl rfl rfl rfl ?_
                          refine X_getI (v := (1 : Int32)) rfl rfl rfl ((congrFun F.1 355).trans s_355) rfl rfl ?_
                          refine X_icmp_ge (tgt := 72) rfl rfl rfl (fun _ => ?_) (fun q => absurd q (by decide))
                          refine X_iconst (v := (0 : Int32)) rfl rfl rfl ?_
                          refine X_iast (k0 := 120) rfl rfl ((congrFun F.1 356).trans s_356) (vp_in_d rfl) rfl ?_
                          refine X_iinc (v := (5 : Int32)) (ls' := [some (.ref 355), some (.int s), some (.int (116 : Int32)), some (.int (5 : Int32))]) rfl rfl rfl rfl rfl ?_
                          refine LW_goto (tgt := 42) rfl rfl ?_
                          refine X_iload_n rfl rfl rfl rfl ?_
                          refine X_bipush (v := (8 : Int32)) rfl rfl rfl ?_
                          refine X_icmp_ge (tgt := 80) rfl rfl rfl (fun q => absurd q (by decide)) (fun _ => ?_)
                          refine X_aload_n rfl rfl rfl rfl ?_
                          refine X_getR (a := 356) rfl rfl rfl ((congrFun F.1 355).trans s_355) rfl ((congrFun (F.2.1 355 (by decide)) 0).trans r_355_0) ?_
                          refine X_iload_n rfl rfl rfl rfl ?_
                          refine X_iload_n rfl rfl rfl rfl ?_
                          refine X_iadd (v := (121 : Int32)) rfl rfl rfl ?_
                          refine X_iload_n rfl rfl rfl rfl ?_
                          refine X_aload_n rfl rfl rfl rfl ?_
                          refine X_getI (v := (1 : Int32)) rfl rfl rfl ((congrFun F.1 355).trans s_355) rfl rfl ?_
                          refine X_icmp_ge (tgt := 72) rfl rfl rfl (fun _ => ?_) (fun q => absurd q (by decide))
                          refine X_iconst (v := (0 : Int32)) rfl rfl rfl ?_
                          refine X_iast (k0 := 121) rfl rfl ((congrFun F.1 356).trans s_356) (vp_in_d rfl) rfl ?_
                          refine X_iinc (v := (6 : Int32)) (ls' := [some (.ref 355), some (.int s), some (.int (116 : Int32)), some (.int (6 : Int32))]) rfl rfl rfl rfl rfl ?_
                          refine LW_goto (tgt := 42) rfl rfl ?_
                          refine X_iload_n rfl rfl rfl rfl ?_
                          refine X_bipush (v := (8 : Int32)) rfl rfl rfl ?_
                          refine X_icmp_ge (tgt := 80) rfl rfl rfl (fun q => absurd q (by decide)) (fun _ => ?_)
                          refine X_aload_n rfl rfl rfl rfl ?_
                          refine X_getR (a := 356) rfl rfl rfl ((congrFun F.1 355).trans s_355) rfl ((congrFun (F.2.1 355 (by decide)) 0).trans r_355_0) ?_
                          refine X_iload_n rfl rfl rfl rfl ?_
                          refine X_iload_n rfl rfl rfl rfl ?_
                          refine X_iadd (v := (122 : Int32)) rfl rfl rfl ?_
                          refine X_iload_n rfl rfl rfl rfl ?_
                          refine X_aload_n rfl rfl rfl rfl ?_
                          refine X_getI (v := (1 : Int32)) rfl rfl rfl ((congrFun F.1 355).trans s_355) rfl rfl ?_
                          refine X_icmp_ge (tgt := 72) rfl rfl rfl (fun _ => ?_) (fun q => absurd q (by decide))
                          refine X_iconst (v := (0 : Int32)) rfl rfl rfl ?_
                          refine X_iast (k0 := 122) rfl rfl ((congrFun F.1 356).trans s_356) (vp_in_d rfl) rfl ?_
                          refine X_iinc (v := (7 : Int32)) (ls' := [some (.ref 355), some (.int s), some (.int (116 : Int32)), some (.int (7 : Int32))]) rfl rfl rfl rfl rfl ?_
                          refine LW_goto (tgt := 42) rfl rfl ?_
                          refine X_iload_n rfl rfl rfl rfl ?_
                          refine X_bipush (v := (8 : Int32)) rfl rfl rfl ?_
                          refine X_icmp_ge (tgt := 80) rfl rfl rfl (fun q => absurd q (by decide)) (fun _ => ?_)
                          refine X_aload_n rfl rfl rfl rfl ?_
                          refine X_getR (a := 356) rfl rfl rfl ((congrFun F.1 355).trans s_355) rfl ((congrFun (F.2.1 355 (by decide)) 0).trans r_355_0) ?_
                          refine X_iload_n rfl rfl rfl rfl ?_
                          refine X_iload_n rfl rfl rfl rfl ?_
                          refine X_iadd (v := (123 : Int32)) rfl rfl rfl ?_
                          refine X_iload_n rfl rfl rfl rfl ?_
                          refine X_aload_n rfl rfl rfl rfl ?_
                          refine X_getI (v := (1 : Int32)) rfl rfl rfl ((congrFun F.1 355).trans s_355) rfl rfl ?_
                          refine X_icmp_ge (tgt := 72) rfl rfl rfl (fun _ => ?_) (fun q => absurd q (by decide))
                          refine X_iconst (v := (0 : Int32)) rfl rfl rfl ?_
                          refine X_iast (k0 := 123) rfl rfl ((congrFun F.1 356).trans s_356) (vp_in_d rfl) rfl ?_
                          refine X_iinc (v := (8 : Int32)) (ls' := [some (.ref 355), some (.int s), some (.int (116 : Int32)), some (.int (8 : Int32))]) rfl rfl rfl rfl rfl ?_
                          refine LW_goto (tgt := 42) rfl rfl ?_
                          refine X_iload_n rfl rfl rfl rfl ?_
                          refine X_bipush (v := (8 : Int32)) rfl rfl rfl ?_
                          refine X_icmp_ge (tgt := 80) rfl rfl rfl (fun _ => ?_) (fun q => absurd q (by decide))
                          refine X_aload_n rfl rfl rfl rfl ?_
                          refine X_getR (a := 356) rfl rfl rfl ((congrFun F.1 355).trans s_355) rfl ((congrFun (F.2.1 355 (by decide)) 0).trans r_355_0) ?_
                          refine X_iload_n rfl rfl rfl rfl ?_
                          refine X_bipush (v := (8 : Int32)) rfl rfl rfl ?_
                          refine X_iadd (v := (124 : Int32)) rfl rfl rfl ?_
                          refine X_aload_n rfl rfl rfl rfl ?_
                          refine X_getI (v := (1 : Int32)) rfl rfl rfl ((congrFun F.1 355).trans s_355) rfl rfl ?_
                          refine X_iast (k0 := 124) rfl rfl ((congrFun F.1 356).trans s_356) (vp_in_d rfl) rfl ?_
                          refine X_aload_n rfl rfl rfl rfl ?_
                          refine X_getR (a := 356) rfl rfl rfl ((congrFun F.1 355).trans s_355) rfl ((congrFun (F.2.1 355 (by decide)) 0).trans r_355_0) ?_
                          refine X_iload_n rfl rfl rfl rfl ?_
                          refine X_bipush (v := (9 : Int32)) rfl rfl rfl ?_
                          refine X_iadd (v := (125 : Int32)) rfl rfl rfl ?_
                          refine X_iload_n rfl rfl rfl rfl ?_
                          refine X_iast (k0 := 125) rfl rfl ((congrFun F.1 356).trans s_356) (vp_in_d rfl) rfl ?_
                          refine X_aload_n rfl rfl rfl rfl ?_
                          refine X_getR (a := 356) rfl rfl rfl ((congrFun F.1 355).trans s_355) rfl ((congrFun (F.2.1 355 (by decide)) 0).trans r_355_0) ?_
                          refine X_iconst (v := (0 : Int32)) rfl rfl rfl ?_
                          refine X_dup2 rfl rfl rfl rfl ?_
                          refine X_iald (v := (0 : Int32)) rfl rfl ((congrFun F.1 356).trans s_356) (vp_in_d rfl) ((congrFun (F.2.2 356 (by decide)).1 0).trans i_356_0) ?_
                          refine X_iconst (v := (1 : Int32)) rfl rfl rfl ?_
                          refine X_iadd (v := (1 : Int32)) rfl rfl rfl ?_
                          refine X_iast (k0 := 0) rfl rfl ((congrFun F.1 356).trans s_356) (vp_in_d rfl) rfl ?_
                          refine X_aload_n rfl rfl rfl rfl ?_
                          refine X_getR (a := 356) rfl rfl rfl ((congrFun F.1 355).trans s_355) rfl ((congrFun (F.2.1 355 (by decide)) 0).trans r_355_0) ?_
                          refine X_iconst (v := (0 : Int32)) rfl rfl rfl ?_
                          refine X_iald (v := (1 : Int32)) rfl rfl ((congrFun F.1 356).trans s_356) (vp_in_d rfl) rfl ?_
                          refine X_iconst (v := (1 : Int32)) rfl rfl rfl ?_
                          refine X_isub (v := (0 : Int32)) rfl rfl rfl ?_
                          refine LW_ireturn (st := []) rfl rfl rfl ?_
                          refine LW_ireturn (st := []) rfl rfl rfl (congrArg (fun z => some (Value.int z)) ?_)
                          simp only [Int32.lt_iff_toInt_lt, Int32.le_iff_toInt_le, ← Int32.toInt_inj, (show (0 : Int32).toInt = 0 from rfl), (show (9 : Int32).toInt = 9 from rfl), (show (97 : Int32).toInt = 97 from rfl), (show (122 : Int32).toInt = 122 from rfl)] at h1 h2 h3 h4 h5 h6 h72 h75 h78 h81 h84 h87
                          unfold f_wordB
                          rw [if_pos (by omega)]
      · refine X_aload_n rfl rfl rfl rfl ?_
        refine X_getI (v := (0 : Int32)) rfl rfl rfl ((congrFun F.1 355).trans s_355) rfl rfl ?_
        refine X_iload_n rfl rfl rfl rfl ?_
        refine X_iload_n rfl rfl rfl rfl ?_
        refine X_iadd (v := (0 : Int32)) rfl rfl rfl ?_
        refine X_icmp_gt (tgt := 37) rfl rfl rfl (fun q => absurd q (by decide)) (fun _ => ?_)
        refine LW_goto (tgt := 85) rfl rfl ?_
        refine X_iinc (v := (1 : Int32)) (ls' := [some (.ref 355), some (.int a), some (.int (0 : Int32)), some (.int (1 : Int32)), some (.int b0)]) rfl rfl rfl rfl rfl ?_
        refine LW_goto (tgt := 2) rfl rfl ?_
        refine X_iload_n rfl rfl rfl rfl ?_
        refine X_iconst (v := (4 : Int32)) rfl rfl rfl ?_
        refine X_icmp_ge (tgt := 91) rfl rfl rfl (fun q => absurd q (by decide)) (fun _ => ?_)
        refine X_iload_n rfl rfl rfl rfl ?_
        refine X_bipush (v := (8 : Int32)) rfl rfl rfl ?_
        refine X_iload_n rfl rfl rfl rfl ?_
        refine X_imul (v := (8 : Int32)) rfl rfl rfl ?_
        refine X_ishr (v := (a >>> ((8 : Int32) &&& 31))) rfl rfl rfl ?_
        refine X_sipush (v := (255 : Int32)) rfl rfl rfl ?_
        refine X_iand (v := b1) rfl rfl hb1 ?_
        refine X_istore (i := 4) (ls' := [some (.ref 355), some (.int a), some (.int (0 : Int32)), some (.int (1 : Int32)), some (.int b1)]) rfl rfl (Nat.le_of_ble_eq_true rfl) rfl ?_
        refine X_iload rfl rfl rfl ?_
        refine X_if_ne (tgt := 37) rfl rfl rfl (fun h90 => ?_) (fun h90 => ?_)
        · refine X_iload rfl rfl rfl ?_
          refine X_bipush (v := (97 : Int32)) rfl rfl rfl ?_
          refine X_bipush (v := (122 : Int32)) rfl rfl rfl ?_
          refine X_callS (as := [.int b1, .int (97 : Int32), .int (122 : Int32)]) (st := []) rfl rfl rfl (by decide) rfl (Nat.le_of_ble_eq_true rfl) (by decide) (Nat.le_of_ble_eq_true rfl) rfl ?_
          refine LW_ls (ls' := [some (.int b1), some (.int (97 : Int32)), some (.int (122 : Int32))]) rfl ?_
          refine X_iload_n rfl rfl rfl rfl ?_
          refine X_iload_n rfl rfl rfl rfl ?_
          refine X_icmp_lt (tgt := 14) rfl rfl rfl (fun h91 => ?_) (fun h91 => ?_)
          · refine X_iconst (v := (0 : Int32)) rfl rfl rfl ?_
            refine LW_ireturn (st := []) rfl rfl rfl ?_
            refine X_if_eq (tgt := 59) rfl rfl rfl (fun _ => ?_) (fun q => absurd q (by decide))
            refine X_iconst (v := (0 : Int32)) rfl rfl rfl ?_
            refine LW_ireturn (st := []) rfl rfl rfl ?_
            refine X_if_eq (tgt := 33) rfl rfl rfl (fun _ => ?_) (fun q => absurd q (by decide))
            refine X_iconst (v := (-1 : Int32)) rfl rfl rfl ?_
            refine LW_ireturn (st := []) rfl rfl rfl (congrArg (fun z => some (Value.int z)) ?_)
            simp only [Int32.lt_iff_toInt_lt, Int32.le_iff_toInt_le, ← Int32.toInt_inj, (show (0 : Int32).toInt = 0 from rfl), (show (9 : Int32).toInt = 9 from rfl), (show (97 : Int32).toInt = 97 from rfl)] at h1 h2 h3 h90 h91
            unfold f_wordB
            rw [if_neg (by omega)]
          · refine X_iload_n rfl rfl rfl rfl ?_
            refine X_iload_n rfl rfl rfl rfl ?_
            refine X_icmp_gt (tgt := 14) rfl rfl rfl (fun h92 => ?_) (fun h92 => ?_)
            · refine X_iconst (v := (0 : Int32)) rfl rfl rfl ?_
              refine LW_ireturn (st := []) rfl rfl rfl ?_
              refine X_if_eq (tgt := 59) rfl rfl rfl (fun _ => ?_) (fun q => absurd q (by decide))
              refine X_iconst (v := (0 : Int32)) rfl rfl rfl ?_
              refine LW_ireturn (st := []) rfl rfl rfl ?_
              refine X_if_eq (tgt := 33) rfl rfl rfl (fun _ => ?_) (fun q => absurd q (by decide))
              refine X_iconst (v := (-1 : Int32)) rfl rfl rfl ?_
              refine LW_ireturn (st := []) rfl rfl rfl (congrArg (fun z => some (Value.int z)) ?_)
              simp only [Int32.lt_iff_toInt_lt, Int32.le_iff_toInt_le, ← Int32.toInt_inj, (show (0 : Int32).toInt = 0 from rfl), (show (9 : Int32).toInt = 9 from rfl), (show (97 : Int32).toInt = 97 from rfl), (show (122 : Int32).toInt = 122 from rfl)] at h1 h2 h3 h90 h91 h92
              unfold f_wordB
              rw [if_neg (by omega)]
            · refine X_iconst (v := (1 : Int32)) rfl rfl rfl ?_
              refine LW_goto (tgt := 15) rfl rfl ?_
              refine LW_ireturn (st := []) rfl rfl rfl ?_
              refine X_if_eq (tgt := 59) rfl rfl rfl (fun q => absurd q (by decide)) (fun _ => ?_)
              refine X_aload_n rfl rfl rfl rfl ?_
              refine X_getI (v := (0 : Int32)) rfl rfl rfl ((congrFun F.1 355).trans s_355) rfl rfl ?_
              refine X_iload_n rfl rfl rfl rfl ?_
              refine X_iload_n rfl rfl rfl rfl ?_
              refine X_iadd (v := (1 : Int32)) rfl rfl rfl ?_
              refine X_icmp_ge (tgt := 61) rfl rfl rfl (fun q => absurd q (by decide)) (fun _ => ?_)
              refine X_iconst (v := (0 : Int32)) rfl rfl rfl ?_
              refine LW_ireturn (st := []) rfl rfl rfl ?_
              refine X_if_eq (tgt := 33) rfl rfl rfl (fun _ => ?_) (fun q => absurd q (by decide))
              refine X_iconst (v := (-1 : Int32)) rfl rfl rfl ?_
              refine LW_ireturn (st := []) rfl rfl rfl (congrArg (fun z => some (Value.int z)) ?_)
              simp only [Int32.lt_iff_toInt_lt, Int32.le_iff_toInt_le, ← Int32.toInt_inj, (show (0 : Int32).toInt = 0 from rfl), (show (9 : Int32).toInt = 9 from rfl), (show (97 : Int32).toInt = 97 from rfl), (show (122 : Int32).toInt = 122 from rfl)] at h1 h2 h3 h90 h91 h92
              unfold f_wordB
              rw [if_neg (by omega)]
        · refine X_aload_n rfl rfl rfl rfl ?_
          refine X_getI (v := (0 : Int32)) rfl rfl rfl ((congrFun F.1 355).trans s_355) rfl rfl ?_
          refine X_iload_n rfl rfl rfl rfl ?_
          refine X_iload_n rfl rfl rfl rfl ?_
          refine X_iadd (v := (1 : Int32)) rfl rfl rfl ?_
          refine X_icmp_gt (tgt := 37) rfl rfl rfl (fun q => absurd q (by decide)) (fun _ => ?_)
          refine LW_goto (tgt := 85) rfl rfl ?_
          refine X_iinc (v := (2 : Int32)) (ls' := [some (.ref 355), some (.int a), some (.int (0 : Int32)), some (.int (2 : Int32)), some (.int b1)]) rfl rfl rfl rfl rfl ?_
          refine LW_goto (tgt := 2) rfl rfl ?_
          refine X_iload_n rfl rfl rfl rfl ?_
          refine X_iconst (v := (4 : Int32)) rfl rfl rfl ?_
          refine X_icmp_ge (tgt := 91) rfl rfl rfl (fun q => absurd q (by decide)) (fun _ => ?_)
          refine X_iload_n rfl rfl rfl rfl ?_
          refine X_bipush (v := (8 : Int32)) rfl rfl rfl ?_
          refine X_iload_n rfl rfl rfl rfl ?_
          refine X_imul (v := (16 : Int32)) rfl rfl rfl ?_
          refine X_ishr (v := (a >>> ((16 : Int32) &&& 31))) rfl rfl rfl ?_
          refine X_sipush (v := (255 : Int32)) rfl rfl rfl ?_
          refine X_iand (v := b2) rfl rfl hb2 ?_
          refine X_istore (i := 4) (ls' := [some (.ref 355), some (.int a), some (.int (0 : Int32)), some (.int (2 : Int32)), some (.int b2)]) rfl rfl (Nat.le_of_ble_eq_true rfl) rfl ?_
          refine X_iload rfl rfl rfl ?_
          refine X_if_ne (tgt := 37) rfl rfl rfl (fun h93 => ?_) (fun h93 => ?_)
          · refine X_iload rfl rfl rfl ?_
            refine X_bipush (v := (97 : Int32)) rfl rfl rfl ?_
            refine X_bipush (v := (122 : Int32)) rfl rfl rfl ?_
            refine X_callS (as := [.int b2, .int (97 : Int32), .int (122 : Int32)]) (st := []) rfl rfl rfl (by decide) rfl (Nat.le_of_ble_eq_true rfl) (by decide) (Nat.le_of_ble_eq_true rfl) rfl ?_
            refine LW_ls (ls' := [some (.int b2), some (.int (97 : Int32)), some (.int (122 : Int32))]) rfl ?_
            refine X_iload_n rfl rfl rfl rfl ?_
            refine X_iload_n rfl rfl rfl rfl ?_
            refine X_icmp_lt (tgt := 14) rfl rfl rfl (fun h94 => ?_) (fun h94 => ?_)
            · refine X_iconst (v := (0 : Int32)) rfl rfl rfl ?_
              refine LW_ireturn (st := []) rfl rfl rfl ?_
              refine X_if_eq (tgt := 59) rfl rfl rfl (fun _ => ?_) (fun q => absurd q (by decide))
              refine X_iconst (v := (0 : Int32)) rfl rfl rfl ?_
              refine LW_ireturn (st := []) rfl rfl rfl ?_
              refine X_if_eq (tgt := 33) rfl rfl rfl (fun _ => ?_) (fun q => absurd q (by decide))
              refine X_iconst (v := (-1 : Int32)) rfl rfl rfl ?_
              refine LW_ireturn (st := []) rfl rfl rfl (congrArg (fun z => some (Value.int z)) ?_)
              simp only [Int32.lt_iff_toInt_lt, Int32.le_iff_toInt_le, ← Int32.toInt_inj, (show (0 : Int32).toInt = 0 from rfl), (show (9 : Int32).toInt = 9 from rfl), (show (97 : Int32).toInt = 97 from rfl)] at h1 h2 h3 h90 h93 h94
              unfold f_wordB
              rw [if_neg (by omega)]
            · refine X_iload_n rfl rfl rfl rfl ?_
              refine X_iload_n rfl rfl rfl rfl ?_
              refine X_icmp_gt (tgt := 14) rfl rfl rfl (fun h95 => ?_) (fun h95 => ?_)
              · refine X_iconst (v := (0 : Int32)) rfl rfl rfl ?_
                refine LW_ireturn (st := []) rfl rfl rfl ?_
                refine X_if_eq (tgt := 59) rfl rfl rfl (fun _ => ?_) (fun q => absurd q (by decide))
                refine X_iconst (v := (0 : Int32)) rfl rfl rfl ?_
                refine LW_ireturn (st := []) rfl rfl rfl ?_
                refine X_if_eq (tgt := 33) rfl rfl rfl (fun _ => ?_) (fun q => absurd q (by decide))
                refine X_iconst (v := (-1 : Int32)) rfl rfl rfl ?_
                refine LW_ireturn (st := []) rfl rfl rfl (congrArg (fun z => some (Value.int z)) ?_)
                simp only [Int32.lt_iff_toInt_lt, Int32.le_iff_toInt_le, ← Int32.toInt_inj, (show (0 : Int32).toInt = 0 from rfl), (show (9 : Int32).toInt = 9 from rfl), (show (97 : Int32).toInt = 97 from rfl), (show (122 : Int32).toInt = 122 from rfl)] at h1 h2 h3 h90 h93 h94 h95
                unfold f_wordB
                rw [if_neg (by omega)]
              · refine X_iconst (v := (1 : Int32)) rfl rfl rfl ?_
                refine LW_goto (tgt := 15) rfl rfl ?_
                refine LW_ireturn (st := []) rfl rfl rfl ?_
                refine X_if_eq (tgt := 59) rfl rfl rfl (fun q => absurd q (by decide)) (fun _ => ?_)
                refine X_aload_n rfl rfl rfl rfl ?_
                refine X_getI (v := (0 : Int32)) rfl rfl rfl ((congrFun F.1 355).trans s_355) rfl rfl ?_
                refine X_iload_n rfl rfl rfl rfl ?_
                refine X_iload_n rfl rfl rfl rfl ?_
                refine X_iadd (v := (2 : Int32)) rfl rfl rfl ?_
                refine X_icmp_ge (tgt := 61) rfl rfl rfl (fun q => absurd q (by decide)) (fun _ => ?_)
                refine X_iconst (v := (0 : Int32)) rfl rfl rfl ?_
                refine LW_ireturn (st := []) rfl rfl rfl ?_
                refine X_if_eq (tgt := 33) rfl rfl rfl (fun _ => ?_) (fun q => absurd q (by decide))
                refine X_iconst (v := (-1 : Int32)) rfl rfl rfl ?_
                refine LW_ireturn (st := []) rfl rfl rfl (congrArg (fun z => some (Value.int z)) ?_)
                simp only [Int32.lt_iff_toInt_lt, Int32.le_iff_toInt_le, ← Int32.toInt_inj, (show (0 : Int32).toInt = 0 from rfl), (show (9 : Int32).toInt = 9 from rfl), (show (97 : Int32).toInt = 97 from rfl), (show (122 : Int32).toInt = 122 from rfl)] at h1 h2 h3 h90 h93 h94 h95
                unfold f_wordB
                rw [if_neg (by omega)]
          · refine X_aload_n rfl rfl rfl rfl ?_
            refine X_getI (v := (0 : Int32)) rfl rfl rfl ((congrFun F.1 355).trans s_355) rfl rfl ?_
            refine X_iload_n rfl rfl rfl rfl ?_
            refine X_iload_n rfl rfl rfl rfl ?_
            refine X_iadd (v := (2 : Int32)) rfl rfl rfl ?_
            refine X_icmp_gt (tgt := 37) rfl rfl rfl (fun q => absurd q (by decide)) (fun _ => ?_)
            refine LW_goto (tgt := 85) rfl rfl ?_
            refine X_iinc (v := (3 : Int32)) (ls' := [some (.ref 355), some (.int a), some (.int (0 : Int32)), some (.int (3 : Int32)), some (.int b2)]) rfl rfl rfl rfl rfl ?_
            refine LW_goto (tgt := 2) rfl rfl ?_
            refine X_iload_n rfl rfl rfl rfl ?_
            refine X_iconst (v := (4 : Int32)) rfl rfl rfl ?_
            refine X_icmp_ge (tgt := 91) rfl rfl rfl (fun q => absurd q (by decide)) (fun _ => ?_)
            refine X_iload_n rfl rfl rfl rfl ?_
            refine X_bipush (v := (8 : Int32)) rfl rfl rfl ?_
            refine X_iload_n rfl rfl rfl rfl ?_
            refine X_imul (v := (24 : Int32)) rfl rfl rfl ?_
            refine X_ishr (v := (a >>> ((24 : Int32) &&& 31))) rfl rfl rfl ?_
            refine X_sipush (v := (255 : Int32)) rfl rfl rfl ?_
            refine X_iand (v := b3) rfl rfl hb3 ?_
            refine X_istore (i := 4) (ls' := [some (.ref 355), some (.int a), some (.int (0 : Int32)), some (.int (3 : Int32)), some (.int b3)]) rfl rfl (Nat.le_of_ble_eq_true rfl) rfl ?_
            refine X_iload rfl rfl rfl ?_
            refine X_if_ne (tgt := 37) rfl rfl rfl (fun h96 => ?_) (fun h96 => ?_)
            · refine X_iload rfl rfl rfl ?_
              refine X_bipush (v := (97 : Int32)) rfl rfl rfl ?_
              refine X_bipush (v := (122 : Int32)) rfl rfl rfl ?_
              refine X_callS (as := [.int b3, .int (97 : Int32), .int (122 : Int32)]) (st := []) rfl rfl rfl (by decide) rfl (Nat.le_of_ble_eq_true rfl) (by decide) (Nat.le_of_ble_eq_true rfl) rfl ?_
              refine LW_ls (ls' := [some (.int b3), some (.int (97 : Int32)), some (.int (122 : Int32))]) rfl ?_
              refine X_iload_n rfl rfl rfl rfl ?_
              refine X_iload_n rfl rfl rfl rfl ?_
              refine X_icmp_lt (tgt := 14) rfl rfl rfl (fun h97 => ?_) (fun h97 => ?_)
              · refine X_iconst (v := (0 : Int32)) rfl rfl rfl ?_
                refine LW_ireturn (st := []) rfl rfl rfl ?_
                refine X_if_eq (tgt := 59) rfl rfl rfl (fun _ => ?_) (fun q => absurd q (by decide))
                refine X_iconst (v := (0 : Int32)) rfl rfl rfl ?_
                refine LW_ireturn (st := []) rfl rfl rfl ?_
                refine X_if_eq (tgt := 33) rfl rfl rfl (fun _ => ?_) (fun q => absurd q (by decide))
                refine X_iconst (v := (-1 : Int32)) rfl rfl rfl ?_
                refine LW_ireturn (st := []) rfl rfl rfl (congrArg (fun z => some (Value.int z)) ?_)
                simp only [Int32.lt_iff_toInt_lt, Int32.le_iff_toInt_le, ← Int32.toInt_inj, (show (0 : Int32).toInt = 0 from rfl), (show (9 : Int32).toInt = 9 from rfl), (show (97 : Int32).toInt = 97 from rfl)] at h1 h2 h3 h90 h93 h96 h97
                unfold f_wordB
                rw [if_neg (by omega)]
              · refine X_iload_n rfl rfl rfl rfl ?_
                refine X_iload_n rfl rfl rfl rfl ?_
                refine X_icmp_gt (tgt := 14) rfl rfl rfl (fun h98 => ?_) (fun h98 => ?_)
                · refine X_iconst (v := (0 : Int32)) rfl rfl rfl ?_
                  refine LW_ireturn (st := []) rfl rfl rfl ?_
                  refine X_if_eq (tgt := 59) rfl rfl rfl (fun _ => ?_) (fun q => absurd q (by decide))
                  refine X_iconst (v := (0 : Int32)) rfl rfl rfl ?_
                  refine LW_ireturn (st := []) rfl rfl rfl ?_
                  refine X_if_eq (tgt := 33) rfl rfl rfl (fun _ => ?_) (fun q => absurd q (by decide))
                  refine X_iconst (v := (-1 : Int32)) rfl rfl rfl ?_
                  refine LW_ireturn (st := []) rfl rfl rfl (congrArg (fun z => some (Value.int z)) ?_)
                  simp only [Int32.lt_iff_toInt_lt, Int32.le_iff_toInt_le, ← Int32.toInt_inj, (show (0 : Int32).toInt = 0 from rfl), (show (9 : Int32).toInt = 9 from rfl), (show (97 : Int32).toInt = 97 from rfl), (show (122 : Int32).toInt = 122 from rfl)] at h1 h2 h3 h90 h93 h96 h97 h98
                  unfold f_wordB
                  rw [if_neg (by omega)]
                · refine X_iconst (v := (1 : Int32)) rfl rfl rfl ?_
                  refine LW_goto (tgt := 15) rfl rfl ?_
                  refine LW_ireturn (st := []) rfl rfl rfl ?_
                  refine X_if_eq (tgt := 59) rfl rfl rfl (fun q => absurd q (by decide)) (fun _ => ?_)
                  refine X_aload_n rfl rfl rfl rfl ?_
                  refine X_getI (v := (0 : Int32)) rfl rfl rfl ((congrFun F.1 355).trans s_355) rfl rfl ?_
                  refine X_iload_n rfl rfl rfl rfl ?_
                  refine X_iload_n rfl rfl rfl rfl ?_
                  refine X_iadd (v := (3 : Int32)) rfl rfl rfl ?_
                  refine X_icmp_ge (tgt := 61) rfl rfl rfl (fun q => absurd q (by decide)) (fun _ => ?_)
                  refine X_iconst (v := (0 : Int32)) rfl rfl rfl ?_
                  refine LW_ireturn (st := []) rfl rfl rfl ?_
                  refine X_if_eq (tgt := 33) rfl rfl rfl (fun _ => ?_) (fun q => absurd q (by decide))
                  refine X_iconst (v := (-1 : Int32)) rfl rfl rfl ?_
                  refine LW_ireturn (st := []) rfl rfl rfl (congrArg (fun z => some (Value.int z)) ?_)
                  simp only [Int32.lt_iff_toInt_lt, Int32.le_iff_toInt_le, ← Int32.toInt_inj, (show (0 : Int32).toInt = 0 from rfl), (show (9 : Int32).toInt = 9 from rfl), (show (97 : Int32).toInt = 97 from rfl), (show (122 : Int32).toInt = 122 from rfl)] at h1 h2 h3 h90 h93 h96 h97 h98
                  unfold f_wordB
                  rw [if_neg (by omega)]
            · refine X_aload_n rfl rfl rfl rfl ?_
              refine X_getI (v := (0 : Int32)) rfl rfl rfl ((congrFun F.1 355).trans s_355) rfl rfl ?_
              refine X_iload_n rfl rfl rfl rfl ?_
              refine X_iload_n rfl rfl rfl rfl ?_
              refine X_iadd (v := (3 : Int32)) rfl rfl rfl ?_
              refine X_icmp_gt (tgt := 37) rfl rfl rfl (fun q => absurd q (by decide)) (fun _ => ?_)
              refine LW_goto (tgt := 85) rfl rfl ?_
              refine X_iinc (v := (4 : Int32)) (ls' := [some (.ref 355), some (.int a), some (.int (0 : Int32)), some (.int (4 : Int32)), some (.int b3)]) rfl rfl rfl rfl rfl ?_
              refine LW_goto (tgt := 2) rfl rfl ?_
              refine X_iload_n rfl rfl rfl rfl ?_
              refine X_iconst (v := (4 : Int32)) rfl rfl rfl ?_
              refine X_icmp_ge (tgt := 91) rfl rfl rfl (fun _ => ?_) (fun q => absurd q (by decide))
              refine X_iconst (v := (1 : Int32)) rfl rfl rfl ?_
              refine LW_ireturn (st := []) rfl rfl rfl ?_
              refine X_if_eq (tgt := 33) rfl rfl rfl (fun q => absurd q (by decide)) (fun _ => ?_)
              refine X_aload_n rfl rfl rfl rfl ?_
              refine X_iload_n rfl rfl rfl rfl ?_
              refine X_iconst (v := (4 : Int32)) rfl rfl rfl ?_
              refine X_callV (as := [.int c, .int (4 : Int32)]) (st := []) rfl rfl rfl (by decide) rfl (Nat.le_of_ble_eq_true rfl) (by decide) (Nat.le_of_ble_eq_true rfl) rfl ((congrFun F.1 355).trans s_355) (by decide) ?_
              refine LW_ls (ls' := [some (.ref 355), some (.int c), some (.int (4 : Int32)), none, none]) rfl ?_
              refine X_iconst (v := (0 : Int32)) rfl rfl rfl ?_
              refine X_istore_n (i := 3) (ls' := [some (.ref 355), some (.int c), some (.int (4 : Int32)), some (.int (0 : Int32)), none]) rfl rfl rfl (Nat.le_of_ble_eq_true rfl) rfl ?_
              refine X_iload_n rfl rfl rfl rfl ?_
              refine X_iconst (v := (4 : Int32)) rfl rfl rfl ?_
              refine X_icmp_ge (tgt := 91) rfl rfl rfl (fun q => absurd q (by decide)) (fun _ => ?_)
              refine X_iload_n rfl rfl rfl rfl ?_
              refine X_bipush (v := (8 : Int32)) rfl rfl rfl ?_
              refine X_iload_n rfl rfl rfl rfl ?_
              refine X_imul (v := (0 : Int32)) rfl rfl rfl ?_
              refine X_ishr (v := (c >>> ((0 : Int32) &&& 31))) rfl rfl rfl ?_
              refine X_sipush (v := (255 : Int32)) rfl rfl rfl ?_
              refine X_iand (v := b4) rfl rfl hb4 ?_
              refine X_istore (i := 4) (ls' := [some (.ref 355), some (.int c), some (.int (4 : Int32)), some (.int (0 : Int32)), some (.int b4)]) rfl rfl (Nat.le_of_ble_eq_true rfl) rfl ?_
              refine X_iload rfl rfl rfl ?_
              refine X_if_ne (tgt := 37) rfl rfl rfl (fun h99 => ?_) (fun h99 => ?_)
              · refine X_iload rfl rfl rfl ?_
                refine X_bipush (v := (97 : Int32)) rfl rfl rfl ?_
                refine X_bipush (v := (122 : Int32)) rfl rfl rfl ?_
                refine X_callS (as := [.int b4, .int (97 : Int32), .int (122 : Int32)]) (st := []) rfl rfl rfl (by decide) rfl (Nat.le_of_ble_eq_true rfl) (by decide) (Nat.le_of_ble_eq_true rfl) rfl ?_
                refine LW_ls (ls' := [some (.int b4), some (.int (97 : Int32)), some (.int (122 : Int32))]) rfl ?_
                refine X_iload_n rfl rfl rfl rfl ?_
                refine X_iload_n rfl rfl rfl rfl ?_
                refine X_icmp_lt (tgt := 14) rfl rfl rfl (fun h100 => ?_) (fun h100 => ?_)
                · refine X_iconst (v := (0 : Int32)) rfl rfl rfl ?_
                  refine LW_ireturn (st := []) rfl rfl rfl ?_
                  refine X_if_eq (tgt := 59) rfl rfl rfl (fun _ => ?_) (fun q => absurd q (by decide))
                  refine X_iconst (v := (0 : Int32)) rfl rfl rfl ?_
                  refine LW_ireturn (st := []) rfl rfl rfl ?_
                  refine X_if_ne (tgt := 35) rfl rfl rfl (fun q => absurd q (by decide)) (fun _ => ?_)
                  refine X_iconst (v := (-1 : Int32)) rfl rfl rfl ?_
                  refine LW_ireturn (st := []) rfl rfl rfl (congrArg (fun z => some (Value.int z)) ?_)
                  simp only [Int32.lt_iff_toInt_lt, Int32.le_iff_toInt_le, ← Int32.toInt_inj, (show (0 : Int32).toInt = 0 from rfl), (show (9 : Int32).toInt = 9 from rfl), (show (97 : Int32).toInt = 97 from rfl)] at h1 h2 h3 h90 h93 h96 h99 h100
                  unfold f_wordB
                  rw [if_neg (by omega)]
                · refine X_iload_n rfl rfl rfl rfl ?_
                  refine X_iload_n rfl rfl rfl rfl ?_
                  refine X_icmp_gt (tgt := 14) rfl rfl rfl (fun h101 => ?_) (fun h101 => ?_)
                  · refine X_iconst (v := (0 : Int32)) rfl rfl rfl ?_
                    refine LW_ireturn (st := []) rfl rfl rfl ?_
                    refine X_if_eq (tgt := 59) rfl rfl rfl (fun _ => ?_) (fun q => absurd q (by decide))
                    refine X_iconst (v := (0 : Int32)) rfl rfl rfl ?_
                    refine LW_ireturn (st := []) rfl rfl rfl ?_
                    refine X_if_ne (tgt := 35) rfl rfl rfl (fun q => absurd q (by decide)) (fun _ => ?_)
                    refine X_iconst (v := (-1 : Int32)) rfl rfl rfl ?_
                    refine LW_ireturn (st := []) rfl rfl rfl (congrArg (fun z => some (Value.int z)) ?_)
                    simp only [Int32.lt_iff_toInt_lt, Int32.le_iff_toInt_le, ← Int32.toInt_inj, (show (0 : Int32).toInt = 0 from rfl), (show (9 : Int32).toInt = 9 from rfl), (show (97 : Int32).toInt = 97 from rfl), (show (122 : Int32).toInt = 122 from rfl)] at h1 h2 h3 h90 h93 h96 h99 h100 h101
                    unfold f_wordB
                    rw [if_neg (by omega)]
                  · refine X_iconst (v := (1 : Int32)) rfl rfl rfl ?_
                    refine LW_goto (tgt := 15) rfl rfl ?_
                    refine LW_ireturn (st := []) rfl rfl rfl ?_
                    refine X_if_eq (tgt := 59) rfl rfl rfl (fun q => absurd q (by decide)) (fun _ => ?_)
                    refine X_aload_n rfl rfl rfl rfl ?_
                    refine X_getI (v := (0 : Int32)) rfl rfl rfl ((congrFun F.1 355).trans s_355) rfl rfl ?_
                    refine X_iload_n rfl rfl rfl rfl ?_
                    refine X_iload_n rfl rfl rfl rfl ?_
                    refine X_iadd (v := (4 : Int32)) rfl rfl rfl ?_
                    refine X_icmp_ge (tgt := 61) rfl rfl rfl (fun q => absurd q (by decide)) (fun _ => ?_)
                    refine X_iconst (v := (0 : Int32)) rfl rfl rfl ?_
                    refine LW_ireturn (st := []) rfl rfl rfl ?_
                    refine X_if_ne (tgt := 35) rfl rfl rfl (fun q => absurd q (by decide)) (fun _ => ?_)
                    refine X_iconst (v := (-1 : Int32)) rfl rfl rfl ?_
                    refine LW_ireturn (st := []) rfl rfl rfl (congrArg (fun z => some (Value.int z)) ?_)
                    simp only [Int32.lt_iff_toInt_lt, Int32.le_iff_toInt_le, ← Int32.toInt_inj, (show (0 : Int32).toInt = 0 from rfl), (show (9 : Int32).toInt = 9 from rfl), (show (97 : Int32).toInt = 97 from rfl), (show (122 : Int32).toInt = 122 from rfl)] at h1 h2 h3 h90 h93 h96 h99 h100 h101
                    unfold f_wordB
                    rw [if_neg (by omega)]
              · refine X_aload_n rfl rfl rfl rfl ?_
                refine X_getI (v := (0 : Int32)) rfl rfl rfl ((congrFun F.1 355).trans s_355) rfl rfl ?_
                refine X_iload_n rfl rfl rfl rfl ?_
                refine X_iload_n rfl rfl rfl rfl ?_
                refine X_iadd (v := (4 : Int32)) rfl rfl rfl ?_
                refine X_icmp_gt (tgt := 37) rfl rfl rfl (fun q => absurd q (by decide)) (fun _ => ?_)
                refine LW_goto (tgt := 85) rfl rfl ?_
                refine X_iinc (v := (1 : Int32)) (ls' := [some (.ref 355), some (.int c), some (.int (4 : Int32)), some (.int (1 : Int32)), some (.int b4)]) rfl rfl rfl rfl rfl ?_
                refine LW_goto (tgt := 2) rfl rfl ?_
                refine X_iload_n rfl rfl rfl rfl ?_
                refine X_iconst (v := (4 : Int32)) rfl rfl rfl ?_
                refine X_icmp_ge (tgt := 91) rfl rfl rfl (fun q => absurd q (by decide)) (fun _ => ?_)
                refine X_iload_n rfl rfl rfl rfl ?_
                refine X_bipush (v := (8 : Int32)) rfl rfl rfl ?_
                refine X_iload_n rfl rfl rfl rfl ?_
                refine X_imul (v := (8 : Int32)) rfl rfl rfl ?_
                refine X_ishr (v := (c >>> ((8 : Int32) &&& 31))) rfl rfl rfl ?_
                refine X_sipush (v := (255 : Int32)) rfl rfl rfl ?_
                refine X_iand (v := b5) rfl rfl hb5 ?_
                refine X_istore (i := 4) (ls' := [some (.ref 355), some (.int c), some (.int (4 : Int32)), some (.int (1 : Int32)), some (.int b5)]) rfl rfl (Nat.le_of_ble_eq_true rfl) rfl ?_
                refine X_iload rfl rfl rfl ?_
                refine X_if_ne (tgt := 37) rfl rfl rfl (fun h102 => ?_) (fun h102 => ?_)
                · refine X_iload rfl rfl rfl ?_
                  refine X_bipush (v := (97 : Int32)) rfl rfl rfl ?_
                  refine X_bipush (v := (122 : Int32)) rfl rfl rfl ?_
                  refine X_callS (as := [.int b5, .int (97 : Int32), .int (122 : Int32)]) (st := []) rfl rfl rfl (by decide) rfl (Nat.le_of_ble_eq_true rfl) (by decide) (Nat.le_of_ble_eq_true rfl) rfl ?_
                  refine LW_ls (ls' := [some (.int b5), some (.int (97 : Int32)), some (.int (122 : Int32))]) rfl ?_
                  refine X_iload_n rfl rfl rfl rfl ?_
                  refine X_iload_n rfl rfl rfl rfl ?_
                  refine X_icmp_lt (tgt := 14) rfl rfl rfl (fun h103 => ?_) (fun h103 => ?_)
                  · refine X_iconst (v := (0 : Int32)) rfl rfl rfl ?_
                    refine LW_ireturn (st := []) rfl rfl rfl ?_
                    refine X_if_eq (tgt := 59) rfl rfl rfl (fun _ => ?_) (fun q => absurd q (by decide))
                    refine X_iconst (v := (0 : Int32)) rfl rfl rfl ?_
                    refine LW_ireturn (st := []) rfl rfl rfl ?_
                    refine X_if_ne (tgt := 35) rfl rfl rfl (fun q => absurd q (by decide)) (fun _ => ?_)
                    refine X_iconst (v := (-1 : Int32)) rfl rfl rfl ?_
                    refine LW_ireturn (st := []) rfl rfl rfl (congrArg (fun z => some (Value.int z)) ?_)
                    simp only [Int32.lt_iff_toInt_lt, Int32.le_iff_toInt_le, ← Int32.toInt_inj, (show (0 : Int32).toInt = 0 from rfl), (show (9 : Int32).toInt = 9 from rfl), (show (97 : Int32).toInt = 97 from rfl)] at h1 h2 h3 h90 h93 h96 h99 h102 h103
                    unfold f_wordB
                    rw [if_neg (by omega)]
                  · refine X_iload_n rfl rfl rfl rfl ?_
                    refine X_iload_n rfl rfl rfl rfl ?_
                    refine X_icmp_gt (tgt := 14) rfl rfl rfl (fun h104 => ?_) (fun h104 => ?_)
                    · refine X_iconst (v := (0 : Int32)) rfl rfl rfl ?_
                      refine LW_ireturn (st := []) rfl rfl rfl ?_
                      refine X_if_eq (tgt := 59) rfl rfl rfl (fun _ => ?_) (fun q => absurd q (by decide))
                      refine X_iconst (v := (0 : Int32)) rfl rfl rfl ?_
                      refine LW_ireturn (st := []) rfl rfl rfl ?_
                      refine X_if_ne (tgt := 35) rfl rfl rfl (fun q => absurd q (by decide)) (fun _ => ?_)
                      refine X_iconst (v := (-1 : Int32)) rfl rfl rfl ?_
                      refine LW_ireturn (st := []) rfl rfl rfl (congrArg (fun z => some (Value.int z)) ?_)
                      simp only [Int32.lt_iff_toInt_lt, Int32.le_iff_toInt_le, ← Int32.toInt_inj, (show (0 : Int32).toInt = 0 from rfl), (show (9 : Int32).toInt = 9 from rfl), (show (97 : Int32).toInt = 97 from rfl), (show (122 : Int32).toInt = 122 from rfl)] at h1 h2 h3 h90 h93 h96 h99 h102 h103 h104
                      unfold f_wordB
                      rw [if_neg (by omega)]
                    · refine X_iconst (v := (1 : Int32)) rfl rfl rfl ?_
                      refine LW_goto (tgt := 15) rfl rfl ?_
                      refine LW_ireturn (st := []) rfl rfl rfl ?_
                      refine X_if_eq (tgt := 59) rfl rfl rfl (fun q => absurd q (by decide)) (fun _ => ?_)
                      refine X_aload_n rfl rfl rfl rfl ?_
                      refine X_getI (v := (0 : Int32)) rfl rfl rfl ((congrFun F.1 355).trans s_355) rfl rfl ?_
                      refine X_iload_n rfl rfl rfl rfl ?_
                      refine X_iload_n rfl rfl rfl rfl ?_
                      refine X_iadd (v := (5 : Int32)) rfl rfl rfl ?_
                      refine X_icmp_ge (tgt := 61) rfl rfl rfl (fun q => absurd q (by decide)) (fun _ => ?_)
                      refine X_iconst (v := (0 : Int32)) rfl rfl rfl ?_
                      refine LW_ireturn (st := []) rfl rfl rfl ?_
                      refine X_if_ne (tgt := 35) rfl rfl rfl (fun q => absurd q (by decide)) (fun _ => ?_)
                      refine X_iconst (v := (-1 : Int32)) rfl rfl rfl ?_
                      refine LW_ireturn (st := []) rfl rfl rfl (congrArg (fun z => some (Value.int z)) ?_)
                      simp only [Int32.lt_iff_toInt_lt, Int32.le_iff_toInt_le, ← Int32.toInt_inj, (show (0 : Int32).toInt = 0 from rfl), (show (9 : Int32).toInt = 9 from rfl), (show (97 : Int32).toInt = 97 from rfl), (show (122 : Int32).toInt = 122 from rfl)] at h1 h2 h3 h90 h93 h96 h99 h102 h103 h104
                      unfold f_wordB
                      rw [if_neg (by omega)]
                · refine X_aload_n rfl rfl rfl rfl ?_
                  refine X_getI (v := (0 : Int32)) rfl rfl rfl ((congrFun F.1 355).trans s_355) rfl rfl ?_
                  refine X_iload_n rfl rfl rfl rfl ?_
                  refine X_iload_n rfl rfl rfl rfl ?_
                  refine X_iadd (v := (5 : Int32)) rfl rfl rfl ?_
                  refine X_icmp_gt (tgt := 37) rfl rfl rfl (fun q => absurd q (by decide)) (fun _ => ?_)
                  refine LW_goto (tgt := 85) rfl rfl ?_
                  refine X_iinc (v := (2 : Int32)) (ls' := [some (.ref 355), some (.int c), some (.int (4 : Int32)), some (.int (2 : Int32)), some (.int b5)]) rfl rfl rfl rfl rfl ?_
                  refine LW_goto (tgt := 2) rfl rfl ?_
                  refine X_iload_n rfl rfl rfl rfl ?_
                  refine X_iconst (v := (4 : Int32)) rfl rfl rfl ?_
                  refine X_icmp_ge (tgt := 91) rfl rfl rfl (fun q => absurd q (by decide)) (fun _ => ?_)
                  refine X_iload_n rfl rfl rfl rfl ?_
                  refine X_bipush (v := (8 : Int32)) rfl rfl rfl ?_
                  refine X_iload_n rfl rfl rfl rfl ?_
                  refine X_imul (v := (16 : Int32)) rfl rfl rfl ?_
                  refine X_ishr (v := (c >>> ((16 : Int32) &&& 31))) rfl rfl rfl ?_
                  refine X_sipush (v := (255 : Int32)) rfl rfl rfl ?_
                  refine X_iand (v := b6) rfl rfl hb6 ?_
                  refine X_istore (i := 4) (ls' := [some (.ref 355), some (.int c), some (.int (4 : Int32)), some (.int (2 : Int32)), some (.int b6)]) rfl rfl (Nat.le_of_ble_eq_true rfl) rfl ?_
                  refine X_iload rfl rfl rfl ?_
                  refine X_if_ne (tgt := 37) rfl rfl rfl (fun h105 => ?_) (fun h105 => ?_)
                  · refine X_iload rfl rfl rfl ?_
                    refine X_bipush (v := (97 : Int32)) rfl rfl rfl ?_
                    refine X_bipush (v := (122 : Int32)) rfl rfl rfl ?_
                    refine X_callS (as := [.int b6, .int (97 : Int32), .int (122 : Int32)]) (st := []) rfl rfl rfl (by decide) rfl (Nat.le_of_ble_eq_true rfl) (by decide) (Nat.le_of_ble_eq_true rfl) rfl ?_
                    refine LW_ls (ls' := [some (.int b6), some (.int (97 : Int32)), some (.int (122 : Int32))]) rfl ?_
                    refine X_iload_n rfl rfl rfl rfl ?_
                    refine X_iload_n rfl rfl rfl rfl ?_
                    refine X_icmp_lt (tgt := 14) rfl rfl rfl (fun h106 => ?_) (fun h106 => ?_)
                    · refine X_iconst (v := (0 : Int32)) rfl rfl rfl ?_
                      refine LW_ireturn (st := []) rfl rfl rfl ?_
                      refine X_if_eq (tgt := 59) rfl rfl rfl (fun _ => ?_) (fun q => absurd q (by decide))
                      refine X_iconst (v := (0 : Int32)) rfl rfl rfl ?_
                      refine LW_ireturn (st := []) rfl rfl rfl ?_
                      refine X_if_ne (tgt := 35) rfl rfl rfl (fun q => absurd q (by decide)) (fun _ => ?_)
                      refine X_iconst (v := (-1 : Int32)) rfl rfl rfl ?_
                      refine LW_ireturn (st := []) rfl rfl rfl (congrArg (fun z => some (Value.int z)) ?_)
                      simp only [Int32.lt_iff_toInt_lt, Int32.le_iff_toInt_le, ← Int32.toInt_inj, (show (0 : Int32).toInt = 0 from rfl), (show (9 : Int32).toInt = 9 from rfl), (show (97 : Int32).toInt = 97 from rfl)] at h1 h2 h3 h90 h93 h96 h99 h102 h105 h106
                      unfold f_wordB
                      rw [if_neg (by omega)]
                    · refine X_iload_n rfl rfl rfl rfl ?_
                      refine X_iload_n rfl rfl rfl rfl ?_
                      refine X_icmp_gt (tgt := 14) rfl rfl rfl (fun h107 => ?_) (fun h107 => ?_)
                      · refine X_iconst (v := (0 : Int32)) rfl rfl rfl ?_
                        refine LW_ireturn (st := []) rfl rfl rfl ?_
                        refine X_if_eq (tgt := 59) rfl rfl rfl (fun _ => ?_) (fun q => absurd q (by decide))
                        refine X_iconst (v := (0 : Int32)) rfl rfl rfl ?_
                        refine LW_ireturn (st := []) rfl rfl rfl ?_
                        refine X_if_ne (tgt := 35) rfl rfl rfl (fun q => absurd q (by decide)) (fun _ => ?_)
                        refine X_iconst (v := (-1 : Int32)) rfl rfl rfl ?_
                        refine LW_ireturn (st := []) rfl rfl rfl (congrArg (fun z => some (Value.int z)) ?_)
                        simp only [Int32.lt_iff_toInt_lt, Int32.le_iff_toInt_le, ← Int32.toInt_inj, (show (0 : Int32).toInt = 0 from rfl), (show (9 : Int32).toInt = 9 from rfl), (show (97 : Int32).toInt = 97 from rfl), (show (122 : Int32).toInt = 122 from rfl)] at h1 h2 h3 h90 h93 h96 h99 h102 h105 h106 h107
                        unfold f_wordB
                        rw [if_neg (by omega)]
                      · refine X_iconst (v := (1 : Int32)) rfl rfl rfl ?_
                        refine LW_goto (tgt := 15) rfl rfl ?_
                        refine LW_ireturn (st := []) rfl rfl rfl ?_
                        refine X_if_eq (tgt := 59) rfl rfl rfl (fun q => absurd q (by decide)) (fun _ => ?_)
                        refine X_aload_n rfl rfl rfl rfl ?_
                        refine X_getI (v := (0 : Int32)) rfl rfl rfl ((congrFun F.1 355).trans s_355) rfl rfl ?_
                        refine X_iload_n rfl rfl rfl rfl ?_
                        refine X_iload_n rfl rfl rfl rfl ?_
                        refine X_iadd (v := (6 : Int32)) rfl rfl rfl ?_
                        refine X_icmp_ge (tgt := 61) rfl rfl rfl (fun q => absurd q (by decide)) (fun _ => ?_)
                        refine X_iconst (v := (0 : Int32)) rfl rfl rfl ?_
                        refine LW_ireturn (st := []) rfl rfl rfl ?_
                        refine X_if_ne (tgt := 35) rfl rfl rfl (fun q => absurd q (by decide)) (fun _ => ?_)
                        refine X_iconst (v := (-1 : Int32)) rfl rfl rfl ?_
                        refine LW_ireturn (st := []) rfl rfl rfl (congrArg (fun z => some (Value.int z)) ?_)
                        simp only [Int32.lt_iff_toInt_lt, Int32.le_iff_toInt_le, ← Int32.toInt_inj, (show (0 : Int32).toInt = 0 from rfl), (show (9 : Int32).toInt = 9 from rfl), (show (97 : Int32).toInt = 97 from rfl), (show (122 : Int32).toInt = 122 from rfl)] at h1 h2 h3 h90 h93 h96 h99 h102 h105 h106 h107
                        unfold f_wordB
                        rw [if_neg (by omega)]
                  · refine X_aload_n rfl rfl rfl rfl ?_
                    refine X_getI (v := (0 : Int32)) rfl rfl rfl ((congrFun F.1 355).trans s_355) rfl rfl ?_
                    refine X_iload_n rfl rfl rfl rfl ?_
                    refine X_iload_n rfl rfl rfl rfl ?_
                    refine X_iadd (v := (6 : Int32)) rfl rfl rfl ?_
                    refine X_icmp_gt (tgt := 37) rfl rfl rfl (fun q => absurd q (by decide)) (fun _ => ?_)
                    refine LW_goto (tgt := 85) rfl rfl ?_
                    refine X_iinc (v := (3 : Int32)) (ls' := [some (.ref 355), some (.int c), some (.int (4 : Int32)), some (.int (3 : Int32)), some (.int b6)]) rfl rfl rfl rfl rfl ?_
                    refine LW_goto (tgt := 2) rfl rfl ?_
                    refine X_iload_n rfl rfl rfl rfl ?_
                    refine X_iconst (v := (4 : Int32)) rfl rfl rfl ?_
                    refine X_icmp_ge (tgt := 91) rfl rfl rfl (fun q => absurd q (by decide)) (fun _ => ?_)
                    refine X_iload_n rfl rfl rfl rfl ?_
                    refine X_bipush (v := (8 : Int32)) rfl rfl rfl ?_
                    refine X_iload_n rfl rfl rfl rfl ?_
                    refine X_imul (v := (24 : Int32)) rfl rfl rfl ?_
                    refine X_ishr (v := (c >>> ((24 : Int32) &&& 31))) rfl rfl rfl ?_
                    refine X_sipush (v := (255 : Int32)) rfl rfl rfl ?_
                    refine X_iand (v := b7) rfl rfl hb7 ?_
                    refine X_istore (i := 4) (ls' := [some (.ref 355), some (.int c), some (.int (4 : Int32)), some (.int (3 : Int32)), some (.int b7)]) rfl rfl (Nat.le_of_ble_eq_true rfl) rfl ?_
                    refine X_iload rfl rfl rfl ?_
                    refine X_if_ne (tgt := 37) rfl rfl rfl (fun h108 => ?_) (fun h108 => ?_)
                    · refine X_iload rfl rfl rfl ?_
                      refine X_bipush (v := (97 : Int32)) rfl rfl rfl ?_
                      refine X_bipush (v := (122 : Int32)) rfl rfl rfl ?_
                      refine X_callS (as := [.int b7, .int (97 : Int32), .int (122 : Int32)]) (st := []) rfl rfl rfl (by decide) rfl (Nat.le_of_ble_eq_true rfl) (by decide) (Nat.le_of_ble_eq_true rfl) rfl ?_
                      refine LW_ls (ls' := [some (.int b7), some (.int (97 : Int32)), some (.int (122 : Int32))]) rfl ?_
                      refine X_iload_n rfl rfl rfl rfl ?_
                      refine X_iload_n rfl rfl rfl rfl ?_
                      refine X_icmp_lt (tgt := 14) rfl rfl rfl (fun h109 => ?_) (fun h109 => ?_)
                      · refine X_iconst (v := (0 : Int32)) rfl rfl rfl ?_
                        refine LW_ireturn (st := []) rfl rfl rfl ?_
                        refine X_if_eq (tgt := 59) rfl rfl rfl (fun _ => ?_) (fun q => absurd q (by decide))
                        refine X_iconst (v := (0 : Int32)) rfl rfl rfl ?_
                        refine LW_ireturn (st := []) rfl rfl rfl ?_
                        refine X_if_ne (tgt := 35) rfl rfl rfl (fun q => absurd q (by decide)) (fun _ => ?_)
                        refine X_iconst (v := (-1 : Int32)) rfl rfl rfl ?_
                        refine LW_ireturn (st := []) rfl rfl rfl (congrArg (fun z => some (Value.int z)) ?_)
                        simp only [Int32.lt_iff_toInt_lt, Int32.le_iff_toInt_le, ← Int32.toInt_inj, (show (0 : Int32).toInt = 0 from rfl), (show (9 : Int32).toInt = 9 from rfl), (show (97 : Int32).toInt = 97 from rfl)] at h1 h2 h3 h90 h93 h96 h99 h102 h105 h108 h109
                        unfold f_wordB
                        rw [if_neg (by omega)]
                      · refine X_iload_n rfl rfl rfl rfl ?_
                        refine X_iload_n rfl rfl rfl rfl ?_
                        refine X_icmp_gt (tgt := 14) rfl rfl rfl (fun h110 => ?_) (fun h110 => ?_)
                        · refine X_iconst (v := (0 : Int32)) rfl rfl rfl ?_
                          refine LW_ireturn (st := []) rfl rfl rfl ?_
                          refine X_if_eq (tgt := 59) rfl rfl rfl (fun _ => ?_) (fun q => absurd q (by decide))
                          refine X_iconst (v := (0 : Int32)) rfl rfl rfl ?_
                          refine LW_ireturn (st := []) rfl rfl rfl ?_
                          refine X_if_ne (tgt := 35) rfl rfl rfl (fun q => absurd q (by decide)) (fun _ => ?_)
                          refine X_iconst (v := (-1 : Int32)) rfl rfl rfl ?_
                          refine LW_ireturn (st := []) rfl rfl rfl (congrArg (fun z => some (Value.int z)) ?_)
                          simp only [Int32.lt_iff_toInt_lt, Int32.le_iff_toInt_le, ← Int32.toInt_inj, (show (0 : Int32).toInt = 0 from rfl), (show (9 : Int32).toInt = 9 from rfl), (show (97 : Int32).toInt = 97 from rfl), (show (122 : Int32).toInt = 122 from rfl)] at h1 h2 h3 h90 h93 h96 h99 h102 h105 h108 h109 h110
                          unfold f_wordB
                          rw [if_neg (by omega)]
                        · refine X_iconst (v := (1 : Int32)) rfl rfl rfl ?_
                          refine LW_goto (tgt := 15) rfl rfl ?_
                          refine LW_ireturn (st := []) rfl rfl rfl ?_
                          refine X_if_eq (tgt := 59) rfl rfl rfl (fun q => absurd q (by decide)) (fun _ => ?_)
                          refine X_aload_n rfl rfl rfl rfl ?_
                          refine X_getI (v := (0 : Int32)) rfl rfl rfl ((congrFun F.1 355).trans s_355) rfl rfl ?_
                          refine X_iload_n rfl rfl rfl rfl ?_
                          refine X_iload_n rfl rfl rfl rfl ?_
                          refine X_iadd (v := (7 : Int32)) rfl rfl rfl ?_
                          refine X_icmp_ge (tgt := 61) rfl rfl rfl (fun q => absurd q (by decide)) (fun _ => ?_)
                          refine X_iconst (v := (0 : Int32)) rfl rfl rfl ?_
                          refine LW_ireturn (st := []) rfl rfl rfl ?_
                          refine X_if_ne (tgt := 35) rfl rfl rfl (fun q => absurd q (by decide)) (fun _ => ?_)
                          refine X_iconst (v := (-1 : Int32)) rfl rfl rfl ?_
                          refine LW_ireturn (st := []) rfl rfl rfl (congrArg (fun z => some (Value.int z)) ?_)
                          simp only [Int32.lt_iff_toInt_lt, Int32.le_iff_toInt_le, ← Int32.toInt_inj, (show (0 : Int32).toInt = 0 from rfl), (show (9 : Int32).toInt = 9 from rfl), (show (97 : Int32).toInt = 97 from rfl), (show (122 : Int32).toInt = 122 from rfl)] at h1 h2 h3 h90 h93 h96 h99 h102 h105 h108 h109 h110
                          unfold f_wordB
                          rw [if_neg (by omega)]
                    · refine X_aload_n rfl rfl rfl rfl ?_
                      refine X_getI (v := (0 : Int32)) rfl rfl rfl ((congrFun F.1 355).trans s_355) rfl rfl ?_
                      refine X_iload_n rfl rfl rfl rfl ?_
                      refine X_iload_n rfl rfl rfl rfl ?_
                      refine X_iadd (v := (7 : Int32)) rfl rfl rfl ?_
                      refine X_icmp_gt (tgt := 37) rfl rfl rfl (fun q => absurd q (by decide)) (fun _ => ?_)
                      refine LW_goto (tgt := 85) rfl rfl ?_
                      refine X_iinc (v := (4 : Int32)) (ls' := [some (.ref 355), some (.int c), some (.int (4 : Int32)), some (.int (4 : Int32)), some (.int b7)]) rfl rfl rfl rfl rfl ?_
                      refine LW_goto (tgt := 2) rfl rfl ?_
                      refine X_iload_n rfl rfl rfl rfl ?_
                      refine X_iconst (v := (4 : Int32)) rfl rfl rfl ?_
                      refine X_icmp_ge (tgt := 91) rfl rfl rfl (fun _ => ?_) (fun q => absurd q (by decide))
                      refine X_iconst (v := (1 : Int32)) rfl rfl rfl ?_
                      refine LW_ireturn (st := []) rfl rfl rfl ?_
                      refine X_if_ne (tgt := 35) rfl rfl rfl (fun _ => ?_) (fun q => absurd q (by decide))
                      refine X_aload_n rfl rfl rfl rfl ?_
                      refine X_iload_n rfl rfl rfl rfl ?_
                      refine X_callV (as := [.int s]) (st := []) rfl rfl rfl (by decide) rfl (Nat.le_of_ble_eq_true rfl) (by decide) (Nat.le_of_ble_eq_true rfl) rfl ((congrFun F.1 355).trans s_355) (by decide) ?_
                      refine LW_ls (ls' := [some (.ref 355), some (.int s), none, none]) rfl ?_
                      refine X_aload_n rfl rfl rfl rfl ?_
                      refine X_getI (v := (0 : Int32)) rfl rfl rfl ((congrFun F.1 355).trans s_355) rfl rfl ?_
                      refine X_if_eq (tgt := 25) rfl rfl rfl (fun _ => ?_) (fun q => absurd q (by decide))
                      refine X_iconst (v := (-1 : Int32)) rfl rfl rfl ?_
                      refine LW_ireturn (st := []) rfl rfl rfl ?_
                      refine LW_ireturn (st := []) rfl rfl rfl (congrArg (fun z => some (Value.int z)) ?_)
                      simp only [Int32.lt_iff_toInt_lt, Int32.le_iff_toInt_le, ← Int32.toInt_inj, (show (0 : Int32).toInt = 0 from rfl), (show (9 : Int32).toInt = 9 from rfl)] at h1 h2 h3 h90 h93 h96 h99 h102 h105 h108
                      unfold f_wordB
                      rw [if_neg (by omega)]
