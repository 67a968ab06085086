/-! walks printed by wip/p1/walk.py: image back -/
def f_image : Int32 := 0
def f_back : Int32 := 0
set_option maxRecDepth 10000 in
set_option maxHeartbeats 4000000 in
theorem c_image {g : LH} (F : Fc g) (E : Fr g) : LW 163 30 0 0 0 (lEnt (mL 163) [.ref 0]) [] g (fun v g' => v = some (.int (f_image)) ∧ Fr g') := by
  refine LW_ls (ls' := [some (.ref 0)]) rfl ?_
  refine X_aload_n rfl rfl rfl rfl ?_
  refine X_getR (a := 146) rfl rfl rfl ((congrFun F.1 0).trans s_0) rfl ((congrFun (F.2.1 0 (by decide)) 1).trans r_0_1) ?_
  refine X_aload_n rfl rfl rfl rfl ?_
  refine X_getR (a := 1) rfl rfl rfl ((congrFun F.1 0).trans s_0) rfl ((congrFun (F.2.1 0 (by decide)) 0).trans r_0_0) ?_
  refine X_callV (as := [.ref 1]) (st := []) rfl rfl rfl (by decide) rfl (Nat.le_of_ble_eq_true rfl) (by decide) (Nat.le_of_ble_eq_true rfl) rfl ((congrFun F.1 146).trans s_146) (by decide) ?_
  refine LW_ls (ls' := [some (.ref 146), some (.ref 1)]) rfl ?_
  refine X_aload_n rfl rfl rfl rfl ?_
  refine X_getR (a := 147) rfl rfl rfl ((congrFun F.1 146).trans s_146) rfl ((congrFun (F.2.1 146 (by decide)) 0).trans r_146_0) ?_
  refine X_aload_n rfl rfl rfl rfl ?_
  refine X_getR (a := 2) rfl rfl rfl ((congrFun F.1 1).trans s_1) rfl ((congrFun (F.2.1 1 (by decide)) 0).trans r_1_0) ?_
  refine X_callV (as := [.ref 2]) (st := []) rfl rfl rfl (by decide) rfl (Nat.le_of_ble_eq_true rfl) (by decide) (Nat.le_of_ble_eq_true rfl) rfl ((congrFun F.1 147).trans s_147) (by decide) ?_
  refine LW_ls (ls' := [some (.ref 147), some (.ref 2)]) rfl ?_
  refine X_aload_n rfl rfl rfl rfl ?_
  refine X_aload_n rfl rfl rfl rfl ?_
  refine X_getI (v := (0 : Int32)) rfl rfl rfl ((congrFun F.1 2).trans s_2) rfl ((congrFun (F.2.2 2 (by decide)).1 0).trans i_2_0) ?_
  refine X_putI rfl rfl rfl ((congrFun F.1 147).trans s_147) rfl rfl rfl rfl ?_
  refine X_aload_n rfl rfl rfl rfl ?_
  refine X_aload_n rfl rfl rfl rfl ?_
  refine X_getI (v := (0 : Int32)) rfl rfl rfl ((congrFun F.1 2).trans s_2) rfl ((congrFun (F.2.2 2 (by decide)).1 1).trans i_2_1) ?_
  refine X_putI rfl rfl rfl ((congrFun F.1 147).trans s_147) rfl rfl rfl rfl ?_
  refine X_aload_n rfl rfl rfl rfl ?_
  refine X_getR (a := 3) rfl rfl rfl ((congrFun F.1 2).trans s_2) rfl ((congrFun (F.2.1 2 (by decide)) 2).trans r_2_2) ?_
  refine X_iconst (v := (0 : Int32)) rfl rfl rfl ?_
  refine X_aload_n rfl rfl rfl rfl ?_
  refine X_getR (a := 148) rfl rfl rfl ((congrFun F.1 147).trans s_147) rfl ((congrFun (F.2.1 147 (by decide)) 2).trans r_147_2) ?_
  refine X_iconst (v := (0 : Int32)) rfl rfl rfl ?_
  refine X_bipush (v := (24 : Int32)) rfl rfl rfl ?_
  refine X_copy (sp' := 0) (dp' := 0) (n' := 24) rfl rfl rfl ((congrFun F.1 3).trans s_3) ((congrFun F.1 148).trans s_148) (by decide) (by decide) (by decide) rfl rfl rfl (by decide) (by decide) (Nat.le_of_ble_eq_true rfl) ?_
  refine X_aload_n rfl rfl rfl rfl ?_
  refine X_getR (a := 4) rfl rfl rfl ((congrFun F.1 2).trans s_2) rfl ((congrFun (F.2.1 2 (by decide)) 3).trans r_2_3) ?_
  refine X_iconst (v := (0 : Int32)) rfl rfl rfl ?_
  refine X_aload_n rfl rfl rfl rfl ?_
  refine X_getR (a := 149) rfl rfl rfl ((congrFun F.1 147).trans s_147) rfl ((congrFun (F.2.1 147 (by decide)) 3).trans r_147_3) ?_
  refine X_iconst (v := (0 : Int32)) rfl rfl rfl ?_
  refine X_bipush (v := (24 : Int32)) rfl rfl rfl ?_
  refine X_copy (sp' := 0) (dp' := 0) (n' := 24) rfl rfl rfl ((congrFun F.1 4).trans s_4) ((congrFun F.1 149).trans s_149) (by decide) (by decide) (by decide) rfl rfl rfl (by decide) (by decide) (Nat.le_of_ble_eq_true rfl) ?_
  refine X_aload_n rfl rfl rfl rfl ?_
  refine X_getR (a := 5) rfl rfl rfl ((congrFun F.1 2).trans s_2) rfl ((congrFun (F.2.1 2 (by decide)) 4).trans r_2_4) ?_
  refine X_iconst (v := (0 : Int32)) rfl rfl rfl ?_
  refine X_aload_n rfl rfl rfl rfl ?_
  refine X_getR (a := 150) rfl rfl rfl ((congrFun F.1 147).trans s_147) rfl ((congrFun (F.2.1 147 (by decide)) 4).trans r_147_4) ?_
  refine X_iconst (v := (0 : Int32)) rfl rfl rfl ?_
  refine X_bipush (v := (24 : Int32)) rfl rfl rfl ?_
  refine X_copy (sp' := 0) (dp' := 0) (n' := 24) rfl rfl rfl ((congrFun F.1 5).trans s_5) ((congrFun F.1 150).trans s_150) (by decide) (by decide) (by decide) rfl rfl rfl (by decide) (by decide) (Nat.le_of_ble_eq_true rfl) ?_
  refine X_aload_n rfl rfl rfl rfl ?_
  refine X_getR (a := 6) rfl rfl rfl ((congrFun F.1 2).trans s_2) rfl ((congrFun (F.2.1 2 (by decide)) 5).trans r_2_5) ?_
  refine X_iconst (v := (0 : Int32)) rfl rfl rfl ?_
  refine X_aload_n rfl rfl rfl rfl ?_
  refine X_getR (a := 151) rfl rfl rfl ((congrFun F.1 147).trans s_147) rfl ((congrFun (F.2.1 147 (by decide)) 5).trans r_147_5) ?_
  refine X_iconst (v := (0 : Int32)) rfl rfl rfl ?_
  refine X_sipush (v := (192 : Int32)) rfl rfl rfl ?_
  refine X_copy (sp' := 0) (dp' := 0) (n' := 192) rfl rfl rfl ((congrFun F.1 6).trans s_6) ((congrFun F.1 151).trans s_151) (by decide) (by decide) (by decide) rfl rfl rfl (by decide) (by decide) (Nat.le_of_ble_eq_true rfl) ?_
  refine X_aload_n rfl rfl rfl rfl ?_
  refine X_getR (a := 7) rfl rfl rfl ((congrFun F.1 2).trans s_2) rfl ((congrFun (F.2.1 2 (by decide)) 6).trans r_2_6) ?_
  refine X_iconst (v := (0 : Int32)) rfl rfl rfl ?_
  refine X_aload_n rfl rfl rfl rfl ?_
  refine X_getR (a := 152) rfl rfl rfl ((congrFun F.1 147).trans s_147) rfl ((congrFun (F.2.1 147 (by decide)) 6).trans r_147_6) ?_
  refine X_iconst (v := (0 : Int32)) rfl rfl rfl ?_
  refine X_bipush (v := (8 : Int32)) rfl rfl rfl ?_
  refine X_copy (sp' := 0) (dp' := 0) (n' := 8) rfl rfl rfl ((congrFun F.1 7).trans s_7) ((congrFun F.1 152).trans s_152) (by decide) (by decide) (by decide) rfl rfl rfl (by decide) (by decide) (Nat.le_of_ble_eq_true rfl) ?_
  refine X_aload_n rfl rfl rfl rfl ?_
  refine X_getR (a := 8) rfl rfl rfl ((congrFun F.1 2).trans s_2) rfl ((congrFun (F.2.1 2 (by decide)) 7).trans r_2_7) ?_
  refine X_iconst (v := (0 : Int32)) rfl rfl rfl ?_
  refine X_aload_n rfl rfl rfl rfl ?_
  refine X_getR (a := 153) rfl rfl rfl ((congrFun F.1 147).trans s_147) rfl ((congrFun (F.2.1 147 (by decide)) 7).trans r_147_7) ?_
  refine X_iconst (v := (0 : Int32)) rfl rfl rfl ?_
  refine X_bipush (v := (8 : Int32)) rfl rfl rfl ?_
  refine X_copy (sp' := 0) (dp' := 0) (n' := 8) rfl rfl rfl ((congrFun F.1 8).trans s_8) ((congrFun F.1 153).trans s_153) (by decide) (by decide) (by decide) rfl rfl rfl (by decide) (by decide) (Nat.le_of_ble_eq_true rfl) ?_
  refine X_aload_n rfl rfl rfl rfl ?_
  refine X_getR (a := 9) rfl rfl rfl ((congrFun F.1 2).trans s_2) rfl ((congrFun (F.2.1 2 (by decide)) 8).trans r_2_8) ?_
  refine X_iconst (v := (0 : Int32)) rfl rfl rfl ?_
  refine X_aload_n rfl rfl rfl rfl ?_
  refine X_getR (a := 154) rfl rfl rfl ((congrFun F.1 147).trans s_147) rfl ((congrFun (F.2.1 147 (by decide)) 8).trans r_147_8) ?_
  refine X_iconst (v := (0 : Int32)) rfl rfl rfl ?_
  refine X_bipush (v := (64 : Int32)) rfl rfl rfl ?_
  refine X_copy (sp' := 0) (dp' := 0) (n' := 64) rfl rfl rfl ((congrFun F.1 9).trans s_9) ((congrFun F.1 154).trans s_154) (by decide) (by decide) (by decide) rfl rfl rfl (by decide) (by decide) (Nat.le_of_ble_eq_true rfl) ?_
  refine LW_return (st := []) rfl rfl ?_
  refine X_aload_n rfl rfl rfl rfl ?_
  refine X_getR (a := 155) rfl rfl rfl ((congrFun F.1 146).trans s_146) rfl ((congrFun (F.2.1 146 (by decide)) 1).trans r_146_1) ?_
  refine X_aload_n rfl rfl rfl rfl ?_
  refine X_getR (a := 10) rfl rfl rfl ((congrFun F.1 1).trans s_1) rfl ((congrFun (F.2.1 1 (by decide)) 1).trans r_1_1) ?_
  refine X_callV (as := [.ref 10]) (st := []) rfl rfl rfl (by decide) rfl (Nat.le_of_ble_eq_true rfl) (by decide) (Nat.le_of_ble_eq_true rfl) rfl ((congrFun F.1 155).trans s_155) (by decide) ?_
  refine LW_ls (ls' := [some (.ref 155), some (.ref 10)]) rfl ?_
  refine X_aload_n rfl rfl rfl rfl ?_
  refine X_aload_n rfl rfl rfl rfl ?_
  refine X_getI (v := (0 : Int32)) rfl rfl rfl ((congrFun F.1 10).trans s_10) rfl ((congrFun (F.2.2 10 (by decide)).1 0).trans i_10_0) ?_
  refine X_putI rfl rfl rfl ((congrFun F.1 155).trans s_155) rfl rfl rfl rfl ?_
  refine X_aload_n rfl rfl rfl rfl ?_
  refine X_aload_n rfl rfl rfl rfl ?_
  refine X_getI (v := (0 : Int32)) rfl rfl rfl ((congrFun F.1 10).trans s_10) rfl ((congrFun (F.2.2 10 (by decide)).1 1).trans i_10_1) ?_
  refine X_putI rfl rfl rfl ((congrFun F.1 155).trans s_155) rfl rfl rfl rfl ?_
  refine X_aload_n rfl rfl rfl rfl ?_
  refine X_aload_n rfl rfl rfl rfl ?_
  refine X_getI (v := (17 : Int32)) rfl rfl rfl ((congrFun F.1 10).trans s_10) rfl ((congrFun (F.2.2 10 (by decide)).1 2).trans i_10_2) ?_
  refine X_putI rfl rfl rfl ((congrFun F.1 155).trans s_155) rfl rfl rfl rfl ?_
  refine X_aload_n rfl rfl rfl rfl ?_
  refine X_aload_n rfl rfl rfl rfl ?_
  refine X_getI (v := (0 : Int32)) rfl rfl rfl ((congrFun F.1 10).trans s_10) rfl ((congrFun (F.2.2 10 (by decide)).1 3).trans i_10_3) ?_
  refine X_putI rfl rfl rfl ((congrFun F.1 155).trans s_155) rfl rfl rfl rfl ?_
  refine X_aload_n rfl rfl rfl rfl ?_
  refine X_getR (a := 11) rfl rfl rfl ((congrFun F.1 10).trans s_10) rfl ((congrFun (F.2.1 10 (by decide)) 4).trans r_10_4) ?_
  refine X_iconst (v := (0 : Int32)) rfl rfl rfl ?_
  refine X_aload_n rfl rfl rfl rfl ?_
  refine X_getR (a := 156) rfl rfl rfl ((congrFun F.1 155).trans s_155) rfl ((congrFun (F.2.1 155 (by decide)) 4).trans r_155_4) ?_
  refine X_iconst (v := (0 : Int32)) rfl rfl rfl ?_
  refine X_bipush (v := (26 : Int32)) rfl rfl rfl ?_
  refine X_copy (sp' := 0) (dp' := 0) (n' := 26) rfl rfl rfl ((congrFun F.1 11).trans s_11) ((congrFun F.1 156).trans s_156) (by decide) (by decide) (by decide) rfl rfl rfl (by decide) (by decide) (Nat.le_of_ble_eq_true rfl) ?_
  refine X_aload_n rfl rfl rfl rfl ?_
  refine X_getR (a := 12) rfl rfl rfl ((congrFun F.1 10).trans s_10) rfl ((congrFun (F.2.1 10 (by decide)) 5).trans r_10_5) ?_
  refine X_iconst (v := (0 : Int32)) rfl rfl rfl ?_
  refine X_aload_n rfl rfl rfl rfl ?_
  refine X_getR (a := 157) rfl rfl rfl ((congrFun F.1 155).trans s_155) rfl ((congrFun (F.2.1 155 (by decide)) 5).trans r_155_5) ?_
  refine X_iconst (v := (0 : Int32)) rfl rfl rfl ?_
  refine X_bipush (v := (26 : Int32)) rfl rfl rfl ?_
  refine X_copy (sp' := 0) (dp' := 0) (n' := 26) rfl rfl rfl ((congrFun F.1 12).trans s_12) ((congrFun F.1 157).trans s_157) (by decide) (by decide) (by decide) rfl rfl rfl (by decide) (by decide) (Nat.le_of_ble_eq_true rfl) ?_
  refine X_aload_n rfl rfl rfl rfl ?_
  refine X_getR (a := 13) rfl rfl rfl ((congrFun F.1 10).trans s_10) rfl ((congrFun (F.2.1 10 (by decide)) 6).trans r_10_6) ?_
  refine X_iconst (v := (0 : Int32)) rfl rfl rfl ?_
  refine X_aload_n rfl rfl rfl rfl ?_
  refine X_getR (a := 158) rfl rfl rfl ((congrFun F.1 155).trans s_155) rfl ((congrFun (F.2.1 155 (by decide)) 6).trans r_155_6) ?_
  refine X_iconst (v := (0 : Int32)) rfl rfl rfl ?_
  refine X_bipush (v := (26 : Int32)) rfl rfl rfl ?_
  refine X_copy (sp' := 0) (dp' := 0) (n' := 26) rfl rfl rfl ((congrFun F.1 13).trans s_13) ((congrFun F.1 158).trans s_158) (by decide) (by decide) (by decide) rfl rfl rfl (by decide) (by decide) (Nat.le_of_ble_eq_true rfl) ?_
  refine LW_return (st := []) rfl rfl ?_
  refine X_aload_n rfl rfl rfl rfl ?_
  refine X_getR (a := 159) rfl rfl rfl ((congrFun F.1 146).trans s_146) rfl ((congrFun (F.2.1 146 (by decide)) 2).trans r_146_2) ?_
  refine X_aload_n rfl rfl rfl rfl ?_
  refine X_getR (a := 14) rfl rfl rfl ((congrFun F.1 1).trans s_1) rfl ((congrFun (F.2.1 1 (by decide)) 2).trans r_1_2) ?_
  refine X_callV (as := [.ref 14]) (st := []) rfl rfl rfl (by decide) rfl (Nat.le_of_ble_eq_true rfl) (by decide) (Nat.le_of_ble_eq_true rfl) rfl ((congrFun F.1 159).trans s_159) (by decide) ?_
  refine LW_ls (ls' := [some (.ref 159), some (.ref 14), none]) rfl ?_
  refine X_aload_n rfl rfl rfl rfl ?_
  refine X_aload_n rfl rfl rfl rfl ?_
  refine X_getI (v := (0 : Int32)) rfl rfl rfl ((congrFun F.1 14).trans s_14) rfl ((congrFun (F.2.2 14 (by decide)).1 0).trans i_14_0) ?_
  refine X_putI rfl rfl rfl ((congrFun F.1 159).trans s_159) rfl rfl rfl rfl ?_
  refine X_aload_n rfl rfl rfl rfl ?_
  refine X_aload_n rfl rfl rfl rfl ?_
  refine X_getI (v := (0 : Int32)) rfl rfl rfl ((congrFun F.1 14).trans s_14) rfl ((congrFun (F.2.2 14 (by decide)).1 1).trans i_14_1) ?_
  refine X_putI rfl rfl rfl ((congrFun F.1 159).trans s_159) rfl rfl rfl rfl ?_
  refine X_iconst (v := (0 : Int32)) rfl rfl rfl ?_
  refine X_istore_n (i := 2) (ls' := [some (.ref 159), some (.ref 14), some (.int (0 : Int32))]) rfl rfl rfl (Nat.le_of_ble_eq_true rfl) rfl ?_
  refine X_iload_n rfl rfl rfl rfl ?_
  refine X_bipush (v := (30 : Int32)) rfl rfl rfl ?_
  refine X_icmp_ge (tgt := 45) rfl rfl rfl (fun q => absurd q (by decide)) (fun _ => ?_)
  refine X_aload_n rfl rfl rfl rfl ?_
  refine X_getR (a := 160) rfl rfl rfl ((congrFun F.1 159).trans s_159) rfl ((congrFun (F.2.1 159 (by decide)) 2).trans r_159_2) ?_
  refine X_iload_n rfl rfl rfl rfl ?_
  refine X_aald (a := 161) (t0 := 3) rfl rfl ((congrFun F.1 160).trans s_160) rfl (vp_in_d rfl) ((congrFun (F.2.1 160 (by decide)) 0).trans r_160_0) ?_
  refine X_aload_n rfl rfl rfl rfl ?_
  refine X_getR (a := 15) rfl rfl rfl ((congrFun F.1 14).trans s_14) rfl ((congrFun (F.2.1 14 (by decide)) 2).trans r_14_2) ?_
  refine X_iload_n rfl rfl rfl rfl ?_
  refine X_aald (a := 16) (t0 := 3) rfl rfl ((congrFun F.1 15).trans s_15) rfl (vp_in_d rfl) ((congrFun (F.2.1 15 (by decide)) 0).trans r_15_0) ?_
  refine X_callV (as := [.ref 16]) (st := []) rfl rfl rfl (by decide) rfl (Nat.le_of_ble_eq_true rfl) (by decide) (Nat.le_of_ble_eq_true rfl) rfl ((congrFun F.1 161).trans s_161) (by decide) ?_
  refine LW_ls (ls' := [some (.ref 161), some (.ref 16)]) rfl ?_
  refine X_aload_n rfl rfl rfl rfl ?_
  refine X_aload_n rfl rfl rfl rfl ?_
  refine X_getI (v := (0 : Int32)) rfl rfl rfl ((congrFun F.1 16).trans s_16) rfl ((congrFun (F.2.2 16 (by decide)).1 0).trans i_16_0) ?_
  refine X_putI rfl rfl rfl ((congrFun F.1 161).trans s_161) rfl rfl rfl rfl ?_
  refine X_aload_n rfl rfl rfl rfl ?_
  refine X_aload_n rfl rfl rfl rfl ?_
  refine X_getI (v := (0 : Int32)) rfl rfl rfl ((congrFun F.1 16).trans s_16) rfl ((congrFun (F.2.2 16 (by decide)).1 1).trans i_16_1) ?_
  refine X_putI rfl rfl rfl ((congrFun F.1 161).trans s_161) rfl rfl rfl rfl ?_
  refine X_aload_n rfl rfl rfl rfl ?_
  refine X_aload_n rfl rfl rfl rfl ?_
  refine X_getI (v := (17 : Int32)) rfl rfl rfl ((congrFun F.1 16).trans s_16) rfl ((congrFun (F.2.2 16 (by decide)).1 2).trans i_16_2) ?_
  refine X_putI rfl rfl rfl ((congrFun F.1 161).trans s_161) rfl rfl rfl rfl ?_
  refine X_aload_n rfl rfl rfl rfl ?_
  refine X_aload_n rfl rfl rfl rfl ?_
  refine X_getI (v := (0 : Int32)) rfl rfl rfl ((congrFun F.1 16).trans s_16) rfl ((congrFun (F.2.2 16 (by decide)).1 3).trans i_16_3) ?_
  refine X_putI rfl rfl rfl ((congrFun F.1 161).trans s_161) rfl rfl rfl rfl ?_
  refine X_aload_n rfl rfl rfl rfl ?_
  refine X_getR (a := 17) rfl rfl rfl ((congrFun F.1 16).trans s_16) rfl ((congrFun (F.2.1 16 (by decide)) 4).trans r_16_4) ?_
  refine X_iconst (v := (0 : Int32)) rfl rfl rfl ?_
  refine X_aload_n rfl rfl rfl rfl ?_
  refine X_getR (a := 162) rfl rfl rfl ((congrFun F.1 161).trans s_161) rfl ((congrFun (F.2.1 161 (by decide)) 4).trans r_161_4) ?_
  refine X_iconst (v := (0 : Int32)) rfl rfl rfl ?_
  refine X_bipush (v := (26 : Int32)) rfl rfl rfl ?_
  refine X_copy (sp' := 0) (dp' := 0) (n' := 26) rfl rfl rfl ((congrFun F.1 17).trans s_17) ((congrFun F.1 162).trans s_162) (by decide) (by decide) (by decide) rfl rfl rfl (by decide) (by decide) (Nat.le_of_ble_eq_true rfl) ?_
  refine X_aload_n rfl rfl rfl rfl ?_
  refine X_getR (a := 18) rfl rfl rfl ((congrFun F.1 16).trans s_16) rfl ((congrFun (F.2.1 16 (by decide)) 5).trans r_16_5) ?_
  refine X_iconst (v := (0 : Int32)) rfl rfl rfl ?_
  refine X_aload_n rfl rfl rfl rfl ?_
  refine X_getR (a := 163) rfl rfl rfl ((congrFun F.1 161).trans s_161) rfl ((congrFun (F.2.1 161 (by decide)) 5).trans r_161_5) ?_
  refine X_iconst (v := (0 : Int32)) rfl rfl rfl ?_
  refine X_bipush (v := (26 : Int32)) rfl rfl rfl ?_
  refine X_copy (sp' := 0) (dp' := 0) (n' := 26) rfl rfl rfl ((congrFun F.1 18).trans s_18) ((congrFun F.1 163).trans s_163) (by decide) (by decide) (by decide) rfl rfl rfl (by decide) (by decide) (Nat.le_of_ble_eq_true rfl) ?_
  refine X_aload_n rfl rfl rfl rfl ?_
  refine X_getR (a := 19) rfl rfl rfl ((congrFun F.1 16).trans s_16) rfl ((congrFun (F.2.1 16 (by decide)) 6).trans r_16_6) ?_
  refine X_iconst (v := (0 : Int32)) rfl rfl rfl ?_
  refine X_aload_n rfl rfl rfl rfl ?_
  refine X_getR (a := 164) rfl rfl rfl ((congrFun F.1 161).trans s_161) rfl ((congrFun (F.2.1 161 (by decide)) 6).trans r_161_6) ?_
  refine X_iconst (v := (0 : Int32)) rfl rfl rfl ?_
  refine X_bipush (v := (26 : Int32)) rfl rfl rfl ?_
  refine X_copy (sp' := 0) (dp' := 0) (n' := 26) rfl rfl rfl ((congrFun F.1 19).trans s_19) ((congrFun F.1 164).trans s_164) (by decide) (by decide) (by decide) rfl rfl rfl (by decide) (by decide) (Nat.le_of_ble_eq_true rfl) ?_
  refine LW_return (st := []) rfl rfl ?_
  refine X_iinc (v := (1 : Int32)) (ls' := [some (.ref 159), some (.ref 14), some (.int (1 : Int32))]) rfl rfl rfl rfl rfl ?_
  refine LW_goto (tgt := 18) rfl rfl ?_
  refine X_iload_n rfl rfl rfl rfl ?_
  refine X_bipush (v := (30 : Int32)) rfl rfl rfl ?_
  refine X_icmp_ge (tgt := 45) rfl rfl rfl (fun q => absurd q (by decide)) (fun _ => ?_)
  refine X_aload_n rfl rfl rfl rfl ?_
  refine X_getR (a := 160) rfl rfl rfl ((congrFun F.1 159).trans s_159) rfl ((congrFun (F.2.1 159 (by decide)) 2).trans r_159_2) ?_
  refine X_iload_n rfl rfl rfl rfl ?_
  refine X_aald (a := 165) (t0 := 3) rfl rfl ((congrFun F.1 160).trans s_160) rfl (vp_in_d rfl) ((congrFun (F.2.1 160 (by decide)) 1).trans r_160_1) ?_
  refine X_aload_n rfl rfl rfl rfl ?_
  refine X_getR (a := 15) rfl rfl rfl ((congrFun F.1 14).trans s_14) rfl ((congrFun (F.2.1 14 (by decide)) 2).trans r_14_2) ?_
  refine X_iload_n rfl rfl rfl rfl ?_
  refine X_aald (a := 20) (t0 := 3) rfl rfl ((congrFun F.1 15).trans s_15) rfl (vp_in_d rfl) ((congrFun (F.2.1 15 (by decide)) 1).trans r_15_1) ?_
  refine X_callV (as := [.ref 20]) (st := []) rfl rfl rfl (by decide) rfl (Nat.le_of_ble_eq_true rfl) (by decide) (Nat.le_of_ble_eq_true rfl) rfl ((congrFun F.1 165).trans s_165) (by decide) ?_
  refine LW_ls (ls' := [some (.ref 165), some (.ref 20)]) rfl ?_
  refine X_aload_n rfl rfl rfl rfl ?_
  refine X_aload_n rfl rfl rfl rfl ?_
  refine X_getI (v := (0 : Int32)) rfl rfl rfl ((congrFun F.1 20).trans s_20) rfl ((congrFun (F.2.2 20 (by decide)).1 0).trans i_20_0) ?_
  refine X_putI rfl rfl rfl ((congrFun F.1 165).trans s_165) rfl rfl rfl rfl ?_
  refine X_aload_n rfl rfl rfl rfl ?_
  refine X_aload_n rfl rfl rfl rfl ?_
  refine X_getI (v := (0 : Int32)) rfl rfl rfl ((congrFun F.1 20).trans s_20) rfl ((congrFun (F.2.2 20 (by decide)).1 1).trans i_20_1) ?_
  refine X_putI rfl rfl rfl ((congrFun F.1 165).trans s_165) rfl rfl rfl rfl ?_
  refine X_aload_n rfl rfl rfl rfl ?_
  refine X_aload_n rfl rfl rfl rfl ?_
  refine X_getI (v := (17 : Int32)) rfl rfl rfl ((congrFun F.1 20).trans s_20) rfl ((congrFun (F.2.2 20 (by decide)).1 2).trans i_20_2) ?_
  refine X_putI rfl rfl rfl ((congrFun F.1 165).trans s_165) rfl rfl rfl rfl ?_
  refine X_aload_n rfl rfl rfl rfl ?_
  refine X_aload_n rfl rfl rfl rfl ?_
  refine X_getI (v := (0 : Int32)) rfl rfl rfl ((congrFun F.1 20).trans s_20) rfl ((congrFun (F.2.2 20 (by decide)).1 3).trans i_20_3) ?_
  refine X_putI rfl rfl rfl ((congrFun F.1 165).trans s_165) rfl rfl rfl rfl ?_
  refine X_aload_n rfl rfl rfl rfl ?_
  refine X_getR (a := 21) rfl rfl rfl ((congrFun F.1 20).trans s_20) rfl ((congrFun (F.2.1 20 (by decide)) 4).trans r_20_4) ?_
  refine X_iconst (v := (0 : Int32)) rfl rfl rfl ?_
  refine X_aload_n rfl rfl rfl rfl ?_
  refine X_getR (a := 166) rfl rfl rfl ((congrFun F.1 165).trans s_165) rfl ((congrFun (F.2.1 165 (by decide)) 4).trans r_165_4) ?_
  refine X_iconst (v := (0 : Int32)) rfl rfl rfl ?_
  refine X_bipush (v := (26 : Int32)) rfl rfl rfl ?_
  refine X_copy (sp' := 0) (dp' := 0) (n' := 26) rfl rfl rfl ((congrFun F.1 21).trans s_21) ((congrFun F.1 166).trans s_166) (by decide) (by decide) (by decide) rfl rfl rfl (by decide) (by decide) (Nat.le_of_ble_eq_true rfl) ?_
  refine X_aload_n rfl rfl rfl rfl ?_
  refine X_getR (a := 22) rfl rfl rfl ((congrFun F.1 20).trans s_20) rfl ((congrFun (F.2.1 20 (by decide)) 5).trans r_20_5) ?_
  refine X_iconst (v := (0 : Int32)) rfl rfl rfl ?_
  refine X_aload_n rfl rfl rfl rfl ?_
  refine X_getR (a := 167) rfl rfl rfl ((congrFun F.1 165).trans s_165) rfl ((congrFun (F.2.1 165 (by decide)) 5).trans r_165_5) ?_
  refine X_iconst (v := (0 : Int32)) rfl rfl rfl ?_
  refine X_bipush (v := (26 : Int32)) rfl rfl rfl ?_
  refine X_copy (sp' := 0) (dp' := 0) (n' := 26) rfl rfl rfl ((congrFun F.1 22).trans s_22) ((congrFun F.1 167).trans s_167) (by decide) (by decide) (by decide) rfl rfl rfl (by decide) (by decide) (Nat.le_of_ble_eq_true rfl) ?_
  refine X_aload_n rfl rfl rfl rfl ?_
  refine X_getR (a := 23) rfl rfl rfl ((congrFun F.1 20).trans s_20) rfl ((congrFun (F.2.1 20 (by decide)) 6).trans r_20_6) ?_
  refine X_iconst (v := (0 : Int32)) rfl rfl rfl ?_
  refine X_aload_n rfl rfl rfl rfl ?_
  refine X_getR (a := 168) rfl rfl rfl ((congrFun F.1 165).trans s_165) rfl ((congrFun (F.2.1 165 (by decide)) 6).trans r_165_6) ?_
  refine X_iconst (v := (0 : Int32)) rfl rfl rfl ?_
  refine X_bipush (v := (26 : Int32)) rfl rfl rfl ?_
  refine X_copy (sp' := 0) (dp' := 0) (n' := 26) rfl rfl rfl ((congrFun F.1 23).trans s_23) ((congrFun F.1 168).trans s_168) (by decide) (by decide) (by decide) rfl rfl rfl (by decide) (by decide) (Nat.le_of_ble_eq_true rfl) ?_
  refine LW_return (st := []) rfl rfl ?_
  refine X_iinc (v := (2 : Int32)) (ls' := [some (.ref 159), some (.ref 14), some (.int (2 : Int32))]) rfl rfl rfl rfl rfl ?_
  refine LW_goto (tgt := 18) rfl rfl ?_
  refine X_iload_n rfl rfl rfl rfl ?_
  refine X_bipush (v := (30 : Int32)) rfl rfl rfl ?_
  refine X_icmp_ge (tgt := 45) rfl rfl rfl (fun q => absurd q (by decide)) (fun _ => ?_)
  refine X_aload_n rfl rfl rfl rfl ?_
  refine X_getR (a := 160) rfl rfl rfl ((congrFun F.1 159).trans s_159) rfl ((congrFun (F.2.1 159 (by decide)) 2).trans r_159_2) ?_
  refine X_iload_n rfl rfl rfl rfl ?_
  refine X_aald (a := 169) (t0 := 3) rfl rfl ((congrFun F.1 160).trans s_160) rfl (vp_in_d rfl) ((congrFun (F.2.1 160 (by decide)) 2).trans r_160_2) ?_
  refine X_aload_n rfl rfl rfl rfl ?_
  refine X_getR (a := 15) rfl rfl rfl ((congrFun F.1 14).trans s_14) rfl ((congrFun (F.2.1 14 (by decide)) 2).trans r_14_2) ?_
  refine X_iload_n rfl rfl rfl rfl ?_
  refine X_aald (a := 24) (t0 := 3) rfl rfl ((congrFun F.1 15).trans s_15) rfl (vp_in_d rfl) ((congrFun (F.2.1 15 (by decide)) 2).trans r_15_2) ?_
  refine X_callV (as := [.ref 24]) (st := []) rfl rfl rfl (by decide) rfl (Nat.le_of_ble_eq_true rfl) (by decide) (Nat.le_of_ble_eq_true rfl) rfl ((congrFun F.1 169).trans s_169) (by decide) ?_
  refine LW_ls (ls' := [some (.ref 169), some (.ref 24)]) rfl ?_
  refine X_aload_n rfl rfl rfl rfl ?_
  refine X_aload_n rfl rfl rfl rfl ?_
  refine X_getI (v := (0 : Int32)) rfl rfl rfl ((congrFun F.1 24).trans s_24) rfl ((congrFun (F.2.2 24 (by decide)).1 0).trans i_24_0) ?_
  refine X_putI rfl rfl rfl ((congrFun F.1 169).trans s_169) rfl rfl rfl rfl ?_
  refine X_aload_n rfl rfl rfl rfl ?_
  refine X_aload_n rfl rfl rfl rfl ?_
  refine X_getI (v := (0 : Int32)) rfl rfl rfl ((congrFun F.1 24).trans s_24) rfl ((congrFun (F.2.2 24 (by decide)).1 1).trans i_24_1) ?_
  refine X_putI rfl rfl rfl ((congrFun F.1 169).trans s_169) rfl rfl rfl rfl ?_
  refine X_aload_n rfl rfl rfl rfl ?_
  refine X_aload_n rfl rfl rfl rfl ?_
  refine X_getI (v := (17 : Int32)) rfl rfl rfl ((congrFun F.1 24).trans s_24) rfl ((congrFun (F.2.2 24 (by decide)).1 2).trans i_24_2) ?_
  refine X_putI rfl rfl rfl ((congrFun F.1 169).trans s_169) rfl rfl rfl rfl ?_
  refine X_aload_n rfl rfl rfl rfl ?_
  refine X_aload_n rfl rfl rfl rfl ?_
  refine X_getI (v := (0 : Int32)) rfl rfl rfl ((congrFun F.1 24).trans s_24) rfl ((congrFun (F.2.2 24 (by decide)).1 3).trans i_24_3) ?_
  refine X_putI rfl rfl rfl ((congrFun F.1 169).trans s_169) rfl rfl rfl rfl ?_
  refine X_aload_n rfl rfl rfl rfl ?_
  refine X_getR (a := 25) rfl rfl rfl ((congrFun F.1 24).trans s_24) rfl ((congrFun (F.2.1 24 (by decide)) 4).trans r_24_4) ?_
  refine X_iconst (v := (0 : Int32)) rfl rfl rfl ?_
  refine X_aload_n rfl rfl rfl rfl ?_
  refine X_getR (a := 170) rfl rfl rfl ((congrFun F.1 169).trans s_169) rfl ((congrFun (F.2.1 169 (by decide)) 4).trans r_169_4) ?_
  refine X_iconst (v := (0 : Int32)) rfl rfl rfl ?_
  refine X_bipush (v := (26 : Int32)) rfl rfl rfl ?_
  refine X_copy (sp' := 0) (dp' := 0) (n' := 26) rfl rfl rfl ((congrFun F.1 25).trans s_25) ((congrFun F.1 170).trans s_170) (by decide) (by decide) (by decide) rfl rfl rfl (by decide) (by decide) (Nat.le_of_ble_eq_true rfl) ?_
  refine X_aload_n rfl rfl rfl rfl ?_
  refine X_getR (a := 26) rfl rfl rfl ((congrFun F.1 24).trans s_24) rfl ((congrFun (F.2.1 24 (by decide)) 5).trans r_24_5) ?_
  refine X_iconst (v := (0 : Int32)) rfl rfl rfl ?_
  refine X_aload_n rfl rfl rfl rfl ?_
  refine X_getR (a := 171) rfl rfl rfl ((congrFun F.1 169).trans s_169) rfl ((congrFun (F.2.1 169 (by decide)) 5).trans r_169_5) ?_
  refine X_iconst (v := (0 : Int32)) rfl rfl rfl ?_
  refine X_bipush (v := (26 : Int32)) rfl rfl rfl ?_
  refine X_copy (sp' := 0) (dp' := 0) (n' := 26) rfl rfl rfl ((congrFun F.1 26).trans s_26) ((congrFun F.1 171).trans s_171) (by decide) (by decide) (by decide) rfl rfl rfl (by decide) (by decide) (Nat.le_of_ble_eq_true rfl) ?_
  refine X_aload_n rfl rfl rfl rfl ?_
  refine X_getR (a := 27) rfl rfl rfl ((congrFun F.1 24).trans s_24) rfl ((congrFun (F.2.1 24 (by decide)) 6).trans r_24_6) ?_
  refine X_iconst (v := (0 : Int32)) rfl rfl rfl ?_
  refine X_aload_n rfl rfl rfl rfl ?_
  refine X_getR (a := 172) rfl rfl rfl ((congrFun F.1 169).trans s_169) rfl ((congrFun (F.2.1 169 (by decide)) 6).trans r_169_6) ?_
  refine X_iconst (v := (0 : Int32)) rfl rfl rfl ?_
  refine X_bipush (v := (26 : Int32)) rfl rfl rfl ?_
  refine X_copy (sp' := 0) (dp' := 0) (n' := 26) rfl rfl rfl ((congrFun F.1 27).trans s_27) ((congrFun F.1 172).trans s_172) (by decide) (by decide) (by decide) rfl rfl rfl (by decide) (by decide) (Nat.le_of_ble_eq_true rfl) ?_
  refine LW_return (st := []) rfl rfl ?_
  refine X_iinc (v := (3 : Int32)) (ls' := [some (.ref 159), some (.ref 14), some (.int (3 : Int32))]) rfl rfl rfl rfl rfl ?_
  refine LW_goto (tgt := 18) rfl rfl ?_
  refine X_iload_n rfl rfl rfl rfl ?_
  refine X_bipush (v := (30 : Int32)) rfl rfl rfl ?_
  refine X_icmp_ge (tgt := 45) rfl rfl rfl (fun q => absurd q (by decide)) (fun _ => ?_)
  refine X_aload_n rfl rfl rfl rfl ?_
  refine X_getR (a := 160) rfl rfl rfl ((congrFun F.1 159).trans s_159) rfl ((congrFun (F.2.1 159 (by decide)) 2).trans r_159_2) ?_
  refine X_iload_n rfl rfl rfl rfl ?_
  refine X_aald (a := 173) (t0 := 3) rfl rfl ((congrFun F.1 160).trans s_160) rfl (vp_in_d rfl) ((congrFun (F.2.1 160 (by decide)) 3).trans r_160_3) ?_
  refine X_aload_n rfl rfl rfl rfl ?_
  refine X_getR (a := 15) rfl rfl rfl ((congrFun F.1 14).trans s_14) rfl ((congrFun (F.2.1 14 (by decide)) 2).trans r_14_2) ?_
  refine X_iload_n rfl rfl rfl rfl ?_
  refine X_aald (a := 28) (t0 := 3) rfl rfl ((congrFun F.1 15).trans s_15) rfl (vp_in_d rfl) ((congrFun (F.2.1 15 (by decide)) 3).trans r_15_3) ?_
  refine X_callV (as := [.ref 28]) (st := []) rfl rfl rfl (by decide) rfl (Nat.le_of_ble_eq_true rfl) (by decide) (Nat.le_of_ble_eq_true rfl) rfl ((congrFun F.1 173).trans s_173) (by decide) ?_
  refine LW_ls (ls' := [some (.ref 173), some (.ref 28)]) rfl ?_
  refine X_aload_n rfl rfl rfl rfl ?_
  refine X_aload_n rfl rfl rfl rfl ?_
  refine X_getI (v := (0 : Int32)) rfl rfl rfl ((congrFun F.1 28).trans s_28) rfl ((congrFun (F.2.2 28 (by decide)).1 0).trans i_28_0) ?_
  refine X_putI rfl rfl rfl ((congrFun F.1 173).trans s_173) rfl rfl rfl rfl ?_
  refine X_aload_n rfl rfl rfl rfl ?_
  refine X_aload_n rfl rfl rfl rfl ?_
  refine X_getI (v := (0 : Int32)) rfl rfl rfl ((congrFun F.1 28).trans s_28) rfl ((congrFun (F.2.2 28 (by decide)).1 1).trans i_28_1) ?_
  refine X_putI rfl rfl rfl ((congrFun F.1 173).trans s_173) rfl rfl rfl rfl ?_
  refine X_aload_n rfl rfl rfl rfl ?_
  refine X_aload_n rfl rfl rfl rfl ?_
  refine X_getI (v := (17 : Int32)) rfl rfl rfl ((congrFun F.1 28).trans s_28) rfl ((congrFun (F.2.2 28 (by decide)).1 2).trans i_28_2) ?_
  refine X_putI rfl rfl rfl ((congrFun F.1 173).trans s_173) rfl rfl rfl rfl ?_
  refine X_aload_n rfl rfl rfl rfl ?_
  refine X_aload_n rfl rfl rfl rfl ?_
  refine X_getI (v := (0 : Int32)) rfl rfl rfl ((congrFun F.1 28).trans s_28) rfl ((congrFun (F.2.2 28 (by decide)).1 3).trans i_28_3) ?_
  refine X_putI rfl rfl rfl ((congrFun F.1 173).trans s_173) rfl rfl rfl rfl ?_
  refine X_aload_n rfl rfl rfl rfl ?_
  refine X_getR (a := 29) rfl rfl rfl ((congrFun F.1 28).trans s_28) rfl ((congrFun (F.2.1 28 (by decide)) 4).trans r_28_4) ?_
  refine X_iconst (v := (0 : Int32)) rfl rfl rfl ?_
  refine X_aload_n rfl rfl rfl rfl ?_
  refine X_getR (a := 174) rfl rfl rfl ((congrFun F.1 173).trans s_173) rfl ((congrFun (F.2.1 173 (by decide)) 4).trans r_173_4) ?_
  refine X_iconst (v := (0 : Int32)) rfl rfl rfl ?_
  refine X_bipush (v := (26 : Int32)) rfl rfl rfl ?_
  refine X_copy (sp' := 0) (dp' := 0) (n' := 26) rfl rfl rfl ((congrFun F.1 29).trans s_29) ((congrFun F.1 174).trans s_174) (by decide) (by decide) (by decide) rfl rfl rfl (by decide) (by decide) (Nat.le_of_ble_eq_true rfl) ?_
  refine X_aload_n rfl rfl rfl rfl ?_
  refine X_getR (a := 30) rfl rfl rfl ((congrFun F.1 28).trans s_28) rfl ((congrFun (F.2.1 28 (by decide)) 5).trans r_28_5) ?_
  refine X_iconst (v := (0 : Int32)) rfl rfl rfl ?_
  refine X_aload_n rfl rfl rfl rfl ?_
  refine X_getR (a := 175) rfl rfl rfl ((congrFun F.1 173).trans s_173) rfl ((congrFun (F.2.1 173 (by decide)) 5).trans r_173_5) ?_
  refine X_iconst (v := (0 : Int32)) rfl rfl rfl ?_
  refine X_bipush (v := (26 : Int32)) rfl rfl rfl ?_
  refine X_copy (sp' := 0) (dp' := 0) (n' := 26) rfl rfl rfl ((congrFun F.1 30).trans s_30) ((congrFun F.1 175).trans s_175) (by decide) (by decide) (by decide) rfl rfl rfl (by decide) (by decide) (Nat.le_of_ble_eq_true rfl) ?_
  refine X_aload_n rfl rfl rfl rfl ?_
  refine X_getR (a := 31) rfl rfl rfl ((congrFun F.1 28).trans s_28) rfl ((congrFun (F.2.1 28 (by decide)) 6).trans r_28_6) ?_
  refine X_iconst (v := (0 : Int32)) rfl rfl rfl ?_
  refine X_aload_n rfl rfl rfl rfl ?_
  refine X_getR (a := 176) rfl rfl rfl ((congrFun F.1 173).trans s_173) rfl ((congrFun (F.2.1 173 (by decide)) 6).trans r_173_6) ?_
  refine X_iconst (v := (0 : Int32)) rfl rfl rfl ?_
  refine X_bipush (v := (26 : Int32)) rfl rfl rfl ?_
  refine X_copy (sp' := 0) (dp' := 0) (n' := 26) rfl rfl rfl ((congrFun F.1 31).trans s_31) ((congrFun F.1 176).trans s_176) (by decide) (by decide) (by decide) rfl rfl rfl (by decide) (by decide) (Nat.le_of_ble_eq_true rfl) ?_
  refine LW_return (st := []) rfl rfl ?_
  refine X_iinc (v := (4 : Int32)) (ls' := [some (.ref 159), some (.ref 14), some (.int (4 : Int32))]) rfl rfl rfl rfl rfl ?_
  refine LW_goto (tgt := 18) rfl rfl ?_
  refine X_iload_n rfl rfl rfl rfl ?_
  refine X_bipush (v := (30 : Int32)) rfl rfl rfl ?_
  refine X_icmp_ge (tgt := 45) rfl rfl rfl (fun q => absurd q (by decide)) (fun _ => ?_)
  refine X_aload_n rfl rfl rfl rfl ?_
  refine X_getR (a := 160) rfl rfl rfl ((congrFun F.1 159).trans s_159) rfl ((congrFun (F.2.1 159 (by decide)) 2).trans r_159_2) ?_
  refine X_iload_n rfl rfl rfl rfl ?_
  refine X_aald (a := 177) (t0 := 3) rfl rfl ((congrFun F.1 160).trans s_160) rfl (vp_in_d rfl) ((congrFun (F.2.1 160 (by decide)) 4).trans r_160_4) ?_
  refine X_aload_n rfl rfl rfl rfl ?_
  refine X_getR (a := 15) rfl rfl rfl ((congrFun F.1 14).trans s_14) rfl ((congrFun (F.2.1 14 (by decide)) 2).trans r_14_2) ?_
  refine X_iload_n rfl rfl rfl rfl ?_
  refine X_aald (a := 32) (t0 := 3) rfl rfl ((congrFun F.1 15).trans s_15) rfl (vp_in_d rfl) ((congrFun (F.2.1 15 (by decide)) 4).trans r_15_4) ?_
  refine X_callV (as := [.ref 32]) (st := []) rfl rfl rfl (by decide) rfl (Nat.le_of_ble_eq_true rfl) (by decide) (Nat.le_of_ble_eq_true rfl) rfl ((congrFun F.1 177).trans s_177) (by decide) ?_
  refine LW_ls (ls' := [some (.ref 177), some (.ref 32)]) rfl ?_
  refine X_aload_n rfl rfl rfl rfl ?_
  refine X_aload_n rfl rfl rfl rfl ?_
  refine X_getI (v := (0 : Int32)) rfl rfl rfl ((congrFun F.1 32).trans s_32) rfl ((congrFun (F.2.2 32 (by decide)).1 0).trans i_32_0) ?_
  refine X_putI rfl rfl rfl ((congrFun F.1 177).trans s_177) rfl rfl rfl rfl ?_
  refine X_aload_n rfl rfl rfl rfl ?_
  refine X_aload_n rfl rfl rfl rfl ?_
  refine X_getI (v := (0 : Int32)) rfl rfl rfl ((congrFun F.1 32).trans s_32) rfl ((congrFun (F.2.2 32 (by decide)).1 1).trans i_32_1) ?_
  refine X_putI rfl rfl rfl ((congrFun F.1 177).trans s_177) rfl rfl rfl rfl ?_
  refine X_aload_n rfl rfl rfl rfl ?_
  refine X_aload_n rfl rfl rfl rfl ?_
  refine X_getI (v := (17 : Int32)) rfl rfl rfl ((congrFun F.1 32).trans s_32) rfl ((congrFun (F.2.2 32 (by decide)).1 2).trans i_32_2) ?_
  refine X_putI rfl rfl rfl ((congrFun F.1 177).trans s_177) rfl rfl rfl rfl ?_
  refine X_aload_n rfl rfl rfl rfl ?_
  refine X_aload_n rfl rfl rfl rfl ?_
  refine X_getI (v := (0 : Int32)) rfl rfl rfl ((congrFun F.1 32).trans s_32) rfl ((congrFun (F.2.2 32 (by decide)).1 3).trans i_32_3) ?_
  refine X_putI rfl rfl rfl ((congrFun F.1 177).trans s_177) rfl rfl rfl rfl ?_
  refine X_aload_n rfl rfl rfl rfl ?_
  refine X_getR (a := 33) rfl rfl rfl ((congrFun F.1 32).trans s_32) rfl ((congrFun (F.2.1 32 (by decide)) 4).trans r_32_4) ?_
  refine X_iconst (v := (0 : Int32)) rfl rfl rfl ?_
  refine X_aload_n rfl rfl rfl rfl ?_
  refine X_getR (a := 178) rfl rfl rfl ((congrFun F.1 177).trans s_177) rfl ((congrFun (F.2.1 177 (by decide)) 4).trans r_177_4) ?_
  refine X_iconst (v := (0 : Int32)) rfl rfl rfl ?_
  refine X_bipush (v := (26 : Int32)) rfl rfl rfl ?_
  refine X_copy (sp' := 0) (dp' := 0) (n' := 26) rfl rfl rfl ((congrFun F.1 33).trans s_33) ((congrFun F.1 178).trans s_178) (by decide) (by decide) (by decide) rfl rfl rfl (by decide) (by decide) (Nat.le_of_ble_eq_true rfl) ?_
  refine X_aload_n rfl rfl rfl rfl ?_
  refine X_getR (a := 34) rfl rfl rfl ((congrFun F.1 32).trans s_32) rfl ((congrFun (F.2.1 32 (by decide)) 5).trans r_32_5) ?_
  refine X_iconst (v := (0 : Int32)) rfl rfl rfl ?_
  refine X_aload_n rfl rfl rfl rfl ?_
  refine X_getR (a := 179) rfl rfl rfl ((congrFun F.1 177).trans s_177) rfl ((congrFun (F.2.1 177 (by decide)) 5).trans r_177_5) ?_
  refine X_iconst (v := (0 : Int32)) rfl rfl rfl ?_
  refine X_bipush (v := (26 : Int32)) rfl rfl rfl ?_
  refine X_copy (sp' := 0) (dp' := 0) (n' := 26) rfl rfl rfl ((congrFun F.1 34).trans s_34) ((congrFun F.1 179).trans s_179) (by decide) (by decide) (by decide) rfl rfl rfl (by decide) (by decide) (Nat.le_of_ble_eq_true rfl) ?_
  refine X_aload_n rfl rfl rfl rfl ?_
  refine X_getR (a := 35) rfl rfl rfl ((congrFun F.1 32).trans s_32) rfl ((congrFun (F.2.1 32 (by decide)) 6).trans r_32_6) ?_
  refine X_iconst (v := (0 : Int32)) rfl rfl rfl ?_
  refine X_aload_n rfl rfl rfl rfl ?_
  refine X_getR (a := 180) rfl rfl rfl ((congrFun F.1 177).trans s_177) rfl ((congrFun (F.2.1 177 (by decide)) 6).trans r_177_6) ?_
  refine X_iconst (v := (0 : Int32)) rfl rfl rfl ?_
  refine X_bipush (v := (26 : Int32)) rfl rfl rfl ?_
  refine X_copy (sp' := 0) (dp' := 0) (n' := 26) rfl rfl rfl ((congrFun F.1 35).trans s_35) ((congrFun F.1 180).trans s_180) (by decide) (by decide) (by decide) rfl rfl rfl (by decide) (by decide) (Nat.le_of_ble_eq_true rfl) ?_
  refine LW_return (st := []) rfl rfl ?_
  refine X_iinc (v := (5 : Int32)) (ls' := [some (.ref 159), some (.ref 14), some (.int (5 : Int32))]) rfl rfl rfl rfl rfl ?_
  refine LW_goto (tgt := 18) rfl rfl ?_
  refine X_iload_n rfl rfl rfl rfl ?_
  refine X_bipush (v := (30 : Int32)) rfl rfl rfl ?_
  refine X_icmp_ge (tgt := 45) rfl rfl rfl (fun q => absurd q (by decide)) (fun _ => ?_)
  refine X_aload_n rfl rfl rfl rfl ?_
  refine X_getR (a := 160) rfl rfl rfl ((congrFun F.1 159).trans s_159) rfl ((congrFun (F.2.1 159 (by decide)) 2).trans r_159_2) ?_
  refine X_iload_n rfl rfl rfl rfl ?_
  refine X_aald (a := 181) (t0 := 3) rfl rfl ((congrFun F.1 160).trans s_160) rfl (vp_in_d rfl) ((congrFun (F.2.1 160 (by decide)) 5).trans r_160_5) ?_
  refine X_aload_n rfl rfl rfl rfl ?_
  refine X_getR (a := 15) rfl rfl rfl ((congrFun F.1 14).trans s_14) rfl ((congrFun (F.2.1 14 (by decide)) 2).trans r_14_2) ?_
  refine X_iload_n rfl rfl rfl rfl ?_
  refine X_aald (a := 36) (t0 := 3) rfl rfl ((congrFun F.1 15).trans s_15) rfl (vp_in_d rfl) ((congrFun (F.2.1 15 (by decide)) 5).trans r_15_5) ?_
  refine X_callV (as := [.ref 36]) (st := []) rfl rfl rfl (by decide) rfl (Nat.le_of_ble_eq_true rfl) (by decide) (Nat.le_of_ble_eq_true rfl) rfl ((congrFun F.1 181).trans s_181) (by decide) ?_
  refine LW_ls (ls' := [some (.ref 181), some (.ref 36)]) rfl ?_
  refine X_aload_n rfl rfl rfl rfl ?_
  refine X_aload_n rfl rfl rfl rfl ?_
  refine X_getI (v := (0 : Int32)) rfl rfl rfl ((congrFun F.1 36).trans s_36) rfl ((congrFun (F.2.2 36 (by decide)).1 0).trans i_36_0) ?_
  refine X_putI rfl rfl rfl ((congrFun F.1 181).trans s_181) rfl rfl rfl rfl ?_
  refine X_aload_n rfl rfl rfl rfl ?_
  refine X_aload_n rfl rfl rfl rfl ?_
  refine X_getI (v := (0 : Int32)) rfl rfl rfl ((congrFun F.1 36).trans s_36) rfl ((congrFun (F.2.2 36 (by decide)).1 1).trans i_36_1) ?_
  refine X_putI rfl rfl rfl ((congrFun F.1 181).trans s_181) rfl rfl rfl rfl ?_
  refine X_aload_n rfl rfl rfl rfl ?_
  refine X_aload_n rfl rfl rfl rfl ?_
  refine X_getI (v := (17 : Int32)) rfl rfl rfl ((congrFun F.1 36).trans s_36) rfl ((congrFun (F.2.2 36 (by decide)).1 2).trans i_36_2) ?_
  refine X_putI rfl rfl rfl ((congrFun F.1 181).trans s_181) rfl rfl rfl rfl ?_
  refine X_aload_n rfl rfl rfl rfl ?_
  refine X_aload_n rfl rfl rfl rfl ?_
  refine X_getI (v := (0 : Int32)) rfl rfl rfl ((congrFun F.1 36).trans s_36) rfl ((congrFun (F.2.2 36 (by decide)).1 3).trans i_36_3) ?_
  refine X_putI rfl rfl rfl ((congrFun F.1 181).trans s_181) rfl rfl rfl rfl ?_
  refine X_aload_n rfl rfl rfl rfl ?_
  refine X_getR (a := 37) rfl rfl rfl ((congrFun F.1 36).trans s_36) rfl ((congrFun (F.2.1 36 (by decide)) 4).trans r_36_4) ?_
  refine X_iconst (v := (0 : Int32)) rfl rfl rfl ?_
  refine X_aload_n rfl rfl rfl rfl ?_
  refine X_getR (a := 182) rfl rfl rfl ((congrFun F.1 181).trans s_181) rfl ((congrFun (F.2.1 181 (by decide)) 4).trans r_181_4) ?_
  refine X_iconst (v := (0 : Int32)) rfl rfl rfl ?_
  refine X_bipush (v := (26 : Int32)) rfl rfl rfl ?_
  refine X_copy (sp' := 0) (dp' := 0) (n' := 26) rfl rfl rfl ((congrFun F.1 37).trans s_37) ((congrFun F.1 182).trans s_182) (by decide) (by decide) (by decide) rfl rfl rfl (by decide) (by decide) (Nat.le_of_ble_eq_true rfl) ?_
  refine X_aload_n rfl rfl rfl rfl ?_
  refine X_getR (a := 38) rfl rfl rfl ((congrFun F.1 36).trans s_36) rfl ((congrFun (F.2.1 36 (by decide)) 5).trans r_36_5) ?_
  refine X_iconst (v := (0 : Int32)) rfl rfl rfl ?_
  refine X_aload_n rfl rfl rfl rfl ?_
  refine X_getR (a := 183) rfl rfl rfl ((congrFun F.1 181).trans s_181) rfl ((congrFun (F.2.1 181 (by decide)) 5).trans r_181_5) ?_
  refine X_iconst (v := (0 : Int32)) rfl rfl rfl ?_
  refine X_bipush (v := (26 : Int32)) rfl rfl rfl ?_
  refine X_copy (sp' := 0) (dp' := 0) (n' := 26) rfl rfl rfl ((congrFun F.1 38).trans s_38) ((congrFun F.1 183).trans s_183) (by decide) (by decide) (by decide) rfl rfl rfl (by decide) (by decide) (Nat.le_of_ble_eq_true rfl) ?_
  refine X_aload_n rfl rfl rfl rfl ?_
  refine X_getR (a := 39) rfl rfl rfl ((congrFun F.1 36).trans s_36) rfl ((congrFun (F.2.1 36 (by decide)) 6).trans r_36_6) ?_
  refine X_iconst (v := (0 : Int32)) rfl rfl rfl ?_
  refine X_aload_n rfl rfl rfl rfl ?_
  refine X_getR (a := 184) rfl rfl rfl ((congrFun F.1 181).trans s_181) rfl ((congrFun (F.2.1 181 (by decide)) 6).trans r_181_6) ?_
  refine X_iconst (v := (0 : Int32)) rfl rfl rfl ?_
  refine X_bipush (v := (26 : Int32)) rfl rfl rfl ?_
  refine X_copy (sp' := 0) (dp' := 0) (n' := 26) rfl rfl rfl ((congrFun F.1 39).trans s_39) ((congrFun F.1 184).trans s_184) (by decide) (by decide) (by decide) rfl rfl rfl (by decide) (by decide) (Nat.le_of_ble_eq_true rfl) ?_
  refine LW_return (st := []) rfl rfl ?_
  refine X_iinc (v := (6 : Int32)) (ls' := [some (.ref 159), some (.ref 14), some (.int (6 : Int32))]) rfl rfl rfl rfl rfl ?_
  refine LW_goto (tgt := 18) rfl rfl ?_
  refine X_iload_n rfl rfl rfl rfl ?_
  refine X_bipush (v := (30 : Int32)) rfl rfl rfl ?_
  refine X_icmp_ge (tgt := 45) rfl rfl rfl (fun q => absurd q (by decide)) (fun _ => ?_)
  refine X_aload_n rfl rfl rfl rfl ?_
  refine X_getR (a := 160) rfl rfl rfl ((congrFun F.1 159).trans s_159) rfl ((congrFun (F.2.1 159 (by decide)) 2).trans r_159_2) ?_
  refine X_iload_n rfl rfl rfl rfl ?_
  refine X_aald (a := 185) (t0 := 3) rfl rfl ((congrFun F.1 160).trans s_160) rfl (vp_in_d rfl) ((congrFun (F.2.1 160 (by decide)) 6).trans r_160_6) ?_
  refine X_aload_n rfl rfl rfl rfl ?_
  refine X_getR (a := 15) rfl rfl rfl ((congrFun F.1 14).trans s_14) rfl ((congrFun (F.2.1 14 (by decide)) 2).trans r_14_2) ?_
  refine X_iload_n rfl rfl rfl rfl ?_
  refine X_aald (a := 40) (t0 := 3) rfl rfl ((congrFun F.1 15).trans s_15) rfl (vp_in_d rfl) ((congrFun (F.2.1 15 (by decide)) 6).trans r_15_6) ?_
  refine X_callV (as := [.ref 40]) (st := []) rfl rfl rfl (by decide) rfl (Nat.le_of_ble_eq_true rfl) (by decide) (Nat.le_of_ble_eq_true rfl) rfl ((congrFun F.1 185).trans s_185) (by decide) ?_
  refine LW_ls (ls' := [some (.ref 185), some (.ref 40)]) rfl ?_
  refine X_aload_n rfl rfl rfl rfl ?_
  refine X_aload_n rfl rfl rfl rfl ?_
  refine X_getI (v := (0 : Int32)) rfl rfl rfl ((congrFun F.1 40).trans s_40) rfl ((congrFun (F.2.2 40 (by decide)).1 0).trans i_40_0) ?_
  refine X_putI rfl rfl rfl ((congrFun F.1 185).trans s_185) rfl rfl rfl rfl ?_
  refine X_aload_n rfl rfl rfl rfl ?_
  refine X_aload_n rfl rfl rfl rfl ?_
  refine X_getI (v := (0 : Int32)) rfl rfl rfl ((congrFun F.1 40).trans s_40) rfl ((congrFun (F.2.2 40 (by decide)).1 1).trans i_40_1) ?_
  refine X_putI rfl rfl rfl ((congrFun F.1 185).trans s_185) rfl rfl rfl rfl ?_
  refine X_aload_n rfl rfl rfl rfl ?_
  refine X_aload_n rfl rfl rfl rfl ?_
  refine X_getI (v := (17 : Int32)) rfl rfl rfl ((congrFun F.1 40).trans s_40) rfl ((congrFun (F.2.2 40 (by decide)).1 2).trans i_40_2) ?_
  refine X_putI rfl rfl rfl ((congrFun F.1 185).trans s_185) rfl rfl rfl rfl ?_
  refine X_aload_n rfl rfl rfl rfl ?_
  refine X_aload_n rfl rfl rfl rfl ?_
  refine X_getI (v := (0 : Int32)) rfl rfl rfl ((congrFun F.1 40).trans s_40) rfl ((congrFun (F.2.2 40 (by decide)).1 3).trans i_40_3) ?_
  refine X_putI rfl rfl rfl ((congrFun F.1 185).trans s_185) rfl rfl rfl rfl ?_
  refine X_aload_n rfl rfl rfl rfl ?_
  refine X_getR (a := 41) rfl rfl rfl ((congrFun F.1 40).trans s_40) rfl ((congrFun (F.2.1 40 (by decide)) 4).trans r_40_4) ?_
  refine X_iconst (v := (0 : Int32)) rfl rfl rfl ?_
  refine X_aload_n rfl rfl rfl rfl ?_
  refine X_getR (a := 186) rfl rfl rfl ((congrFun F.1 185).trans s_185) rfl ((congrFun (F.2.1 185 (by decide)) 4).trans r_185_4) ?_
  refine X_iconst (v := (0 : Int32)) rfl rfl rfl ?_
  refine X_bipush (v := (26 : Int32)) rfl rfl rfl ?_
  refine X_copy (sp' := 0) (dp' := 0) (n' := 26) rfl rfl rfl ((congrFun F.1 41).trans s_41) ((congrFun F.1 186).trans s_186) (by decide) (by decide) (by decide) rfl rfl rfl (by decide) (by decide) (Nat.le_of_ble_eq_true rfl) ?_
  refine X_aload_n rfl rfl rfl rfl ?_
  refine X_getR (a := 42) rfl rfl rfl ((congrFun F.1 40).trans s_40) rfl ((congrFun (F.2.1 40 (by decide)) 5).trans r_40_5) ?_
  refine X_iconst (v := (0 : Int32)) rfl rfl rfl ?_
  refine X_aload_n rfl rfl rfl rfl ?_
  refine X_getR (a := 187) rfl rfl rfl ((congrFun F.1 185).trans s_185) rfl ((congrFun (F.2.1 185 (by decide)) 5).trans r_185_5) ?_
  refine X_iconst (v := (0 : Int32)) rfl rfl rfl ?_
  refine X_bipush (v := (26 : Int32)) rfl rfl rfl ?_
  refine X_copy (sp' := 0) (dp' := 0) (n' := 26) rfl rfl rfl ((congrFun F.1 42).trans s_42) ((congrFun F.1 187).trans s_187) (by decide) (by decide) (by decide) rfl rfl rfl (by decide) (by decide) (Nat.le_of_ble_eq_true rfl) ?_
  refine X_aload_n rfl rfl rfl rfl ?_
  refine X_getR (a := 43) rfl rfl rfl ((congrFun F.1 40).trans s_40) rfl ((congrFun (F.2.1 40 (by decide)) 6).trans r_40_6) ?_
  refine X_iconst (v := (0 : Int32)) rfl rfl rfl ?_
  refine X_aload_n rfl rfl rfl rfl ?_
  refine X_getR (a := 188) rfl rfl rfl ((congrFun F.1 185).trans s_185) rfl ((congrFun (F.2.1 185 (by decide)) 6).trans r_185_6) ?_
  refine X_iconst (v := (0 : Int32)) rfl rfl rfl ?_
  refine X_bipush (v := (26 : Int32)) rfl rfl rfl ?_
  refine X_copy (sp' := 0) (dp' := 0) (n' := 26) rfl rfl rfl ((congrFun F.1 43).trans s_43) ((congrFun F.1 188).trans s_188) (by decide) (by decide) (by decide) rfl rfl rfl (by decide) (by decide) (Nat.le_of_ble_eq_true rfl) ?_
  refine LW_return (st := []) rfl rfl ?_
  refine X_iinc (v := (7 : Int32)) (ls' := [some (.ref 159), some (.ref 14), some (.int (7 : Int32))]) rfl rfl rfl rfl rfl ?_
  refine LW_goto (tgt := 18) rfl rfl ?_
  refine X_iload_n rfl rfl rfl rfl ?_
  refine X_bipush (v := (30 : Int32)) rfl rfl rfl ?_
  refine X_icmp_ge (tgt := 45) rfl rfl rfl (fun q => absurd q (by decide)) (fun _ => ?_)
  refine X_aload_n rfl rfl rfl rfl ?_
  refine X_getR (a := 160) rfl rfl rfl ((congrFun F.1 159).trans s_159) rfl ((congrFun (F.2.1 159 (by decide)) 2).trans r_159_2) ?_
  refine X_iload_n rfl rfl rfl rfl ?_
  refine X_aald (a := 189) (t0 := 3) rfl rfl ((congrFun F.1 160).trans s_160) rfl (vp_in_d rfl) ((congrFun (F.2.1 160 (by decide)) 7).trans r_160_7) ?_
  refine X_aload_n rfl rfl rfl rfl ?_
  refine X_getR (a := 15) rfl rfl rfl ((congrFun F.1 14).trans s_14) rfl ((congrFun (F.2.1 14 (by decide)) 2).trans r_14_2) ?_
  refine X_iload_n rfl rfl rfl rfl ?_
  refine X_aald (a := 44) (t0 := 3) rfl rfl ((congrFun F.1 15).trans s_15) rfl (vp_in_d rfl) ((congrFun (F.2.1 15 (by decide)) 7).trans r_15_7) ?_
  refine X_callV (as := [.ref 44]) (st := []) rfl rfl rfl (by decide) rfl (Nat.le_of_ble_eq_true rfl) (by decide) (Nat.le_of_ble_eq_true rfl) rfl ((congrFun F.1 189).trans s_189) (by decide) ?_
  refine LW_ls (ls' := [some (.ref 189), some (.ref 44)]) rfl ?_
  refine X_aload_n rfl rfl rfl rfl ?_
  refine X_aload_n rfl rfl rfl rfl ?_
  refine X_getI (v := (0 : Int32)) rfl rfl rfl ((congrFun F.1 44).trans s_44) rfl ((congrFun (F.2.2 44 (by decide)).1 0).trans i_44_0) ?_
  refine X_putI rfl rfl rfl ((congrFun F.1 189).trans s_189) rfl rfl rfl rfl ?_
  refine X_aload_n rfl rfl rfl rfl ?_
  refine X_aload_n rfl rfl rfl rfl ?_
  refine X_getI (v := (0 : Int32)) rfl rfl rfl ((congrFun F.1 44).trans s_44) rfl ((congrFun (F.2.2 44 (by decide)).1 1).trans i_44_1) ?_
  refine X_putI rfl rfl rfl ((congrFun F.1 189).trans s_189) rfl rfl rfl rfl ?_
  refine X_aload_n rfl rfl rfl rfl ?_
  refine X_aload_n rfl rfl rfl rfl ?_
  refine X_getI (v := (17 : Int32)) rfl rfl rfl ((congrFun F.1 44).trans s_44) rfl ((congrFun (F.2.2 44 (by decide)).1 2).trans i_44_2) ?_
  refine X_putI rfl rfl rfl ((congrFun F.1 189).trans s_189) rfl rfl rfl rfl ?_
  refine X_aload_n rfl rfl rfl rfl ?_
  refine X_aload_n rfl rfl rfl rfl ?_
  refine X_getI (v := (0 : Int32)) rfl rfl rfl ((congrFun F.1 44).trans s_44) rfl ((congrFun (F.2.2 44 (by decide)).1 3).trans i_44_3) ?_
  refine X_putI rfl rfl rfl ((congrFun F.1 189).trans s_189) rfl rfl rfl rfl ?_
  refine X_aload_n rfl rfl rfl rfl ?_
  refine X_getR (a := 45) rfl rfl rfl ((congrFun F.1 44).trans s_44) rfl ((congrFun (F.2.1 44 (by decide)) 4).trans r_44_4) ?_
  refine X_iconst (v := (0 : Int32)) rfl rfl rfl ?_
  refine X_aload_n rfl rfl rfl rfl ?_
  refine X_getR (a := 190) rfl rfl rfl ((congrFun F.1 189).trans s_189) rfl ((congrFun (F.2.1 189 (by decide)) 4).trans r_189_4) ?_
  refine X_iconst (v := (0 : Int32)) rfl rfl rfl ?_
  refine X_bipush (v := (26 : Int32)) rfl rfl rfl ?_
  refine X_copy (sp' := 0) (dp' := 0) (n' := 26) rfl rfl rfl ((congrFun F.1 45).trans s_45) ((congrFun F.1 190).trans s_190) (by decide) (by decide) (by decide) rfl rfl rfl (by decide) (by decide) (Nat.le_of_ble_eq_true rfl) ?_
  refine X_aload_n rfl rfl rfl rfl ?_
  refine X_getR (a := 46) rfl rfl rfl ((congrFun F.1 44).trans s_44) rfl ((congrFun (F.2.1 44 (by decide)) 5).trans r_44_5) ?_
  refine X_iconst (v := (0 : Int32)) rfl rfl rfl ?_
  refine X_aload_n rfl rfl rfl rfl ?_
  refine X_getR (a := 191) rfl rfl rfl ((congrFun F.1 189).trans s_189) rfl ((congrFun (F.2.1 189 (by decide)) 5).trans r_189_5) ?_
  refine X_iconst (v := (0 : Int32)) rfl rfl rfl ?_
  refine X_bipush (v := (26 : Int32)) rfl rfl rfl ?_
  refine X_copy (sp' := 0) (dp' := 0) (n' := 26) rfl rfl rfl ((congrFun F.1 46).trans s_46) ((congrFun F.1 191).trans s_191) (by decide) (by decide) (by decide) rfl rfl rfl (by decide) (by decide) (Nat.le_of_ble_eq_true rfl) ?_
  refine X_aload_n rfl rfl rfl rfl ?_
  refine X_getR (a := 47) rfl rfl rfl ((congrFun F.1 44).trans s_44) rfl ((congrFun (F.2.1 44 (by decide)) 6).trans r_44_6) ?_
  refine X_iconst (v := (0 : Int32)) rfl rfl rfl ?_
  refine X_aload_n rfl rfl rfl rfl ?_
  refine X_getR (a := 192) rfl rfl rfl ((congrFun F.1 189).trans s_189) rfl ((congrFun (F.2.1 189 (by decide)) 6).trans r_189_6) ?_
  refine X_iconst (v := (0 : Int32)) rfl rfl rfl ?_
  refine X_bipush (v := (26 : Int32)) rfl rfl rfl ?_
  refine X_copy (sp' := 0) (dp' := 0) (n' := 26) rfl rfl rfl ((congrFun F.1 47).trans s_47) ((congrFun F.1 192).trans s_192) (by decide) (by decide) (by decide) rfl rfl rfl (by decide) (by decide) (Nat.le_of_ble_eq_true rfl) ?_
  refine LW_return (st := []) rfl rfl ?_
  refine X_iinc (v := (8 : Int32)) (ls' := [some (.ref 159), some (.ref 14), some (.int (8 : Int32))]) rfl rfl rfl rfl rfl ?_
  refine LW_goto (tgt := 18) rfl rfl ?_
  refine X_iload_n rfl rfl rfl rfl ?_
  refine X_bipush (v := (30 : Int32)) rfl rfl rfl ?_
  refine X_icmp_ge (tgt := 45) rfl rfl rfl (fun q => absurd q (by decide)) (fun _ => ?_)
  refine X_aload_n rfl rfl rfl rfl ?_
  refine X_getR (a := 160) rfl rfl rfl ((congrFun F.1 159).trans s_159) rfl ((congrFun (F.2.1 159 (by decide)) 2).trans r_159_2) ?_
  refine X_iload_n rfl rfl rfl rfl ?_
  refine X_aald (a := 193) (t0 := 3) rfl rfl ((congrFun F.1 160).trans s_160) rfl (vp_in_d rfl) ((congrFun (F.2.1 160 (by decide)) 8).trans r_160_8) ?_
  refine X_aload_n rfl rfl rfl rfl ?_
  refine X_getR (a := 15) rfl rfl rfl ((congrFun F.1 14).trans s_14) rfl ((congrFun (F.2.1 14 (by decide)) 2).trans r_14_2) ?_
  refine X_iload_n rfl rfl rfl rfl ?_
  refine X_aald (a := 48) (t0 := 3) rfl rfl ((congrFun F.1 15).trans s_15) rfl (vp_in_d rfl) ((congrFun (F.2.1 15 (by decide)) 8).trans r_15_8) ?_
  refine X_callV (as := [.ref 48]) (st := []) rfl rfl rfl (by decide) rfl (Nat.le_of_ble_eq_true rfl) (by decide) (Nat.le_of_ble_eq_true rfl) rfl ((congrFun F.1 193).trans s_193) (by decide) ?_
  refine LW_ls (ls' := [some (.ref 193), some (.ref 48)]) rfl ?_
  refine X_aload_n rfl rfl rfl rfl ?_
  refine X_aload_n rfl rfl rfl rfl ?_
  refine X_getI (v := (0 : Int32)) rfl rfl rfl ((congrFun F.1 48).trans s_48) rfl ((congrFun (F.2.2 48 (by decide)).1 0).trans i_48_0) ?_
  refine X_putI rfl rfl rfl ((congrFun F.1 193).trans s_193) rfl rfl rfl rfl ?_
  refine X_aload_n rfl rfl rfl rfl ?_
  refine X_aload_n rfl rfl rfl rfl ?_
  refine X_getI (v := (0 : Int32)) rfl rfl rfl ((congrFun F.1 48).trans s_48) rfl ((congrFun (F.2.2 48 (by decide)).1 1).trans i_48_1) ?_
  refine X_putI rfl rfl rfl ((congrFun F.1 193).trans s_193) rfl rfl rfl rfl ?_
  refine X_aload_n rfl rfl rfl rfl ?_
  refine X_aload_n rfl rfl rfl rfl ?_
  refine X_getI (v := (17 : Int32)) rfl rfl rfl ((congrFun F.1 48).trans s_48) rfl ((congrFun (F.2.2 48 (by decide)).1 2).trans i_48_2) ?_
  refine X_putI rfl rfl rfl ((congrFun F.1 193).trans s_193) rfl rfl rfl rfl ?_
  refine X_aload_n rfl rfl rfl rfl ?_
  refine X_aload_n rfl rfl rfl rfl ?_
  refine X_getI (v := (0 : Int32)) rfl rfl rfl ((congrFun F.1 48).trans s_48) rfl ((congrFun (F.2.2 48 (by decide)).1 3).trans i_48_3) ?_
  refine X_putI rfl rfl rfl ((congrFun F.1 193).trans s_193) rfl rfl rfl rfl ?_
  refine X_aload_n rfl rfl rfl rfl ?_
  refine X_getR (a := 49) rfl rfl rfl ((congrFun F.1 48).trans s_48) rfl ((congrFun (F.2.1 48 (by decide)) 4).trans r_48_4) ?_
  refine X_iconst (v := (0 : Int32)) rfl rfl rfl ?_
  refine X_aload_n rfl rfl rfl rfl ?_
  refine X_getR (a := 194) rfl rfl rfl ((congrFun F.1 193).trans s_193) rfl ((congrFun (F.2.1 193 (by decide)) 4).trans r_193_4) ?_
  refine X_iconst (v := (0 : Int32)) rfl rfl rfl ?_
  refine X_bipush (v := (26 : Int32)) rfl rfl rfl ?_
  refine X_copy (sp' := 0) (dp' := 0) (n' := 26) rfl rfl rfl ((congrFun F.1 49).trans s_49) ((congrFun F.1 194).trans s_194) (by decide) (by decide) (by decide) rfl rfl rfl (by decide) (by decide) (Nat.le_of_ble_eq_true rfl) ?_
  refine X_aload_n rfl rfl rfl rfl ?_
  refine X_getR (a := 50) rfl rfl rfl ((congrFun F.1 48).trans s_48) rfl ((congrFun (F.2.1 48 (by decide)) 5).trans r_48_5) ?_
  refine X_iconst (v := (0 : Int32)) rfl rfl rfl ?_
  refine X_aload_n rfl rfl rfl rfl ?_
  refine X_getR (a := 195) rfl rfl rfl ((congrFun F.1 193).trans s_193) rfl ((congrFun (F.2.1 193 (by decide)) 5).trans r_193_5) ?_
  refine X_iconst (v := (0 : Int32)) rfl rfl rfl ?_
  refine X_bipush (v := (26 : Int32)) rfl rfl rfl ?_
  refine X_copy (sp' := 0) (dp' := 0) (n' := 26) rfl rfl rfl ((congrFun F.1 50).trans s_50) ((congrFun F.1 195).trans s_195) (by decide) (by decide) (by decide) rfl rfl rfl (by decide) (by decide) (Nat.le_of_ble_eq_true rfl) ?_
  refine X_aload_n rfl rfl rfl rfl ?_
  refine X_getR (a := 51) rfl rfl rfl ((congrFun F.1 48).trans s_48) rfl ((congrFun (F.2.1 48 (by decide)) 6).trans r_48_6) ?_
  refine X_iconst (v := (0 : Int32)) rfl rfl rfl ?_
  refine X_aload_n rfl rfl rfl rfl ?_
  refine X_getR (a := 196) rfl rfl rfl ((congrFun F.1 193).trans s_193) rfl ((congrFun (F.2.1 193 (by decide)) 6).trans r_193_6) ?_
  refine X_iconst (v := (0 : Int32)) rfl rfl rfl ?_
  refine X_bipush (v := (26 : Int32)) rfl rfl rfl ?_
  refine X_copy (sp' := 0) (dp' := 0) (n' := 26) rfl rfl rfl ((congrFun F.1 51).trans s_51) ((congrFun F.1 196).trans s_196) (by decide) (by decide) (by decide) rfl rfl rfl (by decide) (by decide) (Nat.le_of_ble_eq_true rfl) ?_
  refine LW_return (st := []) rfl rfl ?_
  refine X_iinc (v := (9 : Int32)) (ls' := [some (.ref 159), some (.ref 14), some (.int (9 : Int32))]) rfl rfl rfl rfl rfl ?_
  refine LW_goto (tgt := 18) rfl rfl ?_
  refine X_iload_n rfl rfl rfl rfl ?_
  refine X_bipush (v := (30 : Int32)) rfl rfl rfl ?_
  refine X_icmp_ge (tgt := 45) rfl rfl rfl (fun q => absurd q (by decide)) (fun _ => ?_)
  refine X_aload_n rfl rfl rfl rfl ?_
  refine X_getR (a := 160) rfl rfl rfl ((congrFun F.1 159).trans s_159) rfl ((congrFun (F.2.1 159 (by decide)) 2).trans r_159_2) ?_
  refine X_iload_n rfl rfl rfl rfl ?_
  refine X_aald (a := 197) (t0 := 3) rfl rfl ((congrFun F.1 160).trans s_160) rfl (vp_in_d rfl) ((congrFun (F.2.1 160 (by decide)) 9).trans r_160_9) ?_
  refine X_aload_n rfl rfl rfl rfl ?_
  refine X_getR (a := 15) rfl rfl rfl ((congrFun F.1 14).trans s_14) rfl ((congrFun (F.2.1 14 (by decide)) 2).trans r_14_2) ?_
  refine X_iload_n rfl rfl rfl rfl ?_
  refine X_aald (a := 52) (t0 := 3) rfl rfl ((congrFun F.1 15).trans s_15) rfl (vp_in_d rfl) ((congrFun (F.2.1 15 (by decide)) 9).trans r_15_9) ?_
  refine X_callV (as := [.ref 52]) (st := []) rfl rfl rfl (by decide) rfl (Nat.le_of_ble_eq_true rfl) (by decide) (Nat.le_of_ble_eq_true rfl) rfl ((congrFun F.1 197).trans s_197) (by decide) ?_
  refine LW_ls (ls' := [some (.ref 197), some (.ref 52)]) rfl ?_
  refine X_aload_n rfl rfl rfl rfl ?_
  refine X_aload_n rfl rfl rfl rfl ?_
  refine X_getI (v := (0 : Int32)) rfl rfl rfl ((congrFun F.1 52).trans s_52) rfl ((congrFun (F.2.2 52 (by decide)).1 0).trans i_52_0) ?_
  refine X_putI rfl rfl rfl ((congrFun F.1 197).trans s_197) rfl rfl rfl rfl ?_
  refine X_aload_n rfl rfl rfl rfl ?_
  refine X_aload_n rfl rfl rfl rfl ?_
  refine X_getI (v := (0 : Int32)) rfl rfl rfl ((congrFun F.1 52).trans s_52) rfl ((congrFun (F.2.2 52 (by decide)).1 1).trans i_52_1) ?_
  refine X_putI rfl rfl rfl ((congrFun F.1 197).trans s_197) rfl rfl rfl rfl ?_
  refine X_aload_n rfl rfl rfl rfl ?_
  refine X_aload_n rfl rfl rfl rfl ?_
  refine X_getI (v := (17 : Int32)) rfl rfl rfl ((congrFun F.1 52).trans s_52) rfl ((congrFun (F.2.2 52 (by decide)).1 2).trans i_52_2) ?_
  refine X_putI rfl rfl rfl ((congrFun F.1 197).trans s_197) rfl rfl rfl rfl ?_
  refine X_aload_n rfl rfl rfl rfl ?_
  refine X_aload_n rfl rfl rfl rfl ?_
  refine X_getI (v := (0 : Int32)) rfl rfl rfl ((congrFun F.1 52).trans s_52) rfl ((congrFun (F.2.2 52 (by decide)).1 3).trans i_52_3) ?_
  refine X_putI rfl rfl rfl ((congrFun F.1 197).trans s_197) rfl rfl rfl rfl ?_
  refine X_aload_n rfl rfl rfl rfl ?_
  refine X_getR (a := 53) rfl rfl rfl ((congrFun F.1 52).trans s_52) rfl ((congrFun (F.2.1 52 (by decide)) 4).trans r_52_4) ?_
  refine X_iconst (v := (0 : Int32)) rfl rfl rfl ?_
  refine X_aload_n rfl rfl rfl rfl ?_
  refine X_getR (a := 198) rfl rfl rfl ((congrFun F.1 197).trans s_197) rfl ((congrFun (F.2.1 197 (by decide)) 4).trans r_197_4) ?_
  refine X_iconst (v := (0 : Int32)) rfl rfl rfl ?_
  refine X_bipush (v := (26 : Int32)) rfl rfl rfl ?_
  refine X_copy (sp' := 0) (dp' := 0) (n' := 26) rfl rfl rfl ((congrFun F.1 53).trans s_53) ((congrFun F.1 198).trans s_198) (by decide) (by decide) (by decide) rfl rfl rfl (by decide) (by decide) (Nat.le_of_ble_eq_true rfl) ?_
  refine X_aload_n rfl rfl rfl rfl ?_
  refine X_getR (a := 54) rfl rfl rfl ((congrFun F.1 52).trans s_52) rfl ((congrFun (F.2.1 52 (by decide)) 5).trans r_52_5) ?_
  refine X_iconst (v := (0 : Int32)) rfl rfl rfl ?_
  refine X_aload_n rfl rfl rfl rfl ?_
  refine X_getR (a := 199) rfl rfl rfl ((congrFun F.1 197).trans s_197) rfl ((congrFun (F.2.1 197 (by decide)) 5).trans r_197_5) ?_
  refine X_iconst (v := (0 : Int32)) rfl rfl rfl ?_
  refine X_bipush (v := (26 : Int32)) rfl rfl rfl ?_
  refine X_copy (sp' := 0) (dp' := 0) (n' := 26) rfl rfl rfl ((congrFun F.1 54).trans s_54) ((congrFun F.1 199).trans s_199) (by decide) (by decide) (by decide) rfl rfl rfl (by decide) (by decide) (Nat.le_of_ble_eq_true rfl) ?_
  refine X_aload_n rfl rfl rfl rfl ?_
  refine X_getR (a := 55) rfl rfl rfl ((congrFun F.1 52).trans s_52) rfl ((congrFun (F.2.1 52 (by decide)) 6).trans r_52_6) ?_
  refine X_iconst (v := (0 : Int32)) rfl rfl rfl ?_
  refine X_aload_n rfl rfl rfl rfl ?_
  refine X_getR (a := 200) rfl rfl rfl ((congrFun F.1 197).trans s_197) rfl ((congrFun (F.2.1 197 (by decide)) 6).trans r_197_6) ?_
  refine X_iconst (v := (0 : Int32)) rfl rfl rfl ?_
  refine X_bipush (v := (26 : Int32)) rfl rfl rfl ?_
  refine X_copy (sp' := 0) (dp' := 0) (n' := 26) rfl rfl rfl ((congrFun F.1 55).trans s_55) ((congrFun F.1 200).trans s_200) (by decide) (by decide) (by decide) rfl rfl rfl (by decide) (by decide) (Nat.le_of_ble_eq_true rfl) ?_
  refine LW_return (st := []) rfl rfl ?_
  refine X_iinc (v := (10 : Int32)) (ls' := [some (.ref 159), some (.ref 14), some (.int (10 : Int32))]) rfl rfl rfl rfl rfl ?_
  refine LW_goto (tgt := 18) rfl rfl ?_
  refine X_iload_n rfl rfl rfl rfl ?_
  refine X_bipush (v := (30 : Int32)) rfl rfl rfl ?_
  refine X_icmp_ge (tgt := 45) rfl rfl rfl (fun q => absurd q (by decide)) (fun _ => ?_)
  refine X_aload_n rfl rfl rfl rfl ?_
  refine X_getR (a := 160) rfl rfl rfl ((congrFun F.1 159).trans s_159) rfl ((congrFun (F.2.1 159 (by decide)) 2).trans r_159_2) ?_
  refine X_iload_n rfl rfl rfl rfl ?_
  refine X_aald (a := 201) (t0 := 3) rfl rfl ((congrFun F.1 160).trans s_160) rfl (vp_in_d rfl) ((congrFun (F.2.1 160 (by decide)) 10).trans r_160_10) ?_
  refine X_aload_n rfl rfl rfl rfl ?_
  refine X_getR (a := 15) rfl rfl rfl ((congrFun F.1 14).trans s_14) rfl ((congrFun (F.2.1 14 (by decide)) 2).trans r_14_2) ?_
  refine X_iload_n rfl rfl rfl rfl ?_
  refine X_aald (a := 56) (t0 := 3) rfl rfl ((congrFun F.1 15).trans s_15) rfl (vp_in_d rfl) ((congrFun (F.2.1 15 (by decide)) 10).trans r_15_10) ?_
  refine X_callV (as := [.ref 56]) (st := []) rfl rfl rfl (by decide) rfl (Nat.le_of_ble_eq_true rfl) (by decide) (Nat.le_of_ble_eq_true rfl) rfl ((congrFun F.1 201).trans s_201) (by decide) ?_
  refine LW_ls (ls' := [some (.ref 201), some (.ref 56)]) rfl ?_
  refine X_aload_n rfl rfl rfl rfl ?_
  refine X_aload_n rfl rfl rfl rfl ?_
  refine X_getI (v := (0 : Int32)) rfl rfl rfl ((congrFun F.1 56).trans s_56) rfl ((congrFun (F.2.2 56 (by decide)).1 0).trans i_56_0) ?_
  refine X_putI rfl rfl rfl ((congrFun F.1 201).trans s_201) rfl rfl rfl rfl ?_
  refine X_aload_n rfl rfl rfl rfl ?_
  refine X_aload_n rfl rfl rfl rfl ?_
  refine X_getI (v := (0 : Int32)) rfl rfl rfl ((congrFun F.1 56).trans s_56) rfl ((congrFun (F.2.2 56 (by decide)).1 1).trans i_56_1) ?_
  refine X_putI rfl rfl rfl ((congrFun F.1 201).trans s_201) rfl rfl rfl rfl ?_
  refine X_aload_n rfl rfl rfl rfl ?_
  refine X_aload_n rfl rfl rfl rfl ?_
  refine X_getI (v := (17 : Int32)) rfl rfl rfl ((congrFun F.1 56).trans s_56) rfl ((congrFun (F.2.2 56 (by decide)).1 2).trans i_56_2) ?_
  refine X_putI rfl rfl rfl ((congrFun F.1 201).trans s_201) rfl rfl rfl rfl ?_
  refine X_aload_n rfl rfl rfl rfl ?_
  refine X_aload_n rfl rfl rfl rfl ?_
  refine X_getI (v := (0 : Int32)) rfl rfl rfl ((congrFun F.1 56).trans s_56) rfl ((congrFun (F.2.2 56 (by decide)).1 3).trans i_56_3) ?_
  refine X_putI rfl rfl rfl ((congrFun F.1 201).trans s_201) rfl rfl rfl rfl ?_
  refine X_aload_n rfl rfl rfl rfl ?_
  refine X_getR (a := 57) rfl rfl rfl ((congrFun F.1 56).trans s_56) rfl ((congrFun (F.2.1 56 (by decide)) 4).trans r_56_4) ?_
  refine X_iconst (v := (0 : Int32)) rfl rfl rfl ?_
  refine X_aload_n rfl rfl rfl rfl ?_
  refine X_getR (a := 202) rfl rfl rfl ((congrFun F.1 201).trans s_201) rfl ((congrFun (F.2.1 201 (by decide)) 4).trans r_201_4) ?_
  refine X_iconst (v := (0 : Int32)) rfl rfl rfl ?_
  refine X_bipush (v := (26 : Int32)) rfl rfl rfl ?_
  refine X_copy (sp' := 0) (dp' := 0) (n' := 26) rfl rfl rfl ((congrFun F.1 57).trans s_57) ((congrFun F.1 202).trans s_202) (by decide) (by decide) (by decide) rfl rfl rfl (by decide) (by decide) (Nat.le_of_ble_eq_true rfl) ?_
  refine X_aload_n rfl rfl rfl rfl ?_
  refine X_getR (a := 58) rfl rfl rfl ((congrFun F.1 56).trans s_56) rfl ((congrFun (F.2.1 56 (by decide)) 5).trans r_56_5) ?_
  refine X_iconst (v := (0 : Int32)) rfl rfl rfl ?_
  refine X_aload_n rfl rfl rfl rfl ?_
  refine X_getR (a := 203) rfl rfl rfl ((congrFun F.1 201).trans s_201) rfl ((congrFun (F.2.1 201 (by decide)) 5).trans r_201_5) ?_
  refine X_iconst (v := (0 : Int32)) rfl rfl rfl ?_
  refine X_bipush (v := (26 : Int32)) rfl rfl rfl ?_
  refine X_copy (sp' := 0) (dp' := 0) (n' := 26) rfl rfl rfl ((congrFun F.1 58).trans s_58) ((congrFun F.1 203).trans s_203) (by decide) (by decide) (by decide) rfl rfl rfl (by decide) (by decide) (Nat.le_of_ble_eq_true rfl) ?_
  refine X_aload_n rfl rfl rfl rfl ?_
  refine X_getR (a := 59) rfl rfl rfl ((congrFun F.1 56).trans s_56) rfl ((congrFun (F.2.1 56 (by decide)) 6).trans r_56_6) ?_
  refine X_iconst (v := (0 : Int32)) rfl rfl rfl ?_
  refine X_aload_n rfl rfl rfl rfl ?_
  refine X_getR (a := 204) rfl rfl rfl ((congrFun F.1 201).trans s_201) rfl ((congrFun (F.2.1 201 (by decide)) 6).trans r_201_6) ?_
  refine X_iconst (v := (0 : Int32)) rfl rfl rfl ?_
  refine X_bipush (v := (26 : Int32)) rfl rfl rfl ?_
  refine X_copy (sp' := 0) (dp' := 0) (n' := 26) rfl rfl rfl ((congrFun F.1 59).trans s_59) ((congrFun F.1 204).trans s_204) (by decide) (by decide) (by decide) rfl rfl rfl (by decide) (by decide) (Nat.le_of_ble_eq_true rfl) ?_
  refine LW_return (st := []) rfl rfl ?_
  refine X_iinc (v := (11 : Int32)) (ls' := [some (.ref 159), some (.ref 14), some (.int (11 : Int32))]) rfl rfl rfl rfl rfl ?_
  refine LW_goto (tgt := 18) rfl rfl ?_
  refine X_iload_n rfl rfl rfl rfl ?_
  refine X_bipush (v := (30 : Int32)) rfl rfl rfl ?_
  refine X_icmp_ge (tgt := 45) rfl rfl rfl (fun q => absurd q (by decide)) (fun _ => ?_)
  refine X_aload_n rfl rfl rfl rfl ?_
  refine X_getR (a := 160) rfl rfl rfl ((congrFun F.1 159).trans s_159) rfl ((congrFun (F.2.1 159 (by decide)) 2).trans r_159_2) ?_
  refine X_iload_n rfl rfl rfl rfl ?_
  refine X_aald (a := 205) (t0 := 3) rfl rfl ((congrFun F.1 160).trans s_160) rfl (vp_in_d rfl) ((congrFun (F.2.1 160 (by decide)) 11).trans r_160_11) ?_
  refine X_aload_n rfl rfl rfl rfl ?_
  refine X_getR (a := 15) rfl rfl rfl ((congrFun F.1 14).trans s_14) rfl ((congrFun (F.2.1 14 (by decide)) 2).trans r_14_2) ?_
  refine X_iload_n rfl rfl rfl rfl ?_
  refine X_aald (a := 60) (t0 := 3) rfl rfl ((congrFun F.1 15).trans s_15) rfl (vp_in_d rfl) ((congrFun (F.2.1 15 (by decide)) 11).trans r_15_11) ?_
  refine X_callV (as := [.ref 60]) (st := []) rfl rfl rfl (by decide) rfl (Nat.le_of_ble_eq_true rfl) (by decide) (Nat.le_of_ble_eq_true rfl) rfl ((congrFun F.1 205).trans s_205) (by decide) ?_
  refine LW_ls (ls' := [some (.ref 205), some (.ref 60)]) rfl ?_
  refine X_aload_n rfl rfl rfl rfl ?_
  refine X_aload_n rfl rfl rfl rfl ?_
  refine X_getI (v := (0 : Int32)) rfl rfl rfl ((congrFun F.1 60).trans s_60) rfl ((congrFun (F.2.2 60 (by decide)).1 0).trans i_60_0) ?_
  refine X_putI rfl rfl rfl ((congrFun F.1 205).trans s_205) rfl rfl rfl rfl ?_
  refine X_aload_n rfl rfl rfl rfl ?_
  refine X_aload_n rfl rfl rfl rfl ?_
  refine X_getI (v := (0 : Int32)) rfl rfl rfl ((congrFun F.1 60).trans s_60) rfl ((congrFun (F.2.2 60 (by decide)).1 1).trans i_60_1) ?_
  refine X_putI rfl rfl rfl ((congrFun F.1 205).trans s_205) rfl rfl rfl rfl ?_
  refine X_aload_n rfl rfl rfl rfl ?_
  refine X_aload_n rfl rfl rfl rfl ?_
  refine X_getI (v := (17 : Int32)) rfl rfl rfl ((congrFun F.1 60).trans s_60) rfl ((congrFun (F.2.2 60 (by decide)).1 2).trans i_60_2) ?_
  refine X_putI rfl rfl rfl ((congrFun F.1 205).trans s_205) rfl rfl rfl rfl ?_
  refine X_aload_n rfl rfl rfl rfl ?_
  refine X_aload_n rfl rfl rfl rfl ?_
  refine X_getI (v := (0 : Int32)) rfl rfl rfl ((congrFun F.1 60).trans s_60) rfl ((congrFun (F.2.2 60 (by decide)).1 3).trans i_60_3) ?_
  refine X_putI rfl rfl rfl ((congrFun F.1 205).trans s_205) rfl rfl rfl rfl ?_
  refine X_aload_n rfl rfl rfl rfl ?_
  refine X_getR (a := 61) rfl rfl rfl ((congrFun F.1 60).trans s_60) rfl ((congrFun (F.2.1 60 (by decide)) 4).trans r_60_4) ?_
  refine X_iconst (v := (0 : Int32)) rfl rfl rfl ?_
  refine X_aload_n rfl rfl rfl rfl ?_
  refine X_getR (a := 206) rfl rfl rfl ((congrFun F.1 205).trans s_205) rfl ((congrFun (F.2.1 205 (by decide)) 4).trans r_205_4) ?_
  refine X_iconst (v := (0 : Int32)) rfl rfl rfl ?_
  refine X_bipush (v := (26 : Int32)) rfl rfl rfl ?_
  refine X_copy (sp' := 0) (dp' := 0) (n' := 26) rfl rfl rfl ((congrFun F.1 61).trans s_61) ((congrFun F.1 206).trans s_206) (by decide) (by decide) (by decide) rfl rfl rfl (by decide) (by decide) (Nat.le_of_ble_eq_true rfl) ?_
  refine X_aload_n rfl rfl rfl rfl ?_
  refine X_getR (a := 62) rfl rfl rfl ((congrFun F.1 60).trans s_60) rfl ((congrFun (F.2.1 60 (by decide)) 5).trans r_60_5) ?_
  refine X_iconst (v := (0 : Int32)) rfl rfl rfl ?_
  refine X_aload_n rfl rfl rfl rfl ?_
  refine X_getR (a := 207) rfl rfl rfl ((congrFun F.1 205).trans s_205) rfl ((congrFun (F.2.1 205 (by decide)) 5).trans r_205_5) ?_
  refine X_iconst (v := (0 : Int32)) rfl rfl rfl ?_
  refine X_bipush (v := (26 : Int32)) rfl rfl rfl ?_
  refine X_copy (sp' := 0) (dp' := 0) (n' := 26) rfl rfl rfl ((congrFun F.1 62).trans s_62) ((congrFun F.1 207).trans s_207) (by decide) (by decide) (by decide) rfl rfl rfl (by decide) (by decide) (Nat.le_of_ble_eq_true rfl) ?_
  refine X_aload_n rfl rfl rfl rfl ?_
  refine X_getR (a := 63) rfl rfl rfl ((congrFun F.1 60).trans s_60) rfl ((congrFun (F.2.1 60 (by decide)) 6).trans r_60_6) ?_
  refine X_iconst (v := (0 : Int32)) rfl rfl rfl ?_
  refine X_aload_n rfl rfl rfl rfl ?_
  refine X_getR (a := 208) rfl rfl rfl ((congrFun F.1 205).trans s_205) rfl ((congrFun (F.2.1 205 (by decide)) 6).trans r_205_6) ?_
  refine X_iconst (v := (0 : Int32)) rfl rfl rfl ?_
  refine X_bipush (v := (26 : Int32)) rfl rfl rfl ?_
  refine X_copy (sp' := 0) (dp' := 0) (n' := 26) rfl rfl rfl ((congrFun F.1 63).trans s_63) ((congrFun F.1 208).trans s_208) (by decide) (by decide) (by decide) rfl rfl rfl (by decide) (by decide) (Nat.le_of_ble_eq_true rfl) ?_
  refine LW_return (st := []) rfl rfl ?_
  refine X_iinc (v := (12 : Int32)) (ls' := [some (.ref 159), some (.ref 14), some (.int (12 : Int32))]) rfl rfl rfl rfl rfl ?_
  refine LW_goto (tgt := 18) rfl rfl ?_
  refine X_iload_n rfl rfl rfl rfl ?_
  refine X_bipush (v := (30 : Int32)) rfl rfl rfl ?_
  refine X_icmp_ge (tgt := 45) rfl rfl rfl (fun q => absurd q (by decide)) (fun _ => ?_)
  refine X_aload_n rfl rfl rfl rfl ?_
  refine X_getR (a := 160) rfl rfl rfl ((congrFun F.1 159).trans s_159) rfl ((congrFun (F.2.1 159 (by decide)) 2).trans r_159_2) ?_
  refine X_iload_n rfl rfl rfl rfl ?_
  refine X_aald (a := 209) (t0 := 3) rfl rfl ((congrFun F.1 160).trans s_160) rfl (vp_in_d rfl) ((congrFun (F.2.1 160 (by decide)) 12).trans r_160_12) ?_
  refine X_aload_n rfl rfl rfl rfl ?_
  refine X_getR (a := 15) rfl rfl rfl ((congrFun F.1 14).trans s_14) rfl ((congrFun (F.2.1 14 (by decide)) 2).trans r_14_2) ?_
  refine X_iload_n rfl rfl rfl rfl ?_
  refine X_aald (a := 64) (t0 := 3) rfl rfl ((congrFun F.1 15).trans s_15) rfl (vp_in_d rfl) ((congrFun (F.2.1 15 (by decide)) 12).trans r_15_12) ?_
  refine X_callV (as := [.ref 64]) (st := []) rfl rfl rfl (by decide) rfl (Nat.le_of_ble_eq_true rfl) (by decide) (Nat.le_of_ble_eq_true rfl) rfl ((congrFun F.1 209).trans s_209) (by decide) ?_
  refine LW_ls (ls' := [some (.ref 209), some (.ref 64)]) rfl ?_
  refine X_aload_n rfl rfl rfl rfl ?_
  refine X_aload_n rfl rfl rfl rfl ?_
  refine X_getI (v := (0 : Int32)) rfl rfl rfl ((congrFun F.1 64).trans s_64) rfl ((congrFun (F.2.2 64 (by decide)).1 0).trans i_64_0) ?_
  refine X_putI rfl rfl rfl ((congrFun F.1 209).trans s_209) rfl rfl rfl rfl ?_
  refine X_aload_n rfl rfl rfl rfl ?_
  refine X_aload_n rfl rfl rfl rfl ?_
  refine X_getI (v := (0 : Int32)) rfl rfl rfl ((congrFun F.1 64).trans s_64) rfl ((congrFun (F.2.2 64 (by decide)).1 1).trans i_64_1) ?_
  refine X_putI rfl rfl rfl ((congrFun F.1 209).trans s_209) rfl rfl rfl rfl ?_
  refine X_aload_n rfl rfl rfl rfl ?_
  refine X_aload_n rfl rfl rfl rfl ?_
  refine X_getI (v := (17 : Int32)) rfl rfl rfl ((congrFun F.1 64).trans s_64) rfl ((congrFun (F.2.2 64 (by decide)).1 2).trans i_64_2) ?_
  refine X_putI rfl rfl rfl ((congrFun F.1 209).trans s_209) rfl rfl rfl rfl ?_
  refine X_aload_n rfl rfl rfl rfl ?_
  refine X_aload_n rfl rfl rfl rfl ?_
  refine X_getI (v := (0 : Int32)) rfl rfl rfl ((congrFun F.1 64).trans s_64) rfl ((congrFun (F.2.2 64 (by decide)).1 3).trans i_64_3) ?_
  refine X_putI rfl rfl rfl ((congrFun F.1 209).trans s_209) rfl rfl rfl rfl ?_
  refine X_aload_n rfl rfl rfl rfl ?_
  refine X_getR (a := 65) rfl rfl rfl ((congrFun F.1 64).trans s_64) rfl ((congrFun (F.2.1 64 (by decide)) 4).trans r_64_4) ?_
  refine X_iconst (v := (0 : Int32)) rfl rfl rfl ?_
  refine X_aload_n rfl rfl rfl rfl ?_
  refine X_getR (a := 210) rfl rfl rfl ((congrFun F.1 209).trans s_209) rfl ((congrFun (F.2.1 209 (by decide)) 4).trans r_209_4) ?_
  refine X_iconst (v := (0 : Int32)) rfl rfl rfl ?_
  refine X_bipush (v := (26 : Int32)) rfl rfl rfl ?_
  refine X_copy (sp' := 0) (dp' := 0) (n' := 26) rfl rfl rfl ((congrFun F.1 65).trans s_65) ((congrFun F.1 210).trans s_210) (by decide) (by decide) (by decide) rfl rfl rfl (by decide) (by decide) (Nat.le_of_ble_eq_true rfl) ?_
  refine X_aload_n rfl rfl rfl rfl ?_
  refine X_getR (a := 66) rfl rfl rfl ((congrFun F.1 64).trans s_64) rfl ((congrFun (F.2.1 64 (by decide)) 5).trans r_64_5) ?_
  refine X_iconst (v := (0 : Int32)) rfl rfl rfl ?_
  refine X_aload_n rfl rfl rfl rfl ?_
  refine X_getR (a := 211) rfl rfl rfl ((congrFun F.1 209).trans s_209) rfl ((congrFun (F.2.1 209 (by decide)) 5).trans r_209_5) ?_
  refine X_iconst (v := (0 : Int32)) rfl rfl rfl ?_
  refine X_bipush (v := (26 : Int32)) rfl rfl rfl ?_
  refine X_copy (sp' := 0) (dp' := 0) (n' := 26) rfl rfl rfl ((congrFun F.1 66).trans s_66) ((congrFun F.1 211).trans s_211) (by decide) (by decide) (by decide) rfl rfl rfl (by decide) (by decide) (Nat.le_of_ble_eq_true rfl) ?_
  refine X_aload_n rfl rfl rfl rfl ?_
  refine X_getR (a := 67) rfl rfl rfl ((congrFun F.1 64).trans s_64) rfl ((congrFun (F.2.1 64 (by decide)) 6).trans r_64_6) ?_
  refine X_iconst (v := (0 : Int32)) rfl rfl rfl ?_
  refine X_aload_n rfl rfl rfl rfl ?_
  refine X_getR (a := 212) rfl rfl rfl ((congrFun F.1 209).trans s_209) rfl ((congrFun (F.2.1 209 (by decide)) 6).trans r_209_6) ?_
  refine X_iconst (v := (0 : Int32)) rfl rfl rfl ?_
  refine X_bipush (v := (26 : Int32)) rfl rfl rfl ?_
  refine X_copy (sp' := 0) (dp' := 0) (n' := 26) rfl rfl rfl ((congrFun F.1 67).trans s_67) ((congrFun F.1 212).trans s_212) (by decide) (by decide) (by decide) rfl rfl rfl (by decide) (by decide) (Nat.le_of_ble_eq_true rfl) ?_
  refine LW_return (st := []) rfl rfl ?_
  refine X_iinc (v := (13 : Int32)) (ls' := [some (.ref 159), some (.ref 14), some (.int (13 : Int32))]) rfl rfl rfl rfl rfl ?_
  refine LW_goto (tgt := 18) rfl rfl ?_
  refine X_iload_n rfl rfl rfl rfl ?_
  refine X_bipush (v := (30 : Int32)) rfl rfl rfl ?_
  refine X_icmp_ge (tgt := 45) rfl rfl rfl (fun q => absurd q (by decide)) (fun _ => ?_)
  refine X_aload_n rfl rfl rfl rfl ?_
  refine X_getR (a := 160) rfl rfl rfl ((congrFun F.1 159).trans s_159) rfl ((congrFun (F.2.1 159 (by decide)) 2).trans r_159_2) ?_
  refine X_iload_n rfl rfl rfl rfl ?_
  refine X_aald (a := 213) (t0 := 3) rfl rfl ((congrFun F.1 160).trans s_160) rfl (vp_in_d rfl) ((congrFun (F.2.1 160 (by decide)) 13).trans r_160_13) ?_
  refine X_aload_n rfl rfl rfl rfl ?_
  refine X_getR (a := 15) rfl rfl rfl ((congrFun F.1 14).trans s_14) rfl ((congrFun (F.2.1 14 (by decide)) 2).trans r_14_2) ?_
  refine X_iload_n rfl rfl rfl rfl ?_
  refine X_aald (a := 68) (t0 := 3) rfl rfl ((congrFun F.1 15).trans s_15) rfl (vp_in_d rfl) ((congrFun (F.2.1 15 (by decide)) 13).trans r_15_13) ?_
  refine X_callV (as := [.ref 68]) (st := []) rfl rfl rfl (by decide) rfl (Nat.le_of_ble_eq_true rfl) (by decide) (Nat.le_of_ble_eq_true rfl) rfl ((congrFun F.1 213).trans s_213) (by decide) ?_
  refine LW_ls (ls' := [some (.ref 213), some (.ref 68)]) rfl ?_
  refine X_aload_n rfl rfl rfl rfl ?_
  refine X_aload_n rfl rfl rfl rfl ?_
  refine X_getI (v := (0 : Int32)) rfl rfl rfl ((congrFun F.1 68).trans s_68) rfl ((congrFun (F.2.2 68 (by decide)).1 0).trans i_68_0) ?_
  refine X_putI rfl rfl rfl ((congrFun F.1 213).trans s_213) rfl rfl rfl rfl ?_
  refine X_aload_n rfl rfl rfl rfl ?_
  refine X_aload_n rfl rfl rfl rfl ?_
  refine X_getI (v := (0 : Int32)) rfl rfl rfl ((congrFun F.1 68).trans s_68) rfl ((congrFun (F.2.2 68 (by decide)).1 1).trans i_68_1) ?_
  refine X_putI rfl rfl rfl ((congrFun F.1 213).trans s_213) rfl rfl rfl rfl ?_
  refine X_aload_n rfl rfl rfl rfl ?_
  refine X_aload_n rfl rfl rfl rfl ?_
  refine X_getI (v := (17 : Int32)) rfl rfl rfl ((congrFun F.1 68).trans s_68) rfl ((congrFun (F.2.2 68 (by decide)).1 2).trans i_68_2) ?_
  refine X_putI rfl rfl rfl ((congrFun F.1 213).trans s_213) rfl rfl rfl rfl ?_
  refine X_aload_n rfl rfl rfl rfl ?_
  refine X_aload_n rfl rfl rfl rfl ?_
  refine X_getI (v := (0 : Int32)) rfl rfl rfl ((congrFun F.1 68).trans s_68) rfl ((congrFun (F.2.2 68 (by decide)).1 3).trans i_68_3) ?_
  refine X_putI rfl rfl rfl ((congrFun F.1 213).trans s_213) rfl rfl rfl rfl ?_
  refine X_aload_n rfl rfl rfl rfl ?_
  refine X_getR (a := 69) rfl rfl rfl ((congrFun F.1 68).trans s_68) rfl ((congrFun (F.2.1 68 (by decide)) 4).trans r_68_4) ?_
  refine X_iconst (v := (0 : Int32)) rfl rfl rfl ?_
  refine X_aload_n rfl rfl rfl rfl ?_
  refine X_getR (a := 214) rfl rfl rfl ((congrFun F.1 213).trans s_213) rfl ((congrFun (F.2.1 213 (by decide)) 4).trans r_213_4) ?_
  refine X_iconst (v := (0 : Int32)) rfl rfl rfl ?_
  refine X_bipush (v := (26 : Int32)) rfl rfl rfl ?_
  refine X_copy (sp' := 0) (dp' := 0) (n' := 26) rfl rfl rfl ((congrFun F.1 69).trans s_69) ((congrFun F.1 214).trans s_214) (by decide) (by decide) (by decide) rfl rfl rfl (by decide) (by decide) (Nat.le_of_ble_eq_true rfl) ?_
  refine X_aload_n rfl rfl rfl rfl ?_
  refine X_getR (a := 70) rfl rfl rfl ((congrFun F.1 68).trans s_68) rfl ((congrFun (F.2.1 68 (by decide)) 5).trans r_68_5) ?_
  refine X_iconst (v := (0 : Int32)) rfl rfl rfl ?_
  refine X_aload_n rfl rfl rfl rfl ?_
  refine X_getR (a := 215) rfl rfl rfl ((congrFun F.1 213).trans s_213) rfl ((congrFun (F.2.1 213 (by decide)) 5).trans r_213_5) ?_
  refine X_iconst (v := (0 : Int32)) rfl rfl rfl ?_
  refine X_bipush (v := (26 : Int32)) rfl rfl rfl ?_
  refine X_copy (sp' := 0) (dp' := 0) (n' := 26) rfl rfl rfl ((congrFun F.1 70).trans s_70) ((congrFun F.1 215).trans s_215) (by decide) (by decide) (by decide) rfl rfl rfl (by decide) (by decide) (Nat.le_of_ble_eq_true rfl) ?_
  refine X_aload_n rfl rfl rfl rfl ?_
  refine X_getR (a := 71) rfl rfl rfl ((congrFun F.1 68).trans s_68) rfl ((congrFun (F.2.1 68 (by decide)) 6).trans r_68_6) ?_
  refine X_iconst (v := (0 : Int32)) rfl rfl rfl ?_
  refine X_aload_n rfl rfl rfl rfl ?_
  refine X_getR (a := 216) rfl rfl rfl ((congrFun F.1 213).trans s_213) rfl ((congrFun (F.2.1 213 (by decide)) 6).trans r_213_6) ?_
  refine X_iconst (v := (0 : Int32)) rfl rfl rfl ?_
  refine X_bipush (v := (26 : Int32)) rfl rfl rfl ?_
  refine X_copy (sp' := 0) (dp' := 0) (n' := 26) rfl rfl rfl ((congrFun F.1 71).trans s_71) ((congrFun F.1 216).trans s_216) (by decide) (by decide) (by decide) rfl rfl rfl (by decide) (by decide) (Nat.le_of_ble_eq_true rfl) ?_
  refine LW_return (st := []) rfl rfl ?_
  refine X_iinc (v := (14 : Int32)) (ls' := [some (.ref 159), some (.ref 14), some (.int (14 : Int32))]) rfl rfl rfl rfl rfl ?_
  refine LW_goto (tgt := 18) rfl rfl ?_
  refine X_iload_n rfl rfl rfl rfl ?_
  refine X_bipush (v := (30 : Int32)) rfl rfl rfl ?_
  refine X_icmp_ge (tgt := 45) rfl rfl rfl (fun q => absurd q (by decide)) (fun _ => ?_)
  refine X_aload_n rfl rfl rfl rfl ?_
  refine X_getR (a := 160) rfl rfl rfl ((congrFun F.1 159).trans s_159) rfl ((congrFun (F.2.1 159 (by decide)) 2).trans r_159_2) ?_
  refine X_iload_n rfl rfl rfl rfl ?_
  refine X_aald (a := 217) (t0 := 3) rfl rfl ((congrFun F.1 160).trans s_160) rfl (vp_in_d rfl) ((congrFun (F.2.1 160 (by decide)) 14).trans r_160_14) ?_
  refine X_aload_n rfl rfl rfl rfl ?_
  refine X_getR (a := 15) rfl rfl rfl ((congrFun F.1 14).trans s_14) rfl ((congrFun (F.2.1 14 (by decide)) 2).trans r_14_2) ?_
  refine X_iload_n rfl rfl rfl rfl ?_
  refine X_aald (a := 72) (t0 := 3) rfl rfl ((congrFun F.1 15).trans s_15) rfl (vp_in_d rfl) ((congrFun (F.2.1 15 (by decide)) 14).trans r_15_14) ?_
  refine X_callV (as := [.ref 72]) (st := []) rfl rfl rfl (by decide) rfl (Nat.le_of_ble_eq_true rfl) (by decide) (Nat.le_of_ble_eq_true rfl) rfl ((congrFun F.1 217).trans s_217) (by decide) ?_
  refine LW_ls (ls' := [some (.ref 217), some (.ref 72)]) rfl ?_
  refine X_aload_n rfl rfl rfl rfl ?_
  refine X_aload_n rfl rfl rfl rfl ?_
  refine X_getI (v := (0 : Int32)) rfl rfl rfl ((congrFun F.1 72).trans s_72) rfl ((congrFun (F.2.2 72 (by decide)).1 0).trans i_72_0) ?_
  refine X_putI rfl rfl rfl ((congrFun F.1 217).trans s_217) rfl rfl rfl rfl ?_
  refine X_aload_n rfl rfl rfl rfl ?_
  refine X_aload_n rfl rfl rfl rfl ?_
  refine X_getI (v := (0 : Int32)) rfl rfl rfl ((congrFun F.1 72).trans s_72) rfl ((congrFun (F.2.2 72 (by decide)).1 1).trans i_72_1) ?_
  refine X_putI rfl rfl rfl ((congrFun F.1 217).trans s_217) rfl rfl rfl rfl ?_
  refine X_aload_n rfl rfl rfl rfl ?_
  refine X_aload_n rfl rfl rfl rfl ?_
  refine X_getI (v := (17 : Int32)) rfl rfl rfl ((congrFun F.1 72).trans s_72) rfl ((congrFun (F.2.2 72 (by decide)).1 2).trans i_72_2) ?_
  refine X_putI rfl rfl rfl ((congrFun F.1 217).trans s_217) rfl rfl rfl rfl ?_
  refine X_aload_n rfl rfl rfl rfl ?_
  refine X_aload_n rfl rfl rfl rfl ?_
  refine X_getI (v := (0 : Int32)) rfl rfl rfl ((congrFun F.1 72).trans s_72) rfl ((congrFun (F.2.2 72 (by decide)).1 3).trans i_72_3) ?_
  refine X_putI rfl rfl rfl ((congrFun F.1 217).trans s_217) rfl rfl rfl rfl ?_
  refine X_aload_n rfl rfl rfl rfl ?_
  refine X_getR (a := 73) rfl rfl rfl ((congrFun F.1 72).trans s_72) rfl ((congrFun (F.2.1 72 (by decide)) 4).trans r_72_4) ?_
  refine X_iconst (v := (0 : Int32)) rfl rfl rfl ?_
  refine X_aload_n rfl rfl rfl rfl ?_
  refine X_getR (a := 218) rfl rfl rfl ((congrFun F.1 217).trans s_217) rfl ((congrFun (F.2.1 217 (by decide)) 4).trans r_217_4) ?_
  refine X_iconst (v := (0 : Int32)) rfl rfl rfl ?_
  refine X_bipush (v := (26 : Int32)) rfl rfl rfl ?_
  refine X_copy (sp' := 0) (dp' := 0) (n' := 26) rfl rfl rfl ((congrFun F.1 73).trans s_73) ((congrFun F.1 218).trans s_218) (by decide) (by decide) (by decide) rfl rfl rfl (by decide) (by decide) (Nat.le_of_ble_eq_true rfl) ?_
  refine X_aload_n rfl rfl rfl rfl ?_
  refine X_getR (a := 74) rfl rfl rfl ((congrFun F.1 72).trans s_72) rfl ((congrFun (F.2.1 72 (by decide)) 5).trans r_72_5) ?_
  refine X_iconst (v := (0 : Int32)) rfl rfl rfl ?_
  refine X_aload_n rfl rfl rfl rfl ?_
  refine X_getR (a := 219) rfl rfl rfl ((congrFun F.1 217).trans s_217) rfl ((congrFun (F.2.1 217 (by decide)) 5).trans r_217_5) ?_
  refine X_iconst (v := (0 : Int32)) rfl rfl rfl ?_
  refine X_bipush (v := (26 : Int32)) rfl rfl rfl ?_
  refine X_copy (sp' := 0) (dp' := 0) (n' := 26) rfl rfl rfl ((congrFun F.1 74).trans s_74) ((congrFun F.1 219).trans s_219) (by decide) (by decide) (by decide) rfl rfl rfl (by decide) (by decide) (Nat.le_of_ble_eq_true rfl) ?_
  refine X_aload_n rfl rfl rfl rfl ?_
  refine X_getR (a := 75) rfl rfl rfl ((congrFun F.1 72).trans s_72) rfl ((congrFun (F.2.1 72 (by decide)) 6).trans r_72_6) ?_
  refine X_iconst (v := (0 : Int32)) rfl rfl rfl ?_
  refine X_aload_n rfl rfl rfl rfl ?_
  refine X_getR (a := 220) rfl rfl rfl ((congrFun F.1 217).trans s_217) rfl ((congrFun (F.2.1 217 (by decide)) 6).trans r_217_6) ?_
  refine X_iconst (v := (0 : Int32)) rfl rfl rfl ?_
  refine X_bipush (v := (26 : Int32)) rfl rfl rfl ?_
  refine X_copy (sp' := 0) (dp' := 0) (n' := 26) rfl rfl rfl ((congrFun F.1 75).trans s_75) ((congrFun F.1 220).trans s_220) (by decide) (by decide) (by decide) rfl rfl rfl (by decide) (by decide) (Nat.le_of_ble_eq_true rfl) ?_
  refine LW_return (st := []) rfl rfl ?_
  refine X_iinc (v := (15 : Int32)) (ls' := [some (.ref 159), some (.ref 14), some (.int (15 : Int32))]) rfl rfl rfl rfl rfl ?_
  refine LW_goto (tgt := 18) rfl rfl ?_
  refine X_iload_n rfl rfl rfl rfl ?_
  refine X_bipush (v := (30 : Int32)) rfl rfl rfl ?_
  refine X_icmp_ge (tgt := 45) rfl rfl rfl (fun q => absurd q (by decide)) (fun _ => ?_)
  refine X_aload_n rfl rfl rfl rfl ?_
  refine X_getR (a := 160) rfl rfl rfl ((congrFun F.1 159).trans s_159) rfl ((congrFun (F.2.1 159 (by decide)) 2).trans r_159_2) ?_
  refine X_iload_n rfl rfl rfl rfl ?_
  refine X_aald (a := 221) (t0 := 3) rfl rfl ((congrFun F.1 160).trans s_160) rfl (vp_in_d rfl) ((congrFun (F.2.1 160 (by decide)) 15).trans r_160_15) ?_
  refine X_aload_n rfl rfl rfl rfl ?_
  refine X_getR (a := 15) rfl rfl rfl ((congrFun F.1 14).trans s_14) rfl ((congrFun (F.2.1 14 (by decide)) 2).trans r_14_2) ?_
  refine X_iload_n rfl rfl rfl rfl ?_
  refine X_aald (a := 76) (t0 := 3) rfl rfl ((congrFun F.1 15).trans s_15) rfl (vp_in_d rfl) ((congrFun (F.2.1 15 (by decide)) 15).trans r_15_15) ?_
  refine X_callV (as := [.ref 76]) (st := []) rfl rfl rfl (by decide) rfl (Nat.le_of_ble_eq_true rfl) (by decide) (Nat.le_of_ble_eq_true rfl) rfl ((congrFun F.1 221).trans s_221) (by decide) ?_
  refine LW_ls (ls' := [some (.ref 221), some (.ref 76)]) rfl ?_
  refine X_aload_n rfl rfl rfl rfl ?_
  refine X_aload_n rfl rfl rfl rfl ?_
  refine X_getI (v := (0 : Int32)) rfl rfl rfl ((congrFun F.1 76).trans s_76) rfl ((congrFun (F.2.2 76 (by decide)).1 0).trans i_76_0) ?_
  refine X_putI rfl rfl rfl ((congrFun F.1 221).trans s_221) rfl rfl rfl rfl ?_
  refine X_aload_n rfl rfl rfl rfl ?_
  refine X_aload_n rfl rfl rfl rfl ?_
  refine X_getI (v := (0 : Int32)) rfl rfl rfl ((congrFun F.1 76).trans s_76) rfl ((congrFun (F.2.2 76 (by decide)).1 1).trans i_76_1) ?_
  refine X_putI rfl rfl rfl ((congrFun F.1 221).trans s_221) rfl rfl rfl rfl ?_
  refine X_aload_n rfl rfl rfl rfl ?_
  refine X_aload_n rfl rfl rfl rfl ?_
  refine X_getI (v := (17 : Int32)) rfl rfl rfl ((congrFun F.1 76).trans s_76) rfl ((congrFun (F.2.2 76 (by decide)).1 2).trans i_76_2) ?_
  refine X_putI rfl rfl rfl ((congrFun F.1 221).trans s_221) rfl rfl rfl rfl ?_
  refine X_aload_n rfl rfl rfl rfl ?_
  refine X_aload_n rfl rfl rfl rfl ?_
  refine X_getI (v := (0 : Int32)) rfl rfl rfl ((congrFun F.1 76).trans s_76) rfl ((congrFun (F.2.2 76 (by decide)).1 3).trans i_76_3) ?_
  refine X_putI rfl rfl rfl ((congrFun F.1 221).trans s_221) rfl rfl rfl rfl ?_
  refine X_aload_n rfl rfl rfl rfl ?_
  refine X_getR (a := 77) rfl rfl rfl ((congrFun F.1 76).trans s_76) rfl ((congrFun (F.2.1 76 (by decide)) 4).trans r_76_4) ?_
  refine X_iconst (v := (0 : Int32)) rfl rfl rfl ?_
  refine X_aload_n rfl rfl rfl rfl ?_
  refine X_getR (a := 222) rfl rfl rfl ((congrFun F.1 221).trans s_221) rfl ((congrFun (F.2.1 221 (by decide)) 4).trans r_221_4) ?_
  refine X_iconst (v := (0 : Int32)) rfl rfl rfl ?_
  refine X_bipush (v := (26 : Int32)) rfl rfl rfl ?_
  refine X_copy (sp' := 0) (dp' := 0) (n' := 26) rfl rfl rfl ((congrFun F.1 77).trans s_77) ((congrFun F.1 222).trans s_222) (by decide) (by decide) (by decide) rfl rfl rfl (by decide) (by decide) (Nat.le_of_ble_eq_true rfl) ?_
  refine X_aload_n rfl rfl rfl rfl ?_
  refine X_getR (a := 78) rfl rfl rfl ((congrFun F.1 76).trans s_76) rfl ((congrFun (F.2.1 76 (by decide)) 5).trans r_76_5) ?_
  refine X_iconst (v := (0 : Int32)) rfl rfl rfl ?_
  refine X_aload_n rfl rfl rfl rfl ?_
  refine X_getR (a := 223) rfl rfl rfl ((congrFun F.1 221).trans s_221) rfl ((congrFun (F.2.1 221 (by decide)) 5).trans r_221_5) ?_
  refine X_iconst (v := (0 : Int32)) rfl rfl rfl ?_
  refine X_bipush (v := (26 : Int32)) rfl rfl rfl ?_
  refine X_copy (sp' := 0) (dp' := 0) (n' := 26) rfl rfl rfl ((congrFun F.1 78).trans s_78) ((congrFun F.1 223).trans s_223) (by decide) (by decide) (by decide) rfl rfl rfl (by decide) (by decide) (Nat.le_of_ble_eq_true rfl) ?_
  refine X_aload_n rfl rfl rfl rfl ?_
  refine X_getR (a := 79) rfl rfl rfl ((congrFun F.1 76).trans s_76) rfl ((congrFun (F.2.1 76 (by decide)) 6).trans r_76_6) ?_
  refine X_iconst (v := (0 : Int32)) rfl rfl rfl ?_
  refine X_aload_n rfl rfl rfl rfl ?_
  refine X_getR (a := 224) rfl rfl rfl ((congrFun F.1 221).trans s_221) rfl ((congrFun (F.2.1 221 (by decide)) 6).trans r_221_6) ?_
  refine X_iconst (v := (0 : Int32)) rfl rfl rfl ?_
  refine X_bipush (v := (26 : Int32)) rfl rfl rfl ?_
  refine X_copy (sp' := 0) (dp' := 0) (n' := 26) rfl rfl rfl ((congrFun F.1 79).trans s_79) ((congrFun F.1 224).trans s_224) (by decide) (by decide) (by decide) rfl rfl rfl (by decide) (by decide) (Nat.le_of_ble_eq_true rfl) ?_
  refine LW_return (st := []) rfl rfl ?_
  refine X_iinc (v := (16 : Int32)) (ls' := [some (.ref 159), some (.ref 14), some (.int (16 : Int32))]) rfl rfl rfl rfl rfl ?_
  refine LW_goto (tgt := 18) rfl rfl ?_
  refine X_iload_n rfl rfl rfl rfl ?_
  refine X_bipush (v := (30 : Int32)) rfl rfl rfl ?_
  refine X_icmp_ge (tgt := 45) rfl rfl rfl (fun q => absurd q (by decide)) (fun _ => ?_)
  refine X_aload_n rfl rfl rfl rfl ?_
  refine X_getR (a := 160) rfl rfl rfl ((congrFun F.1 159).trans s_159) rfl ((congrFun (F.2.1 159 (by decide)) 2).trans r_159_2) ?_
  refine X_iload_n rfl rfl rfl rfl ?_
  refine X_aald (a := 225) (t0 := 3) rfl rfl ((congrFun F.1 160).trans s_160) rfl (vp_in_d rfl) ((congrFun (F.2.1 160 (by decide)) 16).trans r_160_16) ?_
  refine X_aload_n rfl rfl rfl rfl ?_
  refine X_getR (a := 15) rfl rfl rfl ((congrFun F.1 14).trans s_14) rfl ((congrFun (F.2.1 14 (by decide)) 2).trans r_14_2) ?_
  refine X_iload_n rfl rfl rfl rfl ?_
  refine X_aald (a := 80) (t0 := 3) rfl rfl ((congrFun F.1 15).trans s_15) rfl (vp_in_d rfl) ((congrFun (F.2.1 15 (by decide)) 16).trans r_15_16) ?_
  refine X_callV (as := [.ref 80]) (st := []) rfl rfl rfl (by decide) rfl (Nat.le_of_ble_eq_true rfl) (by decide) (Nat.le_of_ble_eq_true rfl) rfl ((congrFun F.1 225).trans s_225) (by decide) ?_
  refine LW_ls (ls' := [some (.ref 225), some (.ref 80)]) rfl ?_
  refine X_aload_n rfl rfl rfl rfl ?_
  refine X_aload_n rfl rfl rfl rfl ?_
  refine X_getI (v := (0 : Int32)) rfl rfl rfl ((congrFun F.1 80).trans s_80) rfl ((congrFun (F.2.2 80 (by decide)).1 0).trans i_80_0) ?_
  refine X_putI rfl rfl rfl ((congrFun F.1 225).trans s_225) rfl rfl rfl rfl ?_
  refine X_aload_n rfl rfl rfl rfl ?_
  refine X_aload_n rfl rfl rfl rfl ?_
  refine X_getI (v := (0 : Int32)) rfl rfl rfl ((congrFun F.1 80).trans s_80) rfl ((congrFun (F.2.2 80 (by decide)).1 1).trans i_80_1) ?_
  refine X_putI rfl rfl rfl ((congrFun F.1 225).trans s_225) rfl rfl rfl rfl ?_
  refine X_aload_n rfl rfl rfl rfl ?_
  refine X_aload_n rfl rfl rfl rfl ?_
  refine X_getI (v := (17 : Int32)) rfl rfl rfl ((congrFun F.1 80).trans s_80) rfl ((congrFun (F.2.2 80 (by decide)).1 2).trans i_80_2) ?_
  refine X_putI rfl rfl rfl ((congrFun F.1 225).trans s_225) rfl rfl rfl rfl ?_
  refine X_aload_n rfl rfl rfl rfl ?_
  refine X_aload_n rfl rfl rfl rfl ?_
  refine X_getI (v := (0 : Int32)) rfl rfl rfl ((congrFun F.1 80).trans s_80) rfl ((congrFun (F.2.2 80 (by decide)).1 3).trans i_80_3) ?_
  refine X_putI rfl rfl rfl ((congrFun F.1 225).trans s_225) rfl rfl rfl rfl ?_
  refine X_aload_n rfl rfl rfl rfl ?_
  refine X_getR (a := 81) rfl rfl rfl ((congrFun F.1 80).trans s_80) rfl ((congrFun (F.2.1 80 (by decide)) 4).trans r_80_4) ?_
  refine X_iconst (v := (0 : Int32)) rfl rfl rfl ?_
  refine X_aload_n rfl rfl rfl rfl ?_
  refine X_getR (a := 226) rfl rfl rfl ((congrFun F.1 225).trans s_225) rfl ((congrFun (F.2.1 225 (by decide)) 4).trans r_225_4) ?_
  refine X_iconst (v := (0 : Int32)) rfl rfl rfl ?_
  refine X_bipush (v := (26 : Int32)) rfl rfl rfl ?_
  refine X_copy (sp' := 0) (dp' := 0) (n' := 26) rfl rfl rfl ((congrFun F.1 81).trans s_81) ((congrFun F.1 226).trans s_226) (by decide) (by decide) (by decide) rfl rfl rfl (by decide) (by decide) (Nat.le_of_ble_eq_true rfl) ?_
  refine X_aload_n rfl rfl rfl rfl ?_
  refine X_getR (a := 82) rfl rfl rfl ((congrFun F.1 80).trans s_80) rfl ((congrFun (F.2.1 80 (by decide)) 5).trans r_80_5) ?_
  refine X_iconst (v := (0 : Int32)) rfl rfl rfl ?_
  refine X_aload_n rfl rfl rfl rfl ?_
  refine X_getR (a := 227) rfl rfl rfl ((congrFun F.1 225).trans s_225) rfl ((congrFun (F.2.1 225 (by decide)) 5).trans r_225_5) ?_
  refine X_iconst (v := (0 : Int32)) rfl rfl rfl ?_
  refine X_bipush (v := (26 : Int32)) rfl rfl rfl ?_
  refine X_copy (sp' := 0) (dp' := 0) (n' := 26) rfl rfl rfl ((congrFun F.1 82).trans s_82) ((congrFun F.1 227).trans s_227) (by decide) (by decide) (by decide) rfl rfl rfl (by decide) (by decide) (Nat.le_of_ble_eq_true rfl) ?_
  refine X_aload_n rfl rfl rfl rfl ?_
  refine X_getR (a := 83) rfl rfl rfl ((congrFun F.1 80).trans s_80) rfl ((congrFun (F.2.1 80 (by decide)) 6).trans r_80_6) ?_
  refine X_iconst (v := (0 : Int32)) rfl rfl rfl ?_
  refine X_aload_n rfl rfl rfl rfl ?_
  refine X_getR (a := 228) rfl rfl rfl ((congrFun F.1 225).trans s_225) rfl ((congrFun (F.2.1 225 (by decide)) 6).trans r_225_6) ?_
  refine X_iconst (v := (0 : Int32)) rfl rfl rfl ?_
  refine X_bipush (v := (26 : Int32)) rfl rfl rfl ?_
  refine X_copy (sp' := 0) (dp' := 0) (n' := 26) rfl rfl rfl ((congrFun F.1 83).trans s_83) ((congrFun F.1 228).trans s_228) (by decide) (by decide) (by decide) rfl rfl rfl (by decide) (by decide) (Nat.le_of_ble_eq_true rfl) ?_
  refine LW_return (st := []) rfl rfl ?_
  refine X_iinc (v := (17 : Int32)) (ls' := [some (.ref 159), some (.ref 14), some (.int (17 : Int32))]) rfl rfl rfl rfl rfl ?_
  refine LW_goto (tgt := 18) rfl rfl ?_
  refine X_iload_n rfl rfl rfl rfl ?_
  refine X_bipush (v := (30 : Int32)) rfl rfl rfl ?_
  refine X_icmp_ge (tgt := 45) rfl rfl rfl (fun q => absurd q (by decide)) (fun _ => ?_)
  refine X_aload_n rfl rfl rfl rfl ?_
  refine X_getR (a := 160) rfl rfl rfl ((congrFun F.1 159).trans s_159) rfl ((congrFun (F.2.1 159 (by decide)) 2).trans r_159_2) ?_
  refine X_iload_n rfl rfl rfl rfl ?_
  refine X_aald (a := 229) (t0 := 3) rfl rfl ((congrFun F.1 160).trans s_160) rfl (vp_in_d rfl) ((congrFun (F.2.1 160 (by decide)) 17).trans r_160_17) ?_
  refine X_aload_n rfl rfl rfl rfl ?_
  refine X_getR (a := 15) rfl rfl rfl ((congrFun F.1 14).trans s_14) rfl ((congrFun (F.2.1 14 (by decide)) 2).trans r_14_2) ?_
  refine X_iload_n rfl rfl rfl rfl ?_
  refine X_aald (a := 84) (t0 := 3) rfl rfl ((congrFun F.1 15).trans s_15) rfl (vp_in_d rfl) ((congrFun (F.2.1 15 (by decide)) 17).trans r_15_17) ?_
  refine X_callV (as := [.ref 84]) (st := []) rfl rfl rfl (by decide) rfl (Nat.le_of_ble_eq_true rfl) (by decide) (Nat.le_of_ble_eq_true rfl) rfl ((congrFun F.1 229).trans s_229) (by decide) ?_
  refine LW_ls (ls' := [some (.ref 229), some (.ref 84)]) rfl ?_
  refine X_aload_n rfl rfl rfl rfl ?_
  refine X_aload_n rfl rfl rfl rfl ?_
  refine X_getI (v := (0 : Int32)) rfl rfl rfl ((congrFun F.1 84).trans s_84) rfl ((congrFun (F.2.2 84 (by decide)).1 0).trans i_84_0) ?_
  refine X_putI rfl rfl rfl ((congrFun F.1 229).trans s_229) rfl rfl rfl rfl ?_
  refine X_aload_n rfl rfl rfl rfl ?_
  refine X_aload_n rfl rfl rfl rfl ?_
  refine X_getI (v := (0 : Int32)) rfl rfl rfl ((congrFun F.1 84).trans s_84) rfl ((congrFun (F.2.2 84 (by decide)).1 1).trans i_84_1) ?_
  refine X_putI rfl rfl rfl ((congrFun F.1 229).trans s_229) rfl rfl rfl rfl ?_
  refine X_aload_n rfl rfl rfl rfl ?_
  refine X_aload_n rfl rfl rfl rfl ?_
  refine X_getI (v := (17 : Int32)) rfl rfl rfl ((congrFun F.1 84).trans s_84) rfl ((congrFun (F.2.2 84 (by decide)).1 2).trans i_84_2) ?_
  refine X_putI rfl rfl rfl ((congrFun F.1 229).trans s_229) rfl rfl rfl rfl ?_
  refine X_aload_n rfl rfl rfl rfl ?_
  refine X_aload_n rfl rfl rfl rfl ?_
  refine X_getI (v := (0 : Int32)) rfl rfl rfl ((congrFun F.1 84).trans s_84) rfl ((congrFun (F.2.2 84 (by decide)).1 3).trans i_84_3) ?_
  refine X_putI rfl rfl rfl ((congrFun F.1 229).trans s_229) rfl rfl rfl rfl ?_
  refine X_aload_n rfl rfl rfl rfl ?_
  refine X_getR (a := 85) rfl rfl rfl ((congrFun F.1 84).trans s_84) rfl ((congrFun (F.2.1 84 (by decide)) 4).trans r_84_4) ?_
  refine X_iconst (v := (0 : Int32)) rfl rfl rfl ?_
  refine X_aload_n rfl rfl rfl rfl ?_
  refine X_getR (a := 230) rfl rfl rfl ((congrFun F.1 229).trans s_229) rfl ((congrFun (F.2.1 229 (by decide)) 4).trans r_229_4) ?_
  refine X_iconst (v := (0 : Int32)) rfl rfl rfl ?_
  refine X_bipush (v := (26 : Int32)) rfl rfl rfl ?_
  refine X_copy (sp' := 0) (dp' := 0) (n' := 26) rfl rfl rfl ((congrFun F.1 85).trans s_85) ((congrFun F.1 230).trans s_230) (by decide) (by decide) (by decide) rfl rfl rfl (by decide) (by decide) (Nat.le_of_ble_eq_true rfl) ?_
  refine X_aload_n rfl rfl rfl rfl ?_
  refine X_getR (a := 86) rfl rfl rfl ((congrFun F.1 84).trans s_84) rfl ((congrFun (F.2.1 84 (by decide)) 5).trans r_84_5) ?_
  refine X_iconst (v := (0 : Int32)) rfl rfl rfl ?_
  refine X_aload_n rfl rfl rfl rfl ?_
  refine X_getR (a := 231) rfl rfl rfl ((congrFun F.1 229).trans s_229) rfl ((congrFun (F.2.1 229 (by decide)) 5).trans r_229_5) ?_
  refine X_iconst (v := (0 : Int32)) rfl rfl rfl ?_
  refine X_bipush (v := (26 : Int32)) rfl rfl rfl ?_
  refine X_copy (sp' := 0) (dp' := 0) (n' := 26) rfl rfl rfl ((congrFun F.1 86).trans s_86) ((congrFun F.1 231).trans s_231) (by decide) (by decide) (by decide) rfl rfl rfl (by decide) (by decide) (Nat.le_of_ble_eq_true rfl) ?_
  refine X_aload_n rfl rfl rfl rfl ?_
  refine X_getR (a := 87) rfl rfl rfl ((congrFun F.1 84).trans s_84) rfl ((congrFun (F.2.1 84 (by decide)) 6).trans r_84_6) ?_
  refine X_iconst (v := (0 : Int32)) rfl rfl rfl ?_
  refine X_aload_n rfl rfl rfl rfl ?_
  refine X_getR (a := 232) rfl rfl rfl ((congrFun F.1 229).trans s_229) rfl ((congrFun (F.2.1 229 (by decide)) 6).trans r_229_6) ?_
  refine X_iconst (v := (0 : Int32)) rfl rfl rfl ?_
  refine X_bipush (v := (26 : Int32)) rfl rfl rfl ?_
  refine X_copy (sp' := 0) (dp' := 0) (n' := 26) rfl rfl rfl ((congrFun F.1 87).trans s_87) ((congrFun F.1 232).trans s_232) (by decide) (by decide) (by decide) rfl rfl rfl (by decide) (by decide) (Nat.le_of_ble_eq_true rfl) ?_
  refine LW_return (st := []) rfl rfl ?_
  refine X_iinc (v := (18 : Int32)) (ls' := [some (.ref 159), some (.ref 14), some (.int (18 : Int32))]) rfl rfl rfl rfl rfl ?_
  refine LW_goto (tgt := 18) rfl rfl ?_
  refine X_iload_n rfl rfl rfl rfl ?_
  refine X_bipush (v := (30 : Int32)) rfl rfl rfl ?_
  refine X_icmp_ge (tgt := 45) rfl rfl rfl (fun q => absurd q (by decide)) (fun _ => ?_)
  refine X_aload_n rfl rfl rfl rfl ?_
  refine X_getR (a := 160) rfl rfl rfl ((congrFun F.1 159).trans s_159) rfl ((congrFun (F.2.1 159 (by decide)) 2).trans r_159_2) ?_
  refine X_iload_n rfl rfl rfl rfl ?_
  refine X_aald (a := 233) (t0 := 3) rfl rfl ((congrFun F.1 160).trans s_160) rfl (vp_in_d rfl) ((congrFun (F.2.1 160 (by decide)) 18).trans r_160_18) ?_
  refine X_aload_n rfl rfl rfl rfl ?_
  refine X_getR (a := 15) rfl rfl rfl ((congrFun F.1 14).trans s_14) rfl ((congrFun (F.2.1 14 (by decide)) 2).trans r_14_2) ?_
  refine X_iload_n rfl rfl rfl rfl ?_
  refine X_aald (a := 88) (t0 := 3) rfl rfl ((congrFun F.1 15).trans s_15) rfl (vp_in_d rfl) ((congrFun (F.2.1 15 (by decide)) 18).trans r_15_18) ?_
  refine X_callV (as := [.ref 88]) (st := []) rfl rfl rfl (by decide) rfl (Nat.le_of_ble_eq_true rfl) (by decide) (Nat.le_of_ble_eq_true rfl) rfl ((congrFun F.1 233).trans s_233) (by decide) ?_
  refine LW_ls (ls' := [some (.ref 233), some (.ref 88)]) rfl ?_
  refine X_aload_n rfl rfl rfl rfl ?_
  refine X_aload_n rfl rfl rfl rfl ?_
  refine X_getI (v := (0 : Int32)) rfl rfl rfl ((congrFun F.1 88).trans s_88) rfl ((congrFun (F.2.2 88 (by decide)).1 0).trans i_88_0) ?_
  refine X_putI rfl rfl rfl ((congrFun F.1 233).trans s_233) rfl rfl rfl rfl ?_
  refine X_aload_n rfl rfl rfl rfl ?_
  refine X_aload_n rfl rfl rfl rfl ?_
  refine X_getI (v := (0 : Int32)) rfl rfl rfl ((congrFun F.1 88).trans s_88) rfl ((congrFun (F.2.2 88 (by decide)).1 1).trans i_88_1) ?_
  refine X_putI rfl rfl rfl ((congrFun F.1 233).trans s_233) rfl rfl rfl rfl ?_
  refine X_aload_n rfl rfl rfl rfl ?_
  refine X_aload_n rfl rfl rfl rfl ?_
  refine X_getI (v := (17 : Int32)) rfl rfl rfl ((congrFun F.1 88).trans s_88) rfl ((congrFun (F.2.2 88 (by decide)).1 2).trans i_88_2) ?_
  refine X_putI rfl rfl rfl ((congrFun F.1 233).trans s_233) rfl rfl rfl rfl ?_
  refine X_aload_n rfl rfl rfl rfl ?_
  refine X_aload_n rfl rfl rfl rfl ?_
  refine X_getI (v := (0 : Int32)) rfl rfl rfl ((congrFun F.1 88).trans s_88) rfl ((congrFun (F.2.2 88 (by decide)).1 3).trans i_88_3) ?_
  refine X_putI rfl rfl rfl ((congrFun F.1 233).trans s_233) rfl rfl rfl rfl ?_
  refine X_aload_n rfl rfl rfl rfl ?_
  refine X_getR (a := 89) rfl rfl rfl ((congrFun F.1 88).trans s_88) rfl ((congrFun (F.2.1 88 (by decide)) 4).trans r_88_4) ?_
  refine X_iconst (v := (0 : Int32)) rfl rfl rfl ?_
  refine X_aload_n rfl rfl rfl rfl ?_
  refine X_getR (a := 234) rfl rfl rfl ((congrFun F.1 233).trans s_233) rfl ((congrFun (F.2.1 233 (by decide)) 4).trans r_233_4) ?_
  refine X_iconst (v := (0 : Int32)) rfl rfl rfl ?_
  refine X_bipush (v := (26 : Int32)) rfl rfl rfl ?_
  refine X_copy (sp' := 0) (dp' := 0) (n' := 26) rfl rfl rfl ((congrFun F.1 89).trans s_89) ((congrFun F.1 234).trans s_234) (by decide) (by decide) (by decide) rfl rfl rfl (by decide) (by decide) (Nat.le_of_ble_eq_true rfl) ?_
  refine X_aload_n rfl rfl rfl rfl ?_
  refine X_getR (a := 90) rfl rfl rfl ((congrFun F.1 88).trans s_88) rfl ((congrFun (F.2.1 88 (by decide)) 5).trans r_88_5) ?_
  refine X_iconst (v := (0 : Int32)) rfl rfl rfl ?_
  refine X_aload_n rfl rfl rfl rfl ?_
  refine X_getR (a := 235) rfl rfl rfl ((congrFun F.1 233).trans s_233) rfl ((congrFun (F.2.1 233 (by decide)) 5).trans r_233_5) ?_
  refine X_iconst (v := (0 : Int32)) rfl rfl rfl ?_
  refine X_bipush (v := (26 : Int32)) rfl rfl rfl ?_
  refine X_copy (sp' := 0) (dp' := 0) (n' := 26) rfl rfl rfl ((congrFun F.1 90).trans s_90) ((congrFun F.1 235).trans s_235) (by decide) (by decide) (by decide) rfl rfl rfl (by decide) (by decide) (Nat.le_of_ble_eq_true rfl) ?_
  refine X_aload_n rfl rfl rfl rfl ?_
  refine X_getR (a := 91) rfl rfl rfl ((congrFun F.1 88).trans s_88) rfl ((congrFun (F.2.1 88 (by decide)) 6).trans r_88_6) ?_
  refine X_iconst (v := (0 : Int32)) rfl rfl rfl ?_
  refine X_aload_n rfl rfl rfl rfl ?_
  refine X_getR (a := 236) rfl rfl rfl ((congrFun F.1 233).trans s_233) rfl ((congrFun (F.2.1 233 (by decide)) 6).trans r_233_6) ?_
  refine X_iconst (v := (0 : Int32)) rfl rfl rfl ?_
  refine X_bipush (v := (26 : Int32)) rfl rfl rfl ?_
  refine X_copy (sp' := 0) (dp' := 0) (n' := 26) rfl rfl rfl ((congrFun F.1 91).trans s_91) ((congrFun F.1 236).trans s_236) (by decide) (by decide) (by decide) rfl rfl rfl (by decide) (by decide) (Nat.le_of_ble_eq_true rfl) ?_
  refine LW_return (st := []) rfl rfl ?_
  refine X_iinc (v := (19 : Int32)) (ls' := [some (.ref 159), some (.ref 14), some (.int (19 : Int32))]) rfl rfl rfl rfl rfl ?_
  refine LW_goto (tgt := 18) rfl rfl ?_
  refine X_iload_n rfl rfl rfl rfl ?_
  refine X_bipush (v := (30 : Int32)) rfl rfl rfl ?_
  refine X_icmp_ge (tgt := 45) rfl rfl rfl (fun q => absurd q (by decide)) (fun _ => ?_)
  refine X_aload_n rfl rfl rfl rfl ?_
  refine X_getR (a := 160) rfl rfl rfl ((congrFun F.1 159).trans s_159) rfl ((congrFun (F.2.1 159 (by decide)) 2).trans r_159_2) ?_
  refine X_iload_n rfl rfl rfl rfl ?_
  refine X_aald (a := 237) (t0 := 3) rfl rfl ((congrFun F.1 160).trans s_160) rfl (vp_in_d rfl) ((congrFun (F.2.1 160 (by decide)) 19).trans r_160_19) ?_
  refine X_aload_n rfl rfl rfl rfl ?_
  refine X_getR (a := 15) rfl rfl rfl ((congrFun F.1 14).trans s_14) rfl ((congrFun (F.2.1 14 (by decide)) 2).trans r_14_2) ?_
  refine X_iload_n rfl rfl rfl rfl ?_
  refine X_aald (a := 92) (t0 := 3) rfl rfl ((congrFun F.1 15).trans s_15) rfl (vp_in_d rfl) ((congrFun (F.2.1 15 (by decide)) 19).trans r_15_19) ?_
  refine X_callV (as := [.ref 92]) (st := []) rfl rfl rfl (by decide) rfl (Nat.le_of_ble_eq_true rfl) (by decide) (Nat.le_of_ble_eq_true rfl) rfl ((congrFun F.1 237).trans s_237) (by decide) ?_
  refine LW_ls (ls' := [some (.ref 237), some (.ref 92)]) rfl ?_
  refine X_aload_n rfl rfl rfl rfl ?_
  refine X_aload_n rfl rfl rfl rfl ?_
  refine X_getI (v := (0 : Int32)) rfl rfl rfl ((congrFun F.1 92).trans s_92) rfl ((congrFun (F.2.2 92 (by decide)).1 0).trans i_92_0) ?_
  refine X_putI rfl rfl rfl ((congrFun F.1 237).trans s_237) rfl rfl rfl rfl ?_
  refine X_aload_n rfl rfl rfl rfl ?_
  refine X_aload_n rfl rfl rfl rfl ?_
  refine X_getI (v := (0 : Int32)) rfl rfl rfl ((congrFun F.1 92).trans s_92) rfl ((congrFun (F.2.2 92 (by decide)).1 1).trans i_92_1) ?_
  refine X_putI rfl rfl rfl ((congrFun F.1 237).trans s_237) rfl rfl rfl rfl ?_
  refine X_aload_n rfl rfl rfl rfl ?_
  refine X_aload_n rfl rfl rfl rfl ?_
  refine X_getI (v := (17 : Int32)) rfl rfl rfl ((congrFun F.1 92).trans s_92) rfl ((congrFun (F.2.2 92 (by decide)).1 2).trans i_92_2) ?_
  refine X_putI rfl rfl rfl ((congrFun F.1 237).trans s_237) rfl rfl rfl rfl ?_
  refine X_aload_n rfl rfl rfl rfl ?_
  refine X_aload_n rfl rfl rfl rfl ?_
  refine X_getI (v := (0 : Int32)) rfl rfl rfl ((congrFun F.1 92).trans s_92) rfl ((congrFun (F.2.2 92 (by decide)).1 3).trans i_92_3) ?_
  refine X_putI rfl rfl rfl ((congrFun F.1 237).trans s_237) rfl rfl rfl rfl ?_
  refine X_aload_n rfl rfl rfl rfl ?_
  refine X_getR (a := 93) rfl rfl rfl ((congrFun F.1 92).trans s_92) rfl ((congrFun (F.2.1 92 (by decide)) 4).trans r_92_4) ?_
  refine X_iconst (v := (0 : Int32)) rfl rfl rfl ?_
  refine X_aload_n rfl rfl rfl rfl ?_
  refine X_getR (a := 238) rfl rfl rfl ((congrFun F.1 237).trans s_237) rfl ((congrFun (F.2.1 237 (by decide)) 4).trans r_237_4) ?_
  refine X_iconst (v := (0 : Int32)) rfl rfl rfl ?_
  refine X_bipush (v := (26 : Int32)) rfl rfl rfl ?_
  refine X_copy (sp' := 0) (dp' := 0) (n' := 26) rfl rfl rfl ((congrFun F.1 93).trans s_93) ((congrFun F.1 238).trans s_238) (by decide) (by decide) (by decide) rfl rfl rfl (by decide) (by decide) (Nat.le_of_ble_eq_true rfl) ?_
  refine X_aload_n rfl rfl rfl rfl ?_
  refine X_getR (a := 94) rfl rfl rfl ((congrFun F.1 92).trans s_92) rfl ((congrFun (F.2.1 92 (by decide)) 5).trans r_92_5) ?_
  refine X_iconst (v := (0 : Int32)) rfl rfl rfl ?_
  refine X_aload_n rfl rfl rfl rfl ?_
  refine X_getR (a := 239) rfl rfl rfl ((congrFun F.1 237).trans s_237) rfl ((congrFun (F.2.1 237 (by decide)) 5).trans r_237_5) ?_
  refine X_iconst (v := (0 : Int32)) rfl rfl rfl ?_
  refine X_bipush (v := (26 : Int32)) rfl rfl rfl ?_
  refine X_copy (sp' := 0) (dp' := 0) (n' := 26) rfl rfl rfl ((congrFun F.1 94).trans s_94) ((congrFun F.1 239).trans s_239) (by decide) (by decide) (by decide) rfl rfl rfl (by decide) (by decide) (Nat.le_of_ble_eq_true rfl) ?_
  refine X_aload_n rfl rfl rfl rfl ?_
  refine X_getR (a := 95) rfl rfl rfl ((congrFun F.1 92).trans s_92) rfl ((congrFun (F.2.1 92 (by decide)) 6).trans r_92_6) ?_
  refine X_iconst (v := (0 : Int32)) rfl rfl rfl ?_
  refine X_aload_n rfl rfl rfl rfl ?_
  refine X_getR (a := 240) rfl rfl rfl ((congrFun F.1 237).trans s_237) rfl ((congrFun (F.2.1 237 (by decide)) 6).trans r_237_6) ?_
  refine X_iconst (v := (0 : Int32)) rfl rfl rfl ?_
  refine X_bipush (v := (26 : Int32)) rfl rfl rfl ?_
  refine X_copy (sp' := 0) (dp' := 0) (n' := 26) rfl rfl rfl ((congrFun F.1 95).trans s_95) ((congrFun F.1 240).trans s_240) (by decide) (by decide) (by decide) rfl rfl rfl (by decide) (by decide) (Nat.le_of_ble_eq_true rfl) ?_
  refine LW_return (st := []) rfl rfl ?_
  refine X_iinc (v := (20 : Int32)) (ls' := [some (.ref 159), some (.ref 14), some (.int (20 : Int32))]) rfl rfl rfl rfl rfl ?_
  refine LW_goto (tgt := 18) rfl rfl ?_
  refine X_iload_n rfl rfl rfl rfl ?_
  refine X_bipush (v := (30 : Int32)) rfl rfl rfl ?_
  refine X_icmp_ge (tgt := 45) rfl rfl rfl (fun q => absurd q (by decide)) (fun _ => ?_)
  refine X_aload_n rfl rfl rfl rfl ?_
  refine X_getR (a := 160) rfl rfl rfl ((congrFun F.1 159).trans s_159) rfl ((congrFun (F.2.1 159 (by decide)) 2).trans r_159_2) ?_
  refine X_iload_n rfl rfl rfl rfl ?_
  refine X_aald (a := 241) (t0 := 3) rfl rfl ((congrFun F.1 160).trans s_160) rfl (vp_in_d rfl) ((congrFun (F.2.1 160 (by decide)) 20).trans r_160_20) ?_
  refine X_aload_n rfl rfl rfl rfl ?_
  refine X_getR (a := 15) rfl rfl rfl ((congrFun F.1 14).trans s_14) rfl ((congrFun (F.2.1 14 (by decide)) 2).trans r_14_2) ?_
  refine X_iload_n rfl rfl rfl rfl ?_
  refine X_aald (a := 96) (t0 := 3) rfl rfl ((congrFun F.1 15).trans s_15) rfl (vp_in_d rfl) ((congrFun (F.2.1 15 (by decide)) 20).trans r_15_20) ?_
  refine X_callV (as := [.ref 96]) (st := []) rfl rfl rfl (by decide) rfl (Nat.le_of_ble_eq_true rfl) (by decide) (Nat.le_of_ble_eq_true rfl) rfl ((congrFun F.1 241).trans s_241) (by decide) ?_
  refine LW_ls (ls' := [some (.ref 241), some (.ref 96)]) rfl ?_
  refine X_aload_n rfl rfl rfl rfl ?_
  refine X_aload_n rfl rfl rfl rfl ?_
  refine X_getI (v := (0 : Int32)) rfl rfl rfl ((congrFun F.1 96).trans s_96) rfl ((congrFun (F.2.2 96 (by decide)).1 0).trans i_96_0) ?_
  refine X_putI rfl rfl rfl ((congrFun F.1 241).trans s_241) rfl rfl rfl rfl ?_
  refine X_aload_n rfl rfl rfl rfl ?_
  refine X_aload_n rfl rfl rfl rfl ?_
  refine X_getI (v := (0 : Int32)) rfl rfl rfl ((congrFun F.1 96).trans s_96) rfl ((congrFun (F.2.2 96 (by decide)).1 1).trans i_96_1) ?_
  refine X_putI rfl rfl rfl ((congrFun F.1 241).trans s_241) rfl rfl rfl rfl ?_
  refine X_aload_n rfl rfl rfl rfl ?_
  refine X_aload_n rfl rfl rfl rfl ?_
  refine X_getI (v := (17 : Int32)) rfl rfl rfl ((congrFun F.1 96).trans s_96) rfl ((congrFun (F.2.2 96 (by decide)).1 2).trans i_96_2) ?_
  refine X_putI rfl rfl rfl ((congrFun F.1 241).trans s_241) rfl rfl rfl rfl ?_
  refine X_aload_n rfl rfl rfl rfl ?_
  refine X_aload_n rfl rfl rfl rfl ?_
  refine X_getI (v := (0 : Int32)) rfl rfl rfl ((congrFun F.1 96).trans s_96) rfl ((congrFun (F.2.2 96 (by decide)).1 3).trans i_96_3) ?_
  refine X_putI rfl rfl rfl ((congrFun F.1 241).trans s_241) rfl rfl rfl rfl ?_
  refine X_aload_n rfl rfl rfl rfl ?_
  refine X_getR (a := 97) rfl rfl rfl ((congrFun F.1 96).trans s_96) rfl ((congrFun (F.2.1 96 (by decide)) 4).trans r_96_4) ?_
  refine X_iconst (v := (0 : Int32)) rfl rfl rfl ?_
  refine X_aload_n rfl rfl rfl rfl ?_
  refine X_getR (a := 242) rfl rfl rfl ((congrFun F.1 241).trans s_241) rfl ((congrFun (F.2.1 241 (by decide)) 4).trans r_241_4) ?_
  refine X_iconst (v := (0 : Int32)) rfl rfl rfl ?_
  refine X_bipush (v := (26 : Int32)) rfl rfl rfl ?_
  refine X_copy (sp' := 0) (dp' := 0) (n' := 26) rfl rfl rfl ((congrFun F.1 97).trans s_97) ((congrFun F.1 242).trans s_242) (by decide) (by decide) (by decide) rfl rfl rfl (by decide) (by decide) (Nat.le_of_ble_eq_true rfl) ?_
  refine X_aload_n rfl rfl rfl rfl ?_
  refine X_getR (a := 98) rfl rfl rfl ((congrFun F.1 96).trans s_96) rfl ((congrFun (F.2.1 96 (by decide)) 5).trans r_96_5) ?_
  refine X_iconst (v := (0 : Int32)) rfl rfl rfl ?_
  refine X_aload_n rfl rfl rfl rfl ?_
  refine X_getR (a := 243) rfl rfl rfl ((congrFun F.1 241).trans s_241) rfl ((congrFun (F.2.1 241 (by decide)) 5).trans r_241_5) ?_
  refine X_iconst (v := (0 : Int32)) rfl rfl rfl ?_
  refine X_bipush (v := (26 : Int32)) rfl rfl rfl ?_
  refine X_copy (sp' := 0) (dp' := 0) (n' := 26) rfl rfl rfl ((congrFun F.1 98).trans s_98) ((congrFun F.1 243).trans s_243) (by decide) (by decide) (by decide) rfl rfl rfl (by decide) (by decide) (Nat.le_of_ble_eq_true rfl) ?_
  refine X_aload_n rfl rfl rfl rfl ?_
  refine X_getR (a := 99) rfl rfl rfl ((congrFun F.1 96).trans s_96) rfl ((congrFun (F.2.1 96 (by decide)) 6).trans r_96_6) ?_
  refine X_iconst (v := (0 : Int32)) rfl rfl rfl ?_
  refine X_aload_n rfl rfl rfl rfl ?_
  refine X_getR (a := 244) rfl rfl rfl ((congrFun F.1 241).trans s_241) rfl ((congrFun (F.2.1 241 (by decide)) 6).trans r_241_6) ?_
  refine X_iconst (v := (0 : Int32)) rfl rfl rfl ?_
  refine X_bipush (v := (26 : Int32)) rfl rfl rfl ?_
  refine X_copy (sp' := 0) (dp' := 0) (n' := 26) rfl rfl rfl ((congrFun F.1 99).trans s_99) ((congrFun F.1 244).trans s_244) (by decide) (by decide) (by decide) rfl rfl rfl (by decide) (by decide) (Nat.le_of_ble_eq_true rfl) ?_
  refine LW_return (st := []) rfl rfl ?_
  refine X_iinc (v := (21 : Int32)) (ls' := [some (.ref 159), some (.ref 14), some (.int (21 : Int32))]) rfl rfl rfl rfl rfl ?_
  refine LW_goto (tgt := 18) rfl rfl ?_
  refine X_iload_n rfl rfl rfl rfl ?_
  refine X_bipush (v := (30 : Int32)) rfl rfl rfl ?_
  refine X_icmp_ge (tgt := 45) rfl rfl rfl (fun q => absurd q (by decide)) (fun _ => ?_)
  refine X_aload_n rfl rfl rfl rfl ?_
  refine X_getR (a := 160) rfl rfl rfl ((congrFun F.1 159).trans s_159) rfl ((congrFun (F.2.1 159 (by decide)) 2).trans r_159_2) ?_
  refine X_iload_n rfl rfl rfl rfl ?_
  refine X_aald (a := 245) (t0 := 3) rfl rfl ((congrFun F.1 160).trans s_160) rfl (vp_in_d rfl) ((congrFun (F.2.1 160 (by decide)) 21).trans r_160_21) ?_
  refine X_aload_n rfl rfl rfl rfl ?_
  refine X_getR (a := 15) rfl rfl rfl ((congrFun F.1 14).trans s_14) rfl ((congrFun (F.2.1 14 (by decide)) 2).trans r_14_2) ?_
  refine X_iload_n rfl rfl rfl rfl ?_
  refine X_aald (a := 100) (t0 := 3) rfl rfl ((congrFun F.1 15).trans s_15) rfl (vp_in_d rfl) ((congrFun (F.2.1 15 (by decide)) 21).trans r_15_21) ?_
  refine X_callV (as := [.ref 100]) (st := []) rfl rfl rfl (by decide) rfl (Nat.le_of_ble_eq_true rfl) (by decide) (Nat.le_of_ble_eq_true rfl) rfl ((congrFun F.1 245).trans s_245) (by decide) ?_
  refine LW_ls (ls' := [some (.ref 245), some (.ref 100)]) rfl ?_
  refine X_aload_n rfl rfl rfl rfl ?_
  refine X_aload_n rfl rfl rfl rfl ?_
  refine X_getI (v := (0 : Int32)) rfl rfl rfl ((congrFun F.1 100).trans s_100) rfl ((congrFun (F.2.2 100 (by decide)).1 0).trans i_100_0) ?_
  refine X_putI rfl rfl rfl ((congrFun F.1 245).trans s_245) rfl rfl rfl rfl ?_
  refine X_aload_n rfl rfl rfl rfl ?_
  refine X_aload_n rfl rfl rfl rfl ?_
  refine X_getI (v := (0 : Int32)) rfl rfl rfl ((congrFun F.1 100).trans s_100) rfl ((congrFun (F.2.2 100 (by decide)).1 1).trans i_100_1) ?_
  refine X_putI rfl rfl rfl ((congrFun F.1 245).trans s_245) rfl rfl rfl rfl ?_
  refine X_aload_n rfl rfl rfl rfl ?_
  refine X_aload_n rfl rfl rfl rfl ?_
  refine X_getI (v := (17 : Int32)) rfl rfl rfl ((congrFun F.1 100).trans s_100) rfl ((congrFun (F.2.2 100 (by decide)).1 2).trans i_100_2) ?_
  refine X_putI rfl rfl rfl ((congrFun F.1 245).trans s_245) rfl rfl rfl rfl ?_
  refine X_aload_n rfl rfl rfl rfl ?_
  refine X_aload_n rfl rfl rfl rfl ?_
  refine X_getI (v := (0 : Int32)) rfl rfl rfl ((congrFun F.1 100).trans s_100) rfl ((congrFun (F.2.2 100 (by decide)).1 3).trans i_100_3) ?_
  refine X_putI rfl rfl rfl ((congrFun F.1 245).trans s_245) rfl rfl rfl rfl ?_
  refine X_aload_n rfl rfl rfl rfl ?_
  refine X_getR (a := 101) rfl rfl rfl ((congrFun F.1 100).trans s_100) rfl ((congrFun (F.2.1 100 (by decide)) 4).trans r_100_4) ?_
  refine X_iconst (v := (0 : Int32)) rfl rfl rfl ?_
  refine X_aload_n rfl rfl rfl rfl ?_
  refine X_getR (a := 246) rfl rfl rfl ((congrFun F.1 245).trans s_245) rfl ((congrFun (F.2.1 245 (by decide)) 4).trans r_245_4) ?_
  refine X_iconst (v := (0 : Int32)) rfl rfl rfl ?_
  refine X_bipush (v := (26 : Int32)) rfl rfl rfl ?_
  refine X_copy (sp' := 0) (dp' := 0) (n' := 26) rfl rfl rfl ((congrFun F.1 101).trans s_101) ((congrFun F.1 246).trans s_246) (by decide) (by decide) (by decide) rfl rfl rfl (by decide) (by decide) (Nat.le_of_ble_eq_true rfl) ?_
  refine X_aload_n rfl rfl rfl rfl ?_
  refine X_getR (a := 102) rfl rfl rfl ((congrFun F.1 100).trans s_100) rfl ((congrFun (F.2.1 100 (by decide)) 5).trans r_100_5) ?_
  refine X_iconst (v := (0 : Int32)) rfl rfl rfl ?_
  refine X_aload_n rfl rfl rfl rfl ?_
  refine X_getR (a := 247) rfl rfl rfl ((congrFun F.1 245).trans s_245) rfl ((congrFun (F.2.1 245 (by decide)) 5).trans r_245_5) ?_
  refine X_iconst (v := (0 : Int32)) rfl rfl rfl ?_
  refine X_bipush (v := (26 : Int32)) rfl rfl rfl ?_
  refine X_copy (sp' := 0) (dp' := 0) (n' := 26) rfl rfl rfl ((congrFun F.1 102).trans s_102) ((congrFun F.1 247).trans s_247) (by decide) (by decide) (by decide) rfl rfl rfl (by decide) (by decide) (Nat.le_of_ble_eq_true rfl) ?_
  refine X_aload_n rfl rfl rfl rfl ?_
  refine X_getR (a := 103) rfl rfl rfl ((congrFun F.1 100).trans s_100) rfl ((congrFun (F.2.1 100 (by decide)) 6).trans r_100_6) ?_
  refine X_iconst (v := (0 : Int32)) rfl rfl rfl ?_
  refine X_aload_n rfl rfl rfl rfl ?_
  refine X_getR (a := 248) rfl rfl rfl ((congrFun F.1 245).trans s_245) rfl ((congrFun (F.2.1 245 (by decide)) 6).trans r_245_6) ?_
  refine X_iconst (v := (0 : Int32)) rfl rfl rfl ?_
  refine X_bipush (v := (26 : Int32)) rfl rfl rfl ?_
  refine X_copy (sp' := 0) (dp' := 0) (n' := 26) rfl rfl rfl ((congrFun F.1 103).trans s_103) ((congrFun F.1 248).trans s_248) (by decide) (by decide) (by decide) rfl rfl rfl (by decide) (by decide) (Nat.le_of_ble_eq_true rfl) ?_
  refine LW_return (st := []) rfl rfl ?_
  refine X_iinc (v := (22 : Int32)) (ls' := [some (.ref 159), some (.ref 14), some (.int (22 : Int32))]) rfl rfl rfl rfl rfl ?_
  refine LW_goto (tgt := 18) rfl rfl ?_
  refine X_iload_n rfl rfl rfl rfl ?_
  refine X_bipush (v := (30 : Int32)) rfl rfl rfl ?_
  refine X_icmp_ge (tgt := 45) rfl rfl rfl (fun q => absurd q (by decide)) (fun _ => ?_)
  refine X_aload_n rfl rfl rfl rfl ?_
  refine X_getR (a := 160) rfl rfl rfl ((congrFun F.1 159).trans s_159) rfl ((congrFun (F.2.1 159 (by decide)) 2).trans r_159_2) ?_
  refine X_iload_n rfl rfl rfl rfl ?_
  refine X_aald (a := 249) (t0 := 3) rfl rfl ((congrFun F.1 160).trans s_160) rfl (vp_in_d rfl) ((congrFun (F.2.1 160 (by decide)) 22).trans r_160_22) ?_
  refine X_aload_n rfl rfl rfl rfl ?_
  refine X_getR (a := 15) rfl rfl rfl ((congrFun F.1 14).trans s_14) rfl ((congrFun (F.2.1 14 (by decide)) 2).trans r_14_2) ?_
  refine X_iload_n rfl rfl rfl rfl ?_
  refine X_aald (a := 104) (t0 := 3) rfl rfl ((congrFun F.1 15).trans s_15) rfl (vp_in_d rfl) ((congrFun (F.2.1 15 (by decide)) 22).trans r_15_22) ?_
  refine X_callV (as := [.ref 104]) (st := []) rfl rfl rfl (by decide) rfl (Nat.le_of_ble_eq_true rfl) (by decide) (Nat.le_of_ble_eq_true rfl) rfl ((congrFun F.1 249).trans s_249) (by decide) ?_
  refine LW_ls (ls' := [some (.ref 249), some (.ref 104)]) rfl ?_
  refine X_aload_n rfl rfl rfl rfl ?_
  refine X_aload_n rfl rfl rfl rfl ?_
  refine X_getI (v := (0 : Int32)) rfl rfl rfl ((congrFun F.1 104).trans s_104) rfl ((congrFun (F.2.2 104 (by decide)).1 0).trans i_104_0) ?_
  refine X_putI rfl rfl rfl ((congrFun F.1 249).trans s_249) rfl rfl rfl rfl ?_
  refine X_aload_n rfl rfl rfl rfl ?_
  refine X_aload_n rfl rfl rfl rfl ?_
  refine X_getI (v := (0 : Int32)) rfl rfl rfl ((congrFun F.1 104).trans s_104) rfl ((congrFun (F.2.2 104 (by decide)).1 1).trans i_104_1) ?_
  refine X_putI rfl rfl rfl ((congrFun F.1 249).trans s_249) rfl rfl rfl rfl ?_
  refine X_aload_n rfl rfl rfl rfl ?_
  refine X_aload_n rfl rfl rfl rfl ?_
  refine X_getI (v := (17 : Int32)) rfl rfl rfl ((congrFun F.1 104).trans s_104) rfl ((congrFun (F.2.2 104 (by decide)).1 2).trans i_104_2) ?_
  refine X_putI rfl rfl rfl ((congrFun F.1 249).trans s_249) rfl rfl rfl rfl ?_
  refine X_aload_n rfl rfl rfl rfl ?_
  refine X_aload_n rfl rfl rfl rfl ?_
  refine X_getI (v := (0 : Int32)) rfl rfl rfl ((congrFun F.1 104).trans s_104) rfl ((congrFun (F.2.2 104 (by decide)).1 3).trans i_104_3) ?_
  refine X_putI rfl rfl rfl ((congrFun F.1 249).trans s_249) rfl rfl rfl rfl ?_
  refine X_aload_n rfl rfl rfl rfl ?_
  refine X_getR (a := 105) rfl rfl rfl ((congrFun F.1 104).trans s_104) rfl ((congrFun (F.2.1 104 (by decide)) 4).trans r_104_4) ?_
  refine X_iconst (v := (0 : Int32)) rfl rfl rfl ?_
  refine X_aload_n rfl rfl rfl rfl ?_
  refine X_getR (a := 250) rfl rfl rfl ((congrFun F.1 249).trans s_249) rfl ((congrFun (F.2.1 249 (by decide)) 4).trans r_249_4) ?_
  refine X_iconst (v := (0 : Int32)) rfl rfl rfl ?_
  refine X_bipush (v := (26 : Int32)) rfl rfl rfl ?_
  refine X_copy (sp' := 0) (dp' := 0) (n' := 26) rfl rfl rfl ((congrFun F.1 105).trans s_105) ((congrFun F.1 250).trans s_250) (by decide) (by decide) (by decide) rfl rfl rfl (by decide) (by decide) (Nat.le_of_ble_eq_true rfl) ?_
  refine X_aload_n rfl rfl rfl rfl ?_
  refine X_getR (a := 106) rfl rfl rfl ((congrFun F.1 104).trans s_104) rfl ((congrFun (F.2.1 104 (by decide)) 5).trans r_104_5) ?_
  refine X_iconst (v := (0 : Int32)) rfl rfl rfl ?_
  refine X_aload_n rfl rfl rfl rfl ?_
  refine X_getR (a := 251) rfl rfl rfl ((congrFun F.1 249).trans s_249) rfl ((congrFun (F.2.1 249 (by decide)) 5).trans r_249_5) ?_
  refine X_iconst (v := (0 : Int32)) rfl rfl rfl ?_
  refine X_bipush (v := (26 : Int32)) rfl rfl rfl ?_
  refine X_copy (sp' := 0) (dp' := 0) (n' := 26) rfl rfl rfl ((congrFun F.1 106).trans s_106) ((congrFun F.1 251).trans s_251) (by decide) (by decide) (by decide) rfl rfl rfl (by decide) (by decide) (Nat.le_of_ble_eq_true rfl) ?_
  refine X_aload_n rfl rfl rfl rfl ?_
  refine X_getR (a := 107) rfl rfl rfl ((congrFun F.1 104).trans s_104) rfl ((congrFun (F.2.1 104 (by decide)) 6).trans r_104_6) ?_
  refine X_iconst (v := (0 : Int32)) rfl rfl rfl ?_
  refine X_aload_n rfl rfl rfl rfl ?_
  refine X_getR (a := 252) rfl rfl rfl ((congrFun F.1 249).trans s_249) rfl ((congrFun (F.2.1 249 (by decide)) 6).trans r_249_6) ?_
  refine X_iconst (v := (0 : Int32)) rfl rfl rfl ?_
  refine X_bipush (v := (26 : Int32)) rfl rfl rfl ?_
  refine X_copy (sp' := 0) (dp' := 0) (n' := 26) rfl rfl rfl ((congrFun F.1 107).trans s_107) ((congrFun F.1 252).trans s_252) (by decide) (by decide) (by decide) rfl rfl rfl (by decide) (by decide) (Nat.le_of_ble_eq_true rfl) ?_
  refine LW_return (st := []) rfl rfl ?_
  refine X_iinc (v := (23 : Int32)) (ls' := [some (.ref 159), some (.ref 14), some (.int (23 : Int32))]) rfl rfl rfl rfl rfl ?_
  refine LW_goto (tgt := 18) rfl rfl ?_
  refine X_iload_n rfl rfl rfl rfl ?_
  refine X_bipush (v := (30 : Int32)) rfl rfl rfl ?_
  refine X_icmp_ge (tgt := 45) rfl rfl rfl (fun q => absurd q (by decide)) (fun _ => ?_)
  refine X_aload_n rfl rfl rfl rfl ?_
  refine X_getR (a := 160) rfl rfl rfl ((congrFun F.1 159).trans s_159) rfl ((congrFun (F.2.1 159 (by decide)) 2).trans r_159_2) ?_
  refine X_iload_n rfl rfl rfl rfl ?_
  refine X_aald (a := 253) (t0 := 3) rfl rfl ((congrFun F.1 160).trans s_160) rfl (vp_in_d rfl) ((congrFun (F.2.1 160 (by decide)) 23).trans r_160_23) ?_
  refine X_aload_n rfl rfl rfl rfl ?_
  refine X_getR (a := 15) rfl rfl rfl ((congrFun F.1 14).trans s_14) rfl ((congrFun (F.2.1 14 (by decide)) 2).trans r_14_2) ?_
  refine X_iload_n rfl rfl rfl rfl ?_
  refine X_aald (a := 108) (t0 := 3) rfl rfl ((congrFun F.1 15).trans s_15) rfl (vp_in_d rfl) ((congrFun (F.2.1 15 (by decide)) 23).trans r_15_23) ?_
  refine X_callV (as := [.ref 108]) (st := []) rfl rfl rfl (by decide) rfl (Nat.le_of_ble_eq_true rfl) (by decide) (Nat.le_of_ble_eq_true rfl) rfl ((congrFun F.1 253).trans s_253) (by decide) ?_
  refine LW_ls (ls' := [some (.ref 253), some (.ref 108)]) rfl ?_
  refine X_aload_n rfl rfl rfl rfl ?_
  refine X_aload_n rfl rfl rfl rfl ?_
  refine X_getI (v := (0 : Int32)) rfl rfl rfl ((congrFun F.1 108).trans s_108) rfl ((congrFun (F.2.2 108 (by decide)).1 0).trans i_108_0) ?_
  refine X_putI rfl rfl rfl ((congrFun F.1 253).trans s_253) rfl rfl rfl rfl ?_
  refine X_aload_n rfl rfl rfl rfl ?_
  refine X_aload_n rfl rfl rfl rfl ?_
  refine X_getI (v := (0 : Int32)) rfl rfl rfl ((congrFun F.1 108).trans s_108) rfl ((congrFun (F.2.2 108 (by decide)).1 1).trans i_108_1) ?_
  refine X_putI rfl rfl rfl ((congrFun F.1 253).trans s_253) rfl rfl rfl rfl ?_
  refine X_aload_n rfl rfl rfl rfl ?_
  refine X_aload_n rfl rfl rfl rfl ?_
  refine X_getI (v := (17 : Int32)) rfl rfl rfl ((congrFun F.1 108).trans s_108) rfl ((congrFun (F.2.2 108 (by decide)).1 2).trans i_108_2) ?_
  refine X_putI rfl rfl rfl ((congrFun F.1 253).trans s_253) rfl rfl rfl rfl ?_
  refine X_aload_n rfl rfl rfl rfl ?_
  refine X_aload_n rfl rfl rfl rfl ?_
  refine X_getI (v := (0 : Int32)) rfl rfl rfl ((congrFun F.1 108).trans s_108) rfl ((congrFun (F.2.2 108 (by decide)).1 3).trans i_108_3) ?_
  refine X_putI rfl rfl rfl ((congrFun F.1 253).trans s_253) rfl rfl rfl rfl ?_
  refine X_aload_n rfl rfl rfl rfl ?_
  refine X_getR (a := 109) rfl rfl rfl ((congrFun F.1 108).trans s_108) rfl ((congrFun (F.2.1 108 (by decide)) 4).trans r_108_4) ?_
  refine X_iconst (v := (0 : Int32)) rfl rfl rfl ?_
  refine X_aload_n rfl rfl rfl rfl ?_
  refine X_getR (a := 254) rfl rfl rfl ((congrFun F.1 253).trans s_253) rfl ((congrFun (F.2.1 253 (by decide)) 4).trans r_253_4) ?_
  refine X_iconst (v := (0 : Int32)) rfl rfl rfl ?_
  refine X_bipush (v := (26 : Int32)) rfl rfl rfl ?_
  refine X_copy (sp' := 0) (dp' := 0) (n' := 26) rfl rfl rfl ((congrFun F.1 109).trans s_109) ((congrFun F.1 254).trans s_254) (by decide) (by decide) (by decide) rfl rfl rfl (by decide) (by decide) (Nat.le_of_ble_eq_true rfl) ?_
  refine X_aload_n rfl rfl rfl rfl ?_
  refine X_getR (a := 110) rfl rfl rfl ((congrFun F.1 108).trans s_108) rfl ((congrFun (F.2.1 108 (by decide)) 5).trans r_108_5) ?_
  refine X_iconst (v := (0 : Int32)) rfl rfl rfl ?_
  refine X_aload_n rfl rfl rfl rfl ?_
  refine X_getR (a := 255) rfl rfl rfl ((congrFun F.1 253).trans s_253) rfl ((congrFun (F.2.1 253 (by decide)) 5).trans r_253_5) ?_
  refine X_iconst (v := (0 : Int32)) rfl rfl rfl ?_
  refine X_bipush (v := (26 : Int32)) rfl rfl rfl ?_
  refine X_copy (sp' := 0) (dp' := 0) (n' := 26) rfl rfl rfl ((congrFun F.1 110).trans s_110) ((congrFun F.1 255).trans s_255) (by decide) (by decide) (by decide) rfl rfl rfl (by decide) (by decide) (Nat.le_of_ble_eq_true rfl) ?_
  refine X_aload_n rfl rfl rfl rfl ?_
  refine X_getR (a := 111) rfl rfl rfl ((congrFun F.1 108).trans s_108) rfl ((congrFun (F.2.1 108 (by decide)) 6).trans r_108_6) ?_
  refine X_iconst (v := (0 : Int32)) rfl rfl rfl ?_
  refine X_aload_n rfl rfl rfl rfl ?_
  refine X_getR (a := 256) rfl rfl rfl ((congrFun F.1 253).trans s_253) rfl ((congrFun (F.2.1 253 (by decide)) 6).trans r_253_6) ?_
  refine X_iconst (v := (0 : Int32)) rfl rfl rfl ?_
  refine X_bipush (v := (26 : Int32)) rfl rfl rfl ?_
  refine X_copy (sp' := 0) (dp' := 0) (n' := 26) rfl rfl rfl ((congrFun F.1 111).trans s_111) ((congrFun F.1 256).trans s_256) (by decide) (by decide) (by decide) rfl rfl rfl (by decide) (by decide) (Nat.le_of_ble_eq_true rfl) ?_
  refine LW_return (st := []) rfl rfl ?_
  refine X_iinc (v := (24 : Int32)) (ls' := [some (.ref 159), some (.ref 14), some (.int (24 : Int32))]) rfl rfl rfl rfl rfl ?_
  refine LW_goto (tgt := 18) rfl rfl ?_
  refine X_iload_n rfl rfl rfl rfl ?_
  refine X_bipush (v := (30 : Int32)) rfl rfl rfl ?_
  refine X_icmp_ge (tgt := 45) rfl rfl rfl (fun q => absurd q (by decide)) (fun _ => ?_)
  refine X_aload_n rfl rfl rfl rfl ?_
  refine X_getR (a := 160) rfl rfl rfl ((congrFun F.1 159).trans s_159) rfl ((congrFun (F.2.1 159 (by decide)) 2).trans r_159_2) ?_
  refine X_iload_n rfl rfl rfl rfl ?_
  refine X_aald (a := 257) (t0 := 3) rfl rfl ((congrFun F.1 160).trans s_160) rfl (vp_in_d rfl) ((congrFun (F.2.1 160 (by decide)) 24).trans r_160_24) ?_
  refine X_aload_n rfl rfl rfl rfl ?_
  refine X_getR (a := 15) rfl rfl rfl ((congrFun F.1 14).trans s_14) rfl ((congrFun (F.2.1 14 (by decide)) 2).trans r_14_2) ?_
  refine X_iload_n rfl rfl rfl rfl ?_
  refine X_aald (a := 112) (t0 := 3) rfl rfl ((congrFun F.1 15).trans s_15) rfl (vp_in_d rfl) ((congrFun (F.2.1 15 (by decide)) 24).trans r_15_24) ?_
  refine X_callV (as := [.ref 112]) (st := []) rfl rfl rfl (by decide) rfl (Nat.le_of_ble_eq_true rfl) (by decide) (Nat.le_of_ble_eq_true rfl) rfl ((congrFun F.1 257).trans s_257) (by decide) ?_
  refine LW_ls (ls' := [some (.ref 257), some (.ref 112)]) rfl ?_
  refine X_aload_n rfl rfl rfl rfl ?_
  refine X_aload_n rfl rfl rfl rfl ?_
  refine X_getI (v := (0 : Int32)) rfl rfl rfl ((congrFun F.1 112).trans s_112) rfl ((congrFun (F.2.2 112 (by decide)).1 0).trans i_112_0) ?_
  refine X_putI rfl rfl rfl ((congrFun F.1 257).trans s_257) rfl rfl rfl rfl ?_
  refine X_aload_n rfl rfl rfl rfl ?_
  refine X_aload_n rfl rfl rfl rfl ?_
  refine X_getI (v := (0 : Int32)) rfl rfl rfl ((congrFun F.1 112).trans s_112) rfl ((congrFun (F.2.2 112 (by decide)).1 1).trans i_112_1) ?_
  refine X_putI rfl rfl rfl ((congrFun F.1 257).trans s_257) rfl rfl rfl rfl ?_
  refine X_aload_n rfl rfl rfl rfl ?_
  refine X_aload_n rfl rfl rfl rfl ?_
  refine X_getI (v := (17 : Int32)) rfl rfl rfl ((congrFun F.1 112).trans s_112) rfl ((congrFun (F.2.2 112 (by decide)).1 2).trans i_112_2) ?_
  refine X_putI rfl rfl rfl ((congrFun F.1 257).trans s_257) rfl rfl rfl rfl ?_
  refine X_aload_n rfl rfl rfl rfl ?_
  refine X_aload_n rfl rfl rfl rfl ?_
  refine X_getI (v := (0 : Int32)) rfl rfl rfl ((congrFun F.1 112).trans s_112) rfl ((congrFun (F.2.2 112 (by decide)).1 3).trans i_112_3) ?_
  refine X_putI rfl rfl rfl ((congrFun F.1 257).trans s_257) rfl rfl rfl rfl ?_
  refine X_aload_n rfl rfl rfl rfl ?_
  refine X_getR (a := 113) rfl rfl rfl ((congrFun F.1 112).trans s_112) rfl ((congrFun (F.2.1 112 (by decide)) 4).trans r_112_4) ?_
  refine X_iconst (v := (0 : Int32)) rfl rfl rfl ?_
  refine X_aload_n rfl rfl rfl rfl ?_
  refine X_getR (a := 258) rfl rfl rfl ((congrFun F.1 257).trans s_257) rfl ((congrFun (F.2.1 257 (by decide)) 4).trans r_257_4) ?_
  refine X_iconst (v := (0 : Int32)) rfl rfl rfl ?_
  refine X_bipush (v := (26 : Int32)) rfl rfl rfl ?_
  refine X_copy (sp' := 0) (dp' := 0) (n' := 26) rfl rfl rfl ((congrFun F.1 113).trans s_113) ((congrFun F.1 258).trans s_258) (by decide) (by decide) (by decide) rfl rfl rfl (by decide) (by decide) (Nat.le_of_ble_eq_true rfl) ?_
  refine X_aload_n rfl rfl rfl rfl ?_
  refine X_getR (a := 114) rfl rfl rfl ((congrFun F.1 112).trans s_112) rfl ((congrFun (F.2.1 112 (by decide)) 5).trans r_112_5) ?_
  refine X_iconst (v := (0 : Int32)) rfl rfl rfl ?_
  refine X_aload_n rfl rfl rfl rfl ?_
  refine X_getR (a := 259) rfl rfl rfl ((congrFun F.1 257).trans s_257) rfl ((congrFun (F.2.1 257 (by decide)) 5).trans r_257_5) ?_
  refine X_iconst (v := (0 : Int32)) rfl rfl rfl ?_
  refine X_bipush (v := (26 : Int32)) rfl rfl rfl ?_
  refine X_copy (sp' := 0) (dp' := 0) (n' := 26) rfl rfl rfl ((congrFun F.1 114).trans s_114) ((congrFun F.1 259).trans s_259) (by decide) (by decide) (by decide) rfl rfl rfl (by decide) (by decide) (Nat.le_of_ble_eq_true rfl) ?_
  refine X_aload_n rfl rfl rfl rfl ?_
  refine X_getR (a := 115) rfl rfl rfl ((congrFun F.1 112).trans s_112) rfl ((congrFun (F.2.1 112 (by decide)) 6).trans r_112_6) ?_
  refine X_iconst (v := (0 : Int32)) rfl rfl rfl ?_
  refine X_aload_n rfl rfl rfl rfl ?_
  refine X_getR (a := 260) rfl rfl rfl ((congrFun F.1 257).trans s_257) rfl ((congrFun (F.2.1 257 (by decide)) 6).trans r_257_6) ?_
  refine X_iconst (v := (0 : Int32)) rfl rfl rfl ?_
  refine X_bipush (v := (26 : Int32)) rfl rfl rfl ?_
  refine X_copy (sp' := 0) (dp' := 0) (n' := 26) rfl rfl rfl ((congrFun F.1 115).trans s_115) ((congrFun F.1 260).trans s_260) (by decide) (by decide) (by decide) rfl rfl rfl (by decide) (by decide) (Nat.le_of_ble_eq_true rfl) ?_
  refine LW_return (st := []) rfl rfl ?_
  refine X_iinc (v := (25 : Int32)) (ls' := [some (.ref 159), some (.ref 14), some (.int (25 : Int32))]) rfl rfl rfl rfl rfl ?_
  refine LW_goto (tgt := 18) rfl rfl ?_
  refine X_iload_n rfl rfl rfl rfl ?_
  refine X_bipush (v := (30 : Int32)) rfl rfl rfl ?_
  refine X_icmp_ge (tgt := 45) rfl rfl rfl (fun q => absurd q (by decide)) (fun _ => ?_)
  refine X_aload_n rfl rfl rfl rfl ?_
  refine X_getR (a := 160) rfl rfl rfl ((congrFun F.1 159).trans s_159) rfl ((congrFun (F.2.1 159 (by decide)) 2).trans r_159_2) ?_
  refine X_iload_n rfl rfl rfl rfl ?_
  refine X_aald (a := 261) (t0 := 3) rfl rfl ((congrFun F.1 160).trans s_160) rfl (vp_in_d rfl) ((congrFun (F.2.1 160 (by decide)) 25).trans r_160_25) ?_
  refine X_aload_n rfl rfl rfl rfl ?_
  refine X_getR (a := 15) rfl rfl rfl ((congrFun F.1 14).trans s_14) rfl ((congrFun (F.2.1 14 (by decide)) 2).trans r_14_2) ?_
  refine X_iload_n rfl rfl rfl rfl ?_
  refine X_aald (a := 116) (t0 := 3) rfl rfl ((congrFun F.1 15).trans s_15) rfl (vp_in_d rfl) ((congrFun (F.2.1 15 (by decide)) 25).trans r_15_25) ?_
  refine X_callV (as := [.ref 116]) (st := []) rfl rfl rfl (by decide) rfl (Nat.le_of_ble_eq_true rfl) (by decide) (Nat.le_of_ble_eq_true rfl) rfl ((congrFun F.1 261).trans s_261) (by decide) ?_
  refine LW_ls (ls' := [some (.ref 261), some (.ref 116)]) rfl ?_
  refine X_aload_n rfl rfl rfl rfl ?_
  refine X_aload_n rfl rfl rfl rfl ?_
  refine X_getI (v := (0 : Int32)) rfl rfl rfl ((congrFun F.1 116).trans s_116) rfl ((congrFun (F.2.2 116 (by decide)).1 0).trans i_116_0) ?_
  refine X_putI rfl rfl rfl ((congrFun F.1 261).trans s_261) rfl rfl rfl rfl ?_
  refine X_aload_n rfl rfl rfl rfl ?_
  refine X_aload_n rfl rfl rfl rfl ?_
  refine X_getI (v := (0 : Int32)) rfl rfl rfl ((congrFun F.1 116).trans s_116) rfl ((congrFun (F.2.2 116 (by decide)).1 1).trans i_116_1) ?_
  refine X_putI rfl rfl rfl ((congrFun F.1 261).trans s_261) rfl rfl rfl rfl ?_
  refine X_aload_n rfl rfl rfl rfl ?_
  refine X_aload_n rfl rfl rfl rfl ?_
  refine X_getI (v := (17 : Int32)) rfl rfl rfl ((congrFun F.1 116).trans s_116) rfl ((congrFun (F.2.2 116 (by decide)).1 2).trans i_116_2) ?_
  refine X_putI rfl rfl rfl ((congrFun F.1 261).trans s_261) rfl rfl rfl rfl ?_
  refine X_aload_n rfl rfl rfl rfl ?_
  refine X_aload_n rfl rfl rfl rfl ?_
  refine X_getI (v := (0 : Int32)) rfl rfl rfl ((congrFun F.1 116).trans s_116) rfl ((congrFun (F.2.2 116 (by decide)).1 3).trans i_116_3) ?_
  refine X_putI rfl rfl rfl ((congrFun F.1 261).trans s_261) rfl rfl rfl rfl ?_
  refine X_aload_n rfl rfl rfl rfl ?_
  refine X_getR (a := 117) rfl rfl rfl ((congrFun F.1 116).trans s_116) rfl ((congrFun (F.2.1 116 (by decide)) 4).trans r_116_4) ?_
  refine X_iconst (v := (0 : Int32)) rfl rfl rfl ?_
  refine X_aload_n rfl rfl rfl rfl ?_
  refine X_getR (a := 262) rfl rfl rfl ((congrFun F.1 261).trans s_261) rfl ((congrFun (F.2.1 261 (by decide)) 4).trans r_261_4) ?_
  refine X_iconst (v := (0 : Int32)) rfl rfl rfl ?_
  refine X_bipush (v := (26 : Int32)) rfl rfl rfl ?_
  refine X_copy (sp' := 0) (dp' := 0) (n' := 26) rfl rfl rfl ((congrFun F.1 117).trans s_117) ((congrFun F.1 262).trans s_262) (by decide) (by decide) (by decide) rfl rfl rfl (by decide) (by decide) (Nat.le_of_ble_eq_true rfl) ?_
  refine X_aload_n rfl rfl rfl rfl ?_
  refine X_getR (a := 118) rfl rfl rfl ((congrFun F.1 116).trans s_116) rfl ((congrFun (F.2.1 116 (by decide)) 5).trans r_116_5) ?_
  refine X_iconst (v := (0 : Int32)) rfl rfl rfl ?_
  refine X_aload_n rfl rfl rfl rfl ?_
  refine X_getR (a := 263) rfl rfl rfl ((congrFun F.1 261).trans s_261) rfl ((congrFun (F.2.1 261 (by decide)) 5).trans r_261_5) ?_
  refine X_iconst (v := (0 : Int32)) rfl rfl rfl ?_
  refine X_bipush (v := (26 : Int32)) rfl rfl rfl ?_
  refine X_copy (sp' := 0) (dp' := 0) (n' := 26) rfl rfl rfl ((congrFun F.1 118).trans s_118) ((congrFun F.1 263).trans s_263) (by decide) (by decide) (by decide) rfl rfl rfl (by decide) (by decide) (Nat.le_of_ble_eq_true rfl) ?_
  refine X_aload_n rfl rfl rfl rfl ?_
  refine X_getR (a := 119) rfl rfl rfl ((congrFun F.1 116).trans s_116) rfl ((congrFun (F.2.1 116 (by decide)) 6).trans r_116_6) ?_
  refine X_iconst (v := (0 : Int32)) rfl rfl rfl ?_
  refine X_aload_n rfl rfl rfl rfl ?_
  refine X_getR (a := 264) rfl rfl rfl ((congrFun F.1 261).trans s_261) rfl ((congrFun (F.2.1 261 (by decide)) 6).trans r_261_6) ?_
  refine X_iconst (v := (0 : Int32)) rfl rfl rfl ?_
  refine X_bipush (v := (26 : Int32)) rfl rfl rfl ?_
  refine X_copy (sp' := 0) (dp' := 0) (n' := 26) rfl rfl rfl ((congrFun F.1 119).trans s_119) ((congrFun F.1 264).trans s_264) (by decide) (by decide) (by decide) rfl rfl rfl (by decide) (by decide) (Nat.le_of_ble_eq_true rfl) ?_
  refine LW_return (st := []) rfl rfl ?_
  refine X_iinc (v := (26 : Int32)) (ls' := [some (.ref 159), some (.ref 14), some (.int (26 : Int32))]) rfl rfl rfl rfl rfl ?_
  refine LW_goto (tgt := 18) rfl rfl ?_
  refine X_iload_n rfl rfl rfl rfl ?_
  refine X_bipush (v := (30 : Int32)) rfl rfl rfl ?_
  refine X_icmp_ge (tgt := 45) rfl rfl rfl (fun q => absurd q (by decide)) (fun _ => ?_)
  refine X_aload_n rfl rfl rfl rfl ?_
  refine X_getR (a := 160) rfl rfl rfl ((congrFun F.1 159).trans s_159) rfl ((congrFun (F.2.1 159 (by decide)) 2).trans r_159_2) ?_
  refine X_iload_n rfl rfl rfl rfl ?_
  refine X_aald (a := 265) (t0 := 3) rfl rfl ((congrFun F.1 160).trans s_160) rfl (vp_in_d rfl) ((congrFun (F.2.1 160 (by decide)) 26).trans r_160_26) ?_
  refine X_aload_n rfl rfl rfl rfl ?_
  refine X_getR (a := 15) rfl rfl rfl ((congrFun F.1 14).trans s_14) rfl ((congrFun (F.2.1 14 (by decide)) 2).trans r_14_2) ?_
  refine X_iload_n rfl rfl rfl rfl ?_
  refine X_aald (a := 120) (t0 := 3) rfl rfl ((congrFun F.1 15).trans s_15) rfl (vp_in_d rfl) ((congrFun (F.2.1 15 (by decide)) 26).trans r_15_26) ?_
  refine X_callV (as := [.ref 120]) (st := []) rfl rfl rfl (by decide) rfl (Nat.le_of_ble_eq_true rfl) (by decide) (Nat.le_of_ble_eq_true rfl) rfl ((congrFun F.1 265).trans s_265) (by decide) ?_
  refine LW_ls (ls' := [some (.ref 265), some (.ref 120)]) rfl ?_
  refine X_aload_n rfl rfl rfl rfl ?_
  refine X_aload_n rfl rfl rfl rfl ?_
  refine X_getI (v := (0 : Int32)) rfl rfl rfl ((congrFun F.1 120).trans s_120) rfl ((congrFun (F.2.2 120 (by decide)).1 0).trans i_120_0) ?_
  refine X_putI rfl rfl rfl ((congrFun F.1 265).trans s_265) rfl rfl rfl rfl ?_
  refine X_aload_n rfl rfl rfl rfl ?_
  refine X_aload_n rfl rfl rfl rfl ?_
  refine X_getI (v := (0 : Int32)) rfl rfl rfl ((congrFun F.1 120).trans s_120) rfl ((congrFun (F.2.2 120 (by decide)).1 1).trans i_120_1) ?_
  refine X_putI rfl rfl rfl ((congrFun F.1 265).trans s_265) rfl rfl rfl rfl ?_
  refine X_aload_n rfl rfl rfl rfl ?_
  refine X_aload_n rfl rfl rfl rfl ?_
  refine X_getI (v := (17 : Int32)) rfl rfl rfl ((congrFun F.1 120).trans s_120) rfl ((congrFun (F.2.2 120 (by decide)).1 2).trans i_120_2) ?_
  refine X_putI rfl rfl rfl ((congrFun F.1 265).trans s_265) rfl rfl rfl rfl ?_
  refine X_aload_n rfl rfl rfl rfl ?_
  refine X_aload_n rfl rfl rfl rfl ?_
  refine X_getI (v := (0 : Int32)) rfl rfl rfl ((congrFun F.1 120).trans s_120) rfl ((congrFun (F.2.2 120 (by decide)).1 3).trans i_120_3) ?_
  refine X_putI rfl rfl rfl ((congrFun F.1 265).trans s_265) rfl rfl rfl rfl ?_
  refine X_aload_n rfl rfl rfl rfl ?_
  refine X_getR (a := 121) rfl rfl rfl ((congrFun F.1 120).trans s_120) rfl ((congrFun (F.2.1 120 (by decide)) 4).trans r_120_4) ?_
  refine X_iconst (v := (0 : Int32)) rfl rfl rfl ?_
  refine X_aload_n rfl rfl rfl rfl ?_
  refine X_getR (a := 266) rfl rfl rfl ((congrFun F.1 265).trans s_265) rfl ((congrFun (F.2.1 265 (by decide)) 4).trans r_265_4) ?_
  refine X_iconst (v := (0 : Int32)) rfl rfl rfl ?_
  refine X_bipush (v := (26 : Int32)) rfl rfl rfl ?_
  refine X_copy (sp' := 0) (dp' := 0) (n' := 26) rfl rfl rfl ((congrFun F.1 121).trans s_121) ((congrFun F.1 266).trans s_266) (by decide) (by decide) (by decide) rfl rfl rfl (by decide) (by decide) (Nat.le_of_ble_eq_true rfl) ?_
  refine X_aload_n rfl rfl rfl rfl ?_
  refine X_getR (a := 122) rfl rfl rfl ((congrFun F.1 120).trans s_120) rfl ((congrFun (F.2.1 120 (by decide)) 5).trans r_120_5) ?_
  refine X_iconst (v := (0 : Int32)) rfl rfl rfl ?_
  refine X_aload_n rfl rfl rfl rfl ?_
  refine X_getR (a := 267) rfl rfl rfl ((congrFun F.1 265).trans s_265) rfl ((congrFun (F.2.1 265 (by decide)) 5).trans r_265_5) ?_
  refine X_iconst (v := (0 : Int32)) rfl rfl rfl ?_
  refine X_bipush (v := (26 : Int32)) rfl rfl rfl ?_
  refine X_copy (sp' := 0) (dp' := 0) (n' := 26) rfl rfl rfl ((congrFun F.1 122).trans s_122) ((congrFun F.1 267).trans s_267) (by decide) (by decide) (by decide) rfl rfl rfl (by decide) (by decide) (Nat.le_of_ble_eq_true rfl) ?_
  refine X_aload_n rfl rfl rfl rfl ?_
  refine X_getR (a := 123) rfl rfl rfl ((congrFun F.1 120).trans s_120) rfl ((congrFun (F.2.1 120 (by decide)) 6).trans r_120_6) ?_
  refine X_iconst (v := (0 : Int32)) rfl rfl rfl ?_
  refine X_aload_n rfl rfl rfl rfl ?_
  refine X_getR (a := 268) rfl rfl rfl ((congrFun F.1 265).trans s_265) rfl ((congrFun (F.2.1 265 (by decide)) 6).trans r_265_6) ?_
  refine X_iconst (v := (0 : Int32)) rfl rfl rfl ?_
  refine X_bipush (v := (26 : Int32)) rfl rfl rfl ?_
  refine X_copy (sp' := 0) (dp' := 0) (n' := 26) rfl rfl rfl ((congrFun F.1 123).trans s_123) ((congrFun F.1 268).trans s_268) (by decide) (by decide) (by decide) rfl rfl rfl (by decide) (by decide) (Nat.le_of_ble_eq_true rfl) ?_
  refine LW_return (st := []) rfl rfl ?_
  refine X_iinc (v := (27 : Int32)) (ls' := [some (.ref 159), some (.ref 14), some (.int (27 : Int32))]) rfl rfl rfl rfl rfl ?_
  refine LW_goto (tgt := 18) rfl rfl ?_
  refine X_iload_n rfl rfl rfl rfl ?_
  refine X_bipush (v := (30 : Int32)) rfl rfl rfl ?_
  refine X_icmp_ge (tgt := 45) rfl rfl rfl (fun q => absurd q (by decide)) (fun _ => ?_)
  refine X_aload_n rfl rfl rfl rfl ?_
  refine X_getR (a := 160) rfl rfl rfl ((congrFun F.1 159).trans s_159) rfl ((congrFun (F.2.1 159 (by decide)) 2).trans r_159_2) ?_
  refine X_iload_n rfl rfl rfl rfl ?_
  refine X_aald (a := 269) (t0 := 3) rfl rfl ((congrFun F.1 160).trans s_160) rfl (vp_in_d rfl) ((congrFun (F.2.1 160 (by decide)) 27).trans r_160_27) ?_
  refine X_aload_n rfl rfl rfl rfl ?_
  refine X_getR (a := 15) rfl rfl rfl ((congrFun F.1 14).trans s_14) rfl ((congrFun (F.2.1 14 (by decide)) 2).trans r_14_2) ?_
  refine X_iload_n rfl rfl rfl rfl ?_
  refine X_aald (a := 124) (t0 := 3) rfl rfl ((congrFun F.1 15).trans s_15) rfl (vp_in_d rfl) ((congrFun (F.2.1 15 (by decide)) 27).trans r_15_27) ?_
  refine X_callV (as := [.ref 124]) (st := []) rfl rfl rfl (by decide) rfl (Nat.le_of_ble_eq_true rfl) (by decide) (Nat.le_of_ble_eq_true rfl) rfl ((congrFun F.1 269).trans s_269) (by decide) ?_
  refine LW_ls (ls' := [some (.ref 269), some (.ref 124)]) rfl ?_
  refine X_aload_n rfl rfl rfl rfl ?_
  refine X_aload_n rfl rfl rfl rfl ?_
  refine X_getI (v := (0 : Int32)) rfl rfl rfl ((congrFun F.1 124).trans s_124) rfl ((congrFun (F.2.2 124 (by decide)).1 0).trans i_124_0) ?_
  refine X_putI rfl rfl rfl ((congrFun F.1 269).trans s_269) rfl rfl rfl rfl ?_
  refine X_aload_n rfl rfl rfl rfl ?_
  refine X_aload_n rfl rfl rfl rfl ?_
  refine X_getI (v := (0 : Int32)) rfl rfl rfl ((congrFun F.1 124).trans s_124) rfl ((congrFun (F.2.2 124 (by decide)).1 1).trans i_124_1) ?_
  refine X_putI rfl rfl rfl ((congrFun F.1 269).trans s_269) rfl rfl rfl rfl ?_
  refine X_aload_n rfl rfl rfl rfl ?_
  refine X_aload_n rfl rfl rfl rfl ?_
  refine X_getI (v := (17 : Int32)) rfl rfl rfl ((congrFun F.1 124).trans s_124) rfl ((congrFun (F.2.2 124 (by decide)).1 2).trans i_124_2) ?_
  refine X_putI rfl rfl rfl ((congrFun F.1 269).trans s_269) rfl rfl rfl rfl ?_
  refine X_aload_n rfl rfl rfl rfl ?_
  refine X_aload_n rfl rfl rfl rfl ?_
  refine X_getI (v := (0 : Int32)) rfl rfl rfl ((congrFun F.1 124).trans s_124) rfl ((congrFun (F.2.2 124 (by decide)).1 3).trans i_124_3) ?_
  refine X_putI rfl rfl rfl ((congrFun F.1 269).trans s_269) rfl rfl rfl rfl ?_
  refine X_aload_n rfl rfl rfl rfl ?_
  refine X_getR (a := 125) rfl rfl rfl ((congrFun F.1 124).trans s_124) rfl ((congrFun (F.2.1 124 (by decide)) 4).trans r_124_4) ?_
  refine X_iconst (v := (0 : Int32)) rfl rfl rfl ?_
  refine X_aload_n rfl rfl rfl rfl ?_
  refine X_getR (a := 270) rfl rfl rfl ((congrFun F.1 269).trans s_269) rfl ((congrFun (F.2.1 269 (by decide)) 4).trans r_269_4) ?_
  refine X_iconst (v := (0 : Int32)) rfl rfl rfl ?_
  refine X_bipush (v := (26 : Int32)) rfl rfl rfl ?_
  refine X_copy (sp' := 0) (dp' := 0) (n' := 26) rfl rfl rfl ((congrFun F.1 125).trans s_125) ((congrFun F.1 270).trans s_270) (by decide) (by decide) (by decide) rfl rfl rfl (by decide) (by decide) (Nat.le_of_ble_eq_true rfl) ?_
  refine X_aload_n rfl rfl rfl rfl ?_
  refine X_getR (a := 126) rfl rfl rfl ((congrFun F.1 124).trans s_124) rfl ((congrFun (F.2.1 124 (by decide)) 5).trans r_124_5) ?_
  refine X_iconst (v := (0 : Int32)) rfl rfl rfl ?_
  refine X_aload_n rfl rfl rfl rfl ?_
  refine X_getR (a := 271) rfl rfl rfl ((congrFun F.1 269).trans s_269) rfl ((congrFun (F.2.1 269 (by decide)) 5).trans r_269_5) ?_
  refine X_iconst (v := (0 : Int32)) rfl rfl rfl ?_
  refine X_bipush (v := (26 : Int32)) rfl rfl rfl ?_
  refine X_copy (sp' := 0) (dp' := 0) (n' := 26) rfl rfl rfl ((congrFun F.1 126).trans s_126) ((congrFun F.1 271).trans s_271) (by decide) (by decide) (by decide) rfl rfl rfl (by decide) (by decide) (Nat.le_of_ble_eq_true rfl) ?_
  refine X_aload_n rfl rfl rfl rfl ?_
  refine X_getR (a := 127) rfl rfl rfl ((congrFun F.1 124).trans s_124) rfl ((congrFun (F.2.1 124 (by decide)) 6).trans r_124_6) ?_
  refine X_iconst (v := (0 : Int32)) rfl rfl rfl ?_
  refine X_aload_n rfl rfl rfl rfl ?_
  refine X_getR (a := 272) rfl rfl rfl ((congrFun F.1 269).trans s_269) rfl ((congrFun (F.2.1 269 (by decide)) 6).trans r_269_6) ?_
  refine X_iconst (v := (0 : Int32)) rfl rfl rfl ?_
  refine X_bipush (v := (26 : Int32)) rfl rfl rfl ?_
  refine X_copy (sp' := 0) (dp' := 0) (n' := 26) rfl rfl rfl ((congrFun F.1 127).trans s_127) ((congrFun F.1 272).trans s_272) (by decide) (by decide) (by decide) rfl rfl rfl (by decide) (by decide) (Nat.le_of_ble_eq_true rfl) ?_
  refine LW_return (st := []) rfl rfl ?_
  refine X_iinc (v := (28 : Int32)) (ls' := [some (.ref 159), some (.ref 14), some (.int (28 : Int32))]) rfl rfl rfl rfl rfl ?_
  refine LW_goto (tgt := 18) rfl rfl ?_
  refine X_iload_n rfl rfl rfl rfl ?_
  refine X_bipush (v := (30 : Int32)) rfl rfl rfl ?_
  refine X_icmp_ge (tgt := 45) rfl rfl rfl (fun q => absurd q (by decide)) (fun _ => ?_)
  refine X_aload_n rfl rfl rfl rfl ?_
  refine X_getR (a := 160) rfl rfl rfl ((congrFun F.1 159).trans s_159) rfl ((congrFun (F.2.1 159 (by decide)) 2).trans r_159_2) ?_
  refine X_iload_n rfl rfl rfl rfl ?_
  refine X_aald (a := 273) (t0 := 3) rfl rfl ((congrFun F.1 160).trans s_160) rfl (vp_in_d rfl) ((congrFun (F.2.1 160 (by decide)) 28).trans r_160_28) ?_
  refine X_aload_n rfl rfl rfl rfl ?_
  refine X_getR (a := 15) rfl rfl rfl ((congrFun F.1 14).trans s_14) rfl ((congrFun (F.2.1 14 (by decide)) 2).trans r_14_2) ?_
  refine X_iload_n rfl rfl rfl rfl ?_
  refine X_aald (a := 128) (t0 := 3) rfl rfl ((congrFun F.1 15).trans s_15) rfl (vp_in_d rfl) ((congrFun (F.2.1 15 (by decide)) 28).trans r_15_28) ?_
  refine X_callV (as := [.ref 128]) (st := []) rfl rfl rfl (by decide) rfl (Nat.le_of_ble_eq_true rfl) (by decide) (Nat.le_of_ble_eq_true rfl) rfl ((congrFun F.1 273).trans s_273) (by decide) ?_
  refine LW_ls (ls' := [some (.ref 273), some (.ref 128)]) rfl ?_
  refine X_aload_n rfl rfl rfl rfl ?_
  refine X_aload_n rfl rfl rfl rfl ?_
  refine X_getI (v := (0 : Int32)) rfl rfl rfl ((congrFun F.1 128).trans s_128) rfl ((congrFun (F.2.2 128 (by decide)).1 0).trans i_128_0) ?_
  refine X_putI rfl rfl rfl ((congrFun F.1 273).trans s_273) rfl rfl rfl rfl ?_
  refine X_aload_n rfl rfl rfl rfl ?_
  refine X_aload_n rfl rfl rfl rfl ?_
  refine X_getI (v := (0 : Int32)) rfl rfl rfl ((congrFun F.1 128).trans s_128) rfl ((congrFun (F.2.2 128 (by decide)).1 1).trans i_128_1) ?_
  refine X_putI rfl rfl rfl ((congrFun F.1 273).trans s_273) rfl rfl rfl rfl ?_
  refine X_aload_n rfl rfl rfl rfl ?_
  refine X_aload_n rfl rfl rfl rfl ?_
  refine X_getI (v := (17 : Int32)) rfl rfl rfl ((congrFun F.1 128).trans s_128) rfl ((congrFun (F.2.2 128 (by decide)).1 2).trans i_128_2) ?_
  refine X_putI rfl rfl rfl ((congrFun F.1 273).trans s_273) rfl rfl rfl rfl ?_
  refine X_aload_n rfl rfl rfl rfl ?_
  refine X_aload_n rfl rfl rfl rfl ?_
  refine X_getI (v := (0 : Int32)) rfl rfl rfl ((congrFun F.1 128).trans s_128) rfl ((congrFun (F.2.2 128 (by decide)).1 3).trans i_128_3) ?_
  refine X_putI rfl rfl rfl ((congrFun F.1 273).trans s_273) rfl rfl rfl rfl ?_
  refine X_aload_n rfl rfl rfl rfl ?_
  refine X_getR (a := 129) rfl rfl rfl ((congrFun F.1 128).trans s_128) rfl ((congrFun (F.2.1 128 (by decide)) 4).trans r_128_4) ?_
  refine X_iconst (v := (0 : Int32)) rfl rfl rfl ?_
  refine X_aload_n rfl rfl rfl rfl ?_
  refine X_getR (a := 274) rfl rfl rfl ((congrFun F.1 273).trans s_273) rfl ((congrFun (F.2.1 273 (by decide)) 4).trans r_273_4) ?_
  refine X_iconst (v := (0 : Int32)) rfl rfl rfl ?_
  refine X_bipush (v := (26 : Int32)) rfl rfl rfl ?_
  refine X_copy (sp' := 0) (dp' := 0) (n' := 26) rfl rfl rfl ((congrFun F.1 129).trans s_129) ((congrFun F.1 274).trans s_274) (by decide) (by decide) (by decide) rfl rfl rfl (by decide) (by decide) (Nat.le_of_ble_eq_true rfl) ?_
  refine X_aload_n rfl rfl rfl rfl ?_
  refine X_getR (a := 130) rfl rfl rfl ((congrFun F.1 128).trans s_128) rfl ((congrFun (F.2.1 128 (by decide)) 5).trans r_128_5) ?_
  refine X_iconst (v := (0 : Int32)) rfl rfl rfl ?_
  refine X_aload_n rfl rfl rfl rfl ?_
  refine X_getR (a := 275) rfl rfl rfl ((congrFun F.1 273).trans s_273) rfl ((congrFun (F.2.1 273 (by decide)) 5).trans r_273_5) ?_
  refine X_iconst (v := (0 : Int32)) rfl rfl rfl ?_
  refine X_bipush (v := (26 : Int32)) rfl rfl rfl ?_
  refine X_copy (sp' := 0) (dp' := 0) (n' := 26) rfl rfl rfl ((congrFun F.1 130).trans s_130) ((congrFun F.1 275).trans s_275) (by decide) (by decide) (by decide) rfl rfl rfl (by decide) (by decide) (Nat.le_of_ble_eq_true rfl) ?_
  refine X_aload_n rfl rfl rfl rfl ?_
  refine X_getR (a := 131) rfl rfl rfl ((congrFun F.1 128).trans s_128) rfl ((congrFun (F.2.1 128 (by decide)) 6).trans r_128_6) ?_
  refine X_iconst (v := (0 : Int32)) rfl rfl rfl ?_
  refine X_aload_n rfl rfl rfl rfl ?_
  refine X_getR (a := 276) rfl rfl rfl ((congrFun F.1 273).trans s_273) rfl ((congrFun (F.2.1 273 (by decide)) 6).trans r_273_6) ?_
  refine X_iconst (v := (0 : Int32)) rfl rfl rfl ?_
  refine X_bipush (v := (26 : Int32)) rfl rfl rfl ?_
  refine X_copy (sp' := 0) (dp' := 0) (n' := 26) rfl rfl rfl ((congrFun F.1 131).trans s_131) ((congrFun F.1 276).trans s_276) (by decide) (by decide) (by decide) rfl rfl rfl (by decide) (by decide) (Nat.le_of_ble_eq_true rfl) ?_
  refine LW_return (st := []) rfl rfl ?_
  refine X_iinc (v := (29 : Int32)) (ls' := [some (.ref 159), some (.ref 14), some (.int (29 : Int32))]) rfl rfl rfl rfl rfl ?_
  refine LW_goto (tgt := 18) rfl rfl ?_
  refine X_iload_n rfl rfl rfl rfl ?_
  refine X_bipush (v := (30 : Int32)) rfl rfl rfl ?_
  refine X_icmp_ge (tgt := 45) rfl rfl rfl (fun q => absurd q (by decide)) (fun _ => ?_)
  refine X_aload_n rfl rfl rfl rfl ?_
  refine X_getR (a := 160) rfl rfl rfl ((congrFun F.1 159).trans s_159) rfl ((congrFun (F.2.1 159 (by decide)) 2).trans r_159_2) ?_
  refine X_iload_n rfl rfl rfl rfl ?_
  refine X_aald (a := 277) (t0 := 3) rfl rfl ((congrFun F.1 160).trans s_160) rfl (vp_in_d rfl) ((congrFun (F.2.1 160 (by decide)) 29).trans r_160_29) ?_
  refine X_aload_n rfl rfl rfl rfl ?_
  refine X_getR (a := 15) rfl rfl rfl ((congrFun F.1 14).trans s_14) rfl ((congrFun (F.2.1 14 (by decide)) 2).trans r_14_2) ?_
  refine X_iload_n rfl rfl rfl rfl ?_
  refine X_aald (a := 132) (t0 := 3) rfl rfl ((congrFun F.1 15).trans s_15) rfl (vp_in_d rfl) ((congrFun (F.2.1 15 (by decide)) 29).trans r_15_29) ?_
  refine X_callV (as := [.ref 132]) (st := []) rfl rfl rfl (by decide) rfl (Nat.le_of_ble_eq_true rfl) (by decide) (Nat.le_of_ble_eq_true rfl) rfl ((congrFun F.1 277).trans s_277) (by decide) ?_
  refine LW_ls (ls' := [some (.ref 277), some (.ref 132)]) rfl ?_
  refine X_aload_n rfl rfl rfl rfl ?_
  refine X_aload_n rfl rfl rfl rfl ?_
  refine X_getI (v := (0 : Int32)) rfl rfl rfl ((congrFun F.1 132).trans s_132) rfl ((congrFun (F.2.2 132 (by decide)).1 0).trans i_132_0) ?_
  refine X_putI rfl rfl rfl ((congrFun F.1 277).trans s_277) rfl rfl rfl rfl ?_
  refine X_aload_n rfl rfl rfl rfl ?_
  refine X_aload_n rfl rfl rfl rfl ?_
  refine X_getI (v := (0 : Int32)) rfl rfl rfl ((congrFun F.1 132).trans s_132) rfl ((congrFun (F.2.2 132 (by decide)).1 1).trans i_132_1) ?_
  refine X_putI rfl rfl rfl ((congrFun F.1 277).trans s_277) rfl rfl rfl rfl ?_
  refine X_aload_n rfl rfl rfl rfl ?_
  refine X_aload_n rfl rfl rfl rfl ?_
  refine X_getI (v := (17 : Int32)) rfl rfl rfl ((congrFun F.1 132).trans s_132) rfl ((congrFun (F.2.2 132 (by decide)).1 2).trans i_132_2) ?_
  refine X_putI rfl rfl rfl ((congrFun F.1 277).trans s_277) rfl rfl rfl rfl ?_
  refine X_aload_n rfl rfl rfl rfl ?_
  refine X_aload_n rfl rfl rfl rfl ?_
  refine X_getI (v := (0 : Int32)) rfl rfl rfl ((congrFun F.1 132).trans s_132) rfl ((congrFun (F.2.2 132 (by decide)).1 3).trans i_132_3) ?_
  refine X_putI rfl rfl rfl ((congrFun F.1 277).trans s_277) rfl rfl rfl rfl ?_
  refine X_aload_n rfl rfl rfl rfl ?_
  refine X_getR (a := 133) rfl rfl rfl ((congrFun F.1 132).trans s_132) rfl ((congrFun (F.2.1 132 (by decide)) 4).trans r_132_4) ?_
  refine X_iconst (v := (0 : Int32)) rfl rfl rfl ?_
  refine X_aload_n rfl rfl rfl rfl ?_
  refine X_getR (a := 278) rfl rfl rfl ((congrFun F.1 277).trans s_277) rfl ((congrFun (F.2.1 277 (by decide)) 4).trans r_277_4) ?_
  refine X_iconst (v := (0 : Int32)) rfl rfl rfl ?_
  refine X_bipush (v := (26 : Int32)) rfl rfl rfl ?_
  refine X_copy (sp' := 0) (dp' := 0) (n' := 26) rfl rfl rfl ((congrFun F.1 133).trans s_133) ((congrFun F.1 278).trans s_278) (by decide) (by decide) (by decide) rfl rfl rfl (by decide) (by decide) (Nat.le_of_ble_eq_true rfl) ?_
  refine X_aload_n rfl rfl rfl rfl ?_
  refine X_getR (a := 134) rfl rfl rfl ((congrFun F.1 132).trans s_132) rfl ((congrFun (F.2.1 132 (by decide)) 5).trans r_132_5) ?_
  refine X_iconst (v := (0 : Int32)) rfl rfl rfl ?_
  refine X_aload_n rfl rfl rfl rfl ?_
  refine X_getR (a := 279) rfl rfl rfl ((congrFun F.1 277).trans s_277) rfl ((congrFun (F.2.1 277 (by decide)) 5).trans r_277_5) ?_
  refine X_iconst (v := (0 : Int32)) rfl rfl rfl ?_
  refine X_bipush (v := (26 : Int32)) rfl rfl rfl ?_
  refine X_copy (sp' := 0) (dp' := 0) (n' := 26) rfl rfl rfl ((congrFun F.1 134).trans s_134) ((congrFun F.1 279).trans s_279) (by decide) (by decide) (by decide) rfl rfl rfl (by decide) (by decide) (Nat.le_of_ble_eq_true rfl) ?_
  refine X_aload_n rfl rfl rfl rfl ?_
  refine X_getR (a := 135) rfl rfl rfl ((congrFun F.1 132).trans s_132) rfl ((congrFun (F.2.1 132 (by decide)) 6).trans r_132_6) ?_
  refine X_iconst (v := (0 : Int32)) rfl rfl rfl ?_
  refine X_aload_n rfl rfl rfl rfl ?_
  refine X_getR (a := 280) rfl rfl rfl ((congrFun F.1 277).trans s_277) rfl ((congrFun (F.2.1 277 (by decide)) 6).trans r_277_6) ?_
  refine X_iconst (v := (0 : Int32)) rfl rfl rfl ?_
  refine X_bipush (v := (26 : Int32)) rfl rfl rfl ?_
  refine X_copy (sp' := 0) (dp' := 0) (n' := 26) rfl rfl rfl ((congrFun F.1 135).trans s_135) ((congrFun F.1 280).trans s_280) (by decide) (by decide) (by decide) rfl rfl rfl (by decide) (by decide) (Nat.le_of_ble_eq_true rfl) ?_
  refine LW_return (st := []) rfl rfl ?_
  refine X_iinc (v := (30 : Int32)) (ls' := [some (.ref 159), some (.ref 14), some (.int (30 : Int32))]) rfl rfl rfl rfl rfl ?_
  refine LW_goto (tgt := 18) rfl rfl ?_
  refine X_iload_n rfl rfl rfl rfl ?_
  refine X_bipush (v := (30 : Int32)) rfl rfl rfl ?_
  refine X_icmp_ge (tgt := 45) rfl rfl rfl (fun _ => ?_) (fun q => absurd q (by decide))
  refine LW_return (st := []) rfl rfl ?_
  refine X_aload_n rfl rfl rfl rfl ?_
  refine X_getR (a := 281) rfl rfl rfl ((congrFun F.1 146).trans s_146) rfl ((congrFun (F.2.1 146 (by decide)) 3).trans r_146_3) ?_
  refine X_aload_n rfl rfl rfl rfl ?_
  refine X_getR (a := 136) rfl rfl rfl ((congrFun F.1 1).trans s_1) rfl ((congrFun (F.2.1 1 (by decide)) 3).trans r_1_3) ?_
  refine X_callV (as := [.ref 136]) (st := []) rfl rfl rfl (by decide) rfl (Nat.le_of_ble_eq_true rfl) (by decide) (Nat.le_of_ble_eq_true rfl) rfl ((congrFun F.1 281).trans s_281) (by decide) ?_
  refine LW_ls (ls' := [some (.ref 281), some (.ref 136)]) rfl ?_
  refine X_aload_n rfl rfl rfl rfl ?_
  refine X_getR (a := 137) rfl rfl rfl ((congrFun F.1 136).trans s_136) rfl ((congrFun (F.2.1 136 (by decide)) 0).trans r_136_0) ?_
  refine X_iconst (v := (0 : Int32)) rfl rfl rfl ?_
  refine X_aload_n rfl rfl rfl rfl ?_
  refine X_getR (a := 282) rfl rfl rfl ((congrFun F.1 281).trans s_281) rfl ((congrFun (F.2.1 281 (by decide)) 0).trans r_281_0) ?_
  refine X_iconst (v := (0 : Int32)) rfl rfl rfl ?_
  refine X_bipush (v := (10 : Int32)) rfl rfl rfl ?_
  refine X_copy (sp' := 0) (dp' := 0) (n' := 10) rfl rfl rfl ((congrFun F.1 137).trans s_137) ((congrFun F.1 282).trans s_282) (by decide) (by decide) (by decide) rfl rfl rfl (by decide) (by decide) (Nat.le_of_ble_eq_true rfl) ?_
  refine X_aload_n rfl rfl rfl rfl ?_
  refine X_getR (a := 138) rfl rfl rfl ((congrFun F.1 136).trans s_136) rfl ((congrFun (F.2.1 136 (by decide)) 1).trans r_136_1) ?_
  refine X_iconst (v := (0 : Int32)) rfl rfl rfl ?_
  refine X_aload_n rfl rfl rfl rfl ?_
  refine X_getR (a := 283) rfl rfl rfl ((congrFun F.1 281).trans s_281) rfl ((congrFun (F.2.1 281 (by decide)) 1).trans r_281_1) ?_
  refine X_iconst (v := (0 : Int32)) rfl rfl rfl ?_
  refine X_bipush (v := (10 : Int32)) rfl rfl rfl ?_
  refine X_copy (sp' := 0) (dp' := 0) (n' := 10) rfl rfl rfl ((congrFun F.1 138).trans s_138) ((congrFun F.1 283).trans s_283) (by decide) (by decide) (by decide) rfl rfl rfl (by decide) (by decide) (Nat.le_of_ble_eq_true rfl) ?_
  refine X_aload_n rfl rfl rfl rfl ?_
  refine X_getR (a := 139) rfl rfl rfl ((congrFun F.1 136).trans s_136) rfl ((congrFun (F.2.1 136 (by decide)) 2).trans r_136_2) ?_
  refine X_iconst (v := (0 : Int32)) rfl rfl rfl ?_
  refine X_aload_n rfl rfl rfl rfl ?_
  refine X_getR (a := 284) rfl rfl rfl ((congrFun F.1 281).trans s_281) rfl ((congrFun (F.2.1 281 (by decide)) 2).trans r_281_2) ?_
  refine X_iconst (v := (0 : Int32)) rfl rfl rfl ?_
  refine X_bipush (v := (10 : Int32)) rfl rfl rfl ?_
  refine X_copy (sp' := 0) (dp' := 0) (n' := 10) rfl rfl rfl ((congrFun F.1 139).trans s_139) ((congrFun F.1 284).trans s_284) (by decide) (by decide) (by decide) rfl rfl rfl (by decide) (by decide) (Nat.le_of_ble_eq_true rfl) ?_
  refine X_aload_n rfl rfl rfl rfl ?_
  refine X_getR (a := 140) rfl rfl rfl ((congrFun F.1 136).trans s_136) rfl ((congrFun (F.2.1 136 (by decide)) 3).trans r_136_3) ?_
  refine X_iconst (v := (0 : Int32)) rfl rfl rfl ?_
  refine X_aload_n rfl rfl rfl rfl ?_
  refine X_getR (a := 285) rfl rfl rfl ((congrFun F.1 281).trans s_281) rfl ((congrFun (F.2.1 281 (by decide)) 3).trans r_281_3) ?_
  refine X_iconst (v := (0 : Int32)) rfl rfl rfl ?_
  refine X_bipush (v := (80 : Int32)) rfl rfl rfl ?_
  refine X_copy (sp' := 0) (dp' := 0) (n' := 80) rfl rfl rfl ((congrFun F.1 140).trans s_140) ((congrFun F.1 285).trans s_285) (by decide) (by decide) (by decide) rfl rfl rfl (by decide) (by decide) (Nat.le_of_ble_eq_true rfl) ?_
  refine LW_return (st := []) rfl rfl ?_
  refine X_aload_n rfl rfl rfl rfl ?_
  refine X_getR (a := 141) rfl rfl rfl ((congrFun F.1 1).trans s_1) rfl ((congrFun (F.2.1 1 (by decide)) 4).trans r_1_4) ?_
  refine X_iconst (v := (0 : Int32)) rfl rfl rfl ?_
  refine X_aload_n rfl rfl rfl rfl ?_
  refine X_getR (a := 286) rfl rfl rfl ((congrFun F.1 146).trans s_146) rfl ((congrFun (F.2.1 146 (by decide)) 4).trans r_146_4) ?_
  refine X_iconst (v := (0 : Int32)) rfl rfl rfl ?_
  refine X_bipush (v := (26 : Int32)) rfl rfl rfl ?_
  refine X_copy (sp' := 0) (dp' := 0) (n' := 26) rfl rfl rfl ((congrFun F.1 141).trans s_141) ((congrFun F.1 286).trans s_286) (by decide) (by decide) (by decide) rfl rfl rfl (by decide) (by decide) (Nat.le_of_ble_eq_true rfl) ?_
  refine X_aload_n rfl rfl rfl rfl ?_
  refine X_aload_n rfl rfl rfl rfl ?_
  refine X_getI (v := (0 : Int32)) rfl rfl rfl ((congrFun F.1 1).trans s_1) rfl ((congrFun (F.2.2 1 (by decide)).1 5).trans i_1_5) ?_
  refine X_putI rfl rfl rfl ((congrFun F.1 146).trans s_146) rfl rfl rfl rfl ?_
  refine X_aload_n rfl rfl rfl rfl ?_
  refine X_aload_n rfl rfl rfl rfl ?_
  refine X_getI (v := (-1 : Int32)) rfl rfl rfl ((congrFun F.1 1).trans s_1) rfl ((congrFun (F.2.2 1 (by decide)).1 6).trans i_1_6) ?_
  refine X_putI rfl rfl rfl ((congrFun F.1 146).trans s_146) rfl rfl rfl rfl ?_
  refine X_aload_n rfl rfl rfl rfl ?_
  refine X_aload_n rfl rfl rfl rfl ?_
  refine X_getI (v := (0 : Int32)) rfl rfl rfl ((congrFun F.1 1).trans s_1) rfl ((congrFun (F.2.2 1 (by decide)).1 7).trans i_1_7) ?_
  refine X_putI rfl rfl rfl ((congrFun F.1 146).trans s_146) rfl rfl rfl rfl ?_
  refine X_aload_n rfl rfl rfl rfl ?_
  refine X_getR (a := 142) rfl rfl rfl ((congrFun F.1 1).trans s_1) rfl ((congrFun (F.2.1 1 (by decide)) 8).trans r_1_8) ?_
  refine X_iconst (v := (0 : Int32)) rfl rfl rfl ?_
  refine X_aload_n rfl rfl rfl rfl ?_
  refine X_getR (a := 287) rfl rfl rfl ((congrFun F.1 146).trans s_146) rfl ((congrFun (F.2.1 146 (by decide)) 8).trans r_146_8) ?_
  refine X_iconst (v := (0 : Int32)) rfl rfl rfl ?_
  refine X_iconst (v := (4 : Int32)) rfl rfl rfl ?_
  refine X_copy (sp' := 0) (dp' := 0) (n' := 4) rfl rfl rfl ((congrFun F.1 142).trans s_142) ((congrFun F.1 287).trans s_287) (by decide) (by decide) (by decide) rfl rfl rfl (by decide) (by decide) (Nat.le_of_ble_eq_true rfl) ?_
  refine X_aload_n rfl rfl rfl rfl ?_
  refine X_aload_n rfl rfl rfl rfl ?_
  refine X_getI (v := (0 : Int32)) rfl rfl rfl ((congrFun F.1 1).trans s_1) rfl ((congrFun (F.2.2 1 (by decide)).1 9).trans i_1_9) ?_
  refine X_putI rfl rfl rfl ((congrFun F.1 146).trans s_146) rfl rfl rfl rfl ?_
  refine X_aload_n rfl rfl rfl rfl ?_
  refine X_getR (a := 143) rfl rfl rfl ((congrFun F.1 1).trans s_1) rfl ((congrFun (F.2.1 1 (by decide)) 10).trans r_1_10) ?_
  refine X_iconst (v := (0 : Int32)) rfl rfl rfl ?_
  refine X_aload_n rfl rfl rfl rfl ?_
  refine X_getR (a := 288) rfl rfl rfl ((congrFun F.1 146).trans s_146) rfl ((congrFun (F.2.1 146 (by decide)) 10).trans r_146_10) ?_
  refine X_iconst (v := (0 : Int32)) rfl rfl rfl ?_
  refine X_bipush (v := (12 : Int32)) rfl rfl rfl ?_
  refine X_copy (sp' := 0) (dp' := 0) (n' := 12) rfl rfl rfl ((congrFun F.1 143).trans s_143) ((congrFun F.1 288).trans s_288) (by decide) (by decide) (by decide) rfl rfl rfl (by decide) (by decide) (Nat.le_of_ble_eq_true rfl) ?_
  refine X_aload_n rfl rfl rfl rfl ?_
  refine X_getR (a := 144) rfl rfl rfl ((congrFun F.1 1).trans s_1) rfl ((congrFun (F.2.1 1 (by decide)) 11).trans r_1_11) ?_
  refine X_iconst (v := (0 : Int32)) rfl rfl rfl ?_
  refine X_aload_n rfl rfl rfl rfl ?_
  refine X_getR (a := 289) rfl rfl rfl ((congrFun F.1 146).trans s_146) rfl ((congrFun (F.2.1 146 (by decide)) 11).trans r_146_11) ?_
  refine X_iconst (v := (0 : Int32)) rfl rfl rfl ?_
  refine X_bipush (v := (12 : Int32)) rfl rfl rfl ?_
  refine X_copy (sp' := 0) (dp' := 0) (n' := 12) rfl rfl rfl ((congrFun F.1 144).trans s_144) ((congrFun F.1 289).trans s_289) (by decide) (by decide) (by decide) rfl rfl rfl (by decide) (by decide) (Nat.le_of_ble_eq_true rfl) ?_
  refine X_aload_n rfl rfl rfl rfl ?_
  refine X_getR (a := 145) rfl rfl rfl ((congrFun F.1 1).trans s_1) rfl ((congrFun (F.2.1 1 (by decide)) 12).trans r_1_12) ?_
  refine X_iconst (v := (0 : Int32)) rfl rfl rfl ?_
  refine X_aload_n rfl rfl rfl rfl ?_
  refine X_getR (a := 290) rfl rfl rfl ((congrFun F.1 146).trans s_146) rfl ((congrFun (F.2.1 146 (by decide)) 12).trans r_146_12) ?_
  refine X_iconst (v := (0 : Int32)) rfl rfl rfl ?_
  refine X_bipush (v := (12 : Int32)) rfl rfl rfl ?_
  refine X_copy (sp' := 0) (dp' := 0) (n' := 12) rfl rfl rfl ((congrFun F.1 145).trans s_145) ((congrFun F.1 290).trans s_290) (by decide) (by decide) (by decide) rfl rfl rfl (by decide) (by decide) (Nat.le_of_ble_eq_true rfl) ?_
  refine LW_return (st := []) rfl rfl ?_
  refine X_aload_n rfl rfl rfl rfl ?_
  refine X_getR (a := 1) rfl rfl rfl ((congrFun F.1 0).trans s_0) rfl ((congrFun (F.2.1 0 (by decide)) 0).trans r_0_0) ?_
  refine X_getR (a := 10) rfl rfl rfl ((congrFun F.1 1).trans s_1) rfl ((congrFun (F.2.1 1 (by decide)) 1).trans r_1_1) ?_
  refine X_getI (v := (0 : Int32)) rfl rfl rfl ((congrFun F.1 10).trans s_10) rfl ((congrFun (F.2.2 10 (by decide)).1 1).trans i_10_1) ?_
  refine LW_ireturn (st := []) rfl rfl rfl ⟨congrArg (fun z => some (Value.int z)) ?_, (Fr_cpyI (Fr_cpyI (Fr_cpyI (Fr_putI (Fr_cpyI (Fr_putI (Fr_putI (Fr_putI (Fr_cpyI (Fr_cpyI (Fr_cpyI (Fr_cpyI (Fr_cpyI (Fr_cpyI (Fr_cpyI (Fr_cpyI (Fr_putI (Fr_putI (Fr_putI (Fr_putI (Fr_cpyI (Fr_cpyI (Fr_cpyI (Fr_putI (Fr_putI (Fr_putI (Fr_putI (Fr_cpyI (Fr_cpyI (Fr_cpyI (Fr_putI (Fr_putI (Fr_putI (Fr_putI (Fr_cpyI (Fr_cpyI (Fr_cpyI (Fr_putI (Fr_putI (Fr_putI (Fr_putI (Fr_cpyI (Fr_cpyI (Fr_cpyI (Fr_putI (Fr_putI (Fr_putI (Fr_putI (Fr_cpyI (Fr_cpyI (Fr_cpyI (Fr_putI (Fr_putI (Fr_putI (Fr_putI (Fr_cpyI (Fr_cpyI (Fr_cpyI (Fr_putI (Fr_putI (Fr_putI (Fr_putI (Fr_cpyI (Fr_cpyI (Fr_cpyI (Fr_putI (Fr_putI (Fr_putI (Fr_putI (Fr_cpyI (Fr_cpyI (Fr_cpyI (Fr_putI (Fr_putI (Fr_putI (Fr_putI (Fr_cpyI (Fr_cpyI (Fr_cpyI (Fr_putI (Fr_putI (Fr_putI (Fr_putI (Fr_cpyI (Fr_cpyI (Fr_cpyI (Fr_putI (Fr_putI (Fr_putI (Fr_putI (Fr_cpyI (Fr_cpyI (Fr_cpyI (Fr_putI (Fr_putI (Fr_putI (Fr_putI (Fr_cpyI (Fr_cpyI (Fr_cpyI (Fr_putI (Fr_putI (Fr_putI (Fr_putI (Fr_cpyI (Fr_cpyI (Fr_cpyI (Fr_putI (Fr_putI (Fr_putI (Fr_putI (Fr_cpyI (Fr_cpyI (Fr_cpyI (Fr_putI (Fr_putI (Fr_putI (Fr_putI (Fr_cpyI (Fr_cpyI (Fr_cpyI (Fr_putI (Fr_putI (Fr_putI (Fr_putI (Fr_cpyI (Fr_cpyI (Fr_cpyI (Fr_putI (Fr_putI (Fr_putI (Fr_putI (Fr_cpyI (Fr_cpyI (Fr_cpyI (Fr_putI (Fr_putI (Fr_putI (Fr_putI (Fr_cpyI (Fr_cpyI (Fr_cpyI (Fr_putI (Fr_putI (Fr_putI (Fr_putI (Fr_cpyI (Fr_cpyI (Fr_cpyI (Fr_putI (Fr_putI (Fr_putI (Fr_putI (Fr_cpyI (Fr_cpyI (Fr_cpyI (Fr_putI (Fr_putI (Fr_putI (Fr_putI (Fr_cpyI (Fr_cpyI (Fr_cpyI (Fr_putI (Fr_putI (Fr_putI (Fr_putI (Fr_cpyI (Fr_cpyI (Fr_cpyI (Fr_putI (Fr_putI (Fr_putI (Fr_putI (Fr_cpyI (Fr_cpyI (Fr_cpyI (Fr_putI (Fr_putI (Fr_putI (Fr_putI (Fr_cpyI (Fr_cpyI (Fr_cpyI (Fr_putI (Fr_putI (Fr_putI (Fr_putI (Fr_cpyI (Fr_cpyI (Fr_cpyI (Fr_putI (Fr_putI (Fr_putI (Fr_putI (Fr_cpyI (Fr_cpyI (Fr_cpyI (Fr_putI (Fr_putI (Fr_putI (Fr_putI (Fr_cpyI (Fr_cpyI (Fr_cpyI (Fr_putI (Fr_putI (Fr_putI (Fr_putI (Fr_cpyI (Fr_cpyI (Fr_cpyI (Fr_putI (Fr_putI (Fr_putI (Fr_putI (Fr_cpyI (Fr_cpyI (Fr_cpyI (Fr_putI (Fr_putI (Fr_putI (Fr_putI (Fr_putI (Fr_putI (Fr_cpyI (Fr_cpyI (Fr_cpyI (Fr_putI (Fr_putI (Fr_putI (Fr_putI (Fr_cpyI (Fr_cpyI (Fr_cpyI (Fr_cpyI (Fr_cpyI (Fr_cpyI (Fr_cpyI (Fr_putI (Fr_putI E (by decide)) (by decide)) (by decide)) (by decide)) (by decide)) (by decide)) (by decide)) (by decide)) (by decide)) (by decide)) (by decide)) (by decide)) (by decide)) (by decide)) (by decide)) (by decide)) (by decide)) (by decide)) (by decide)) (by decide)) (by decide)) (by decide)) (by decide)) (by decide)) (by decide)) (by decide)) (by decide)) (by decide)) (by decide)) (by decide)) (by decide)) (by decide)) (by decide)) (by decide)) (by decide)) (by decide)) (by decide)) (by decide)) (by decide)) (by decide)) (by decide)) (by decide)) (by decide)) (by decide)) (by decide)) (by decide)) (by decide)) (by decide)) (by decide)) (by decide)) (by decide)) (by decide)) (by decide)) (by decide)) (by decide)) (by decide)) (by decide)) (by decide)) (by decide)) (by decide)) (by decide)) (by decide)) (by decide)) (by decide)) (by decide)) (by decide)) (by decide)) (by decide)) (by decide)) (by decide)) (by decide)) (by decide)) (by decide)) (by decide)) (by decide)) (by decide)) (by decide)) (by decide)) (by decide)) (by decide)) (by decide)) (by decide)) (by decide)) (by decide)) (by decide)) (by decide)) (by decide)) (by decide)) (by decide)) (by decide)) (by decide)) (by decide)) (by decide)) (by decide)) (by decide)) (by decide)) (by decide)) (by decide)) (by decide)) (by decide)) (by decide)) (by decide)) (by decide)) (by decide)) (by decide)) (by decide)) (by decide)) (by decide)) (by decide)) (by decide)) (by decide)) (by decide)) (by decide)) (by decide)) (by decide)) (by decide)) (by decide)) (by decide)) (by decide)) (by decide)) (by decide)) (by decide)) (by decide)) (by decide)) (by decide)) (by decide)) (by decide)) (by decide)) (by decide)) (by decide)) (by decide)) (by decide)) (by decide)) (by decide)) (by decide)) (by decide)) (by decide)) (by decide)) (by decide)) (by decide)) (by decide)) (by decide)) (by decide)) (by decide)) (by decide)) (by decide)) (by decide)) (by decide)) (by decide)) (by decide)) (by decide)) (by decide)) (by decide)) (by decide)) (by decide)) (by decide)) (by decide)) (by decide)) (by decide)) (by decide)) (by decide)) (by decide)) (by decide)) (by decide)) (by decide)) (by decide)) (by decide)) (by decide)) (by decide)) (by decide)) (by decide)) (by decide)) (by decide)) (by decide)) (by decide)) (by decide)) (by decide)) (by decide)) (by decide)) (by decide)) (by decide)) (by decide)) (by decide)) (by decide)) (by decide)) (by decide)) (by decide)) (by decide)) (by decide)) (by decide)) (by decide)) (by decide)) (by decide)) (by decide)) (by decide)) (by decide)) (by decide)) (by decide)) (by decide)) (by decide)) (by decide)) (by decide)) (by decide)) (by decide)) (by decide)) (by decide)) (by decide)) (by decide)) (by decide)) (by decide)) (by decide)) (by decide)) (by decide)) (by decide)) (by decide)) (by decide)) (by decide)) (by decide)) (by decide)) (by decide)) (by decide)) (by decide)) (by decide)) (by decide)) (by decide)) (by decide)) (by decide)) (by decide)) (by decide)) (by decide)) (by decide)) (by decide)) (by decide)) (by decide)) (by decide)) (by decide)) (by decide)) (by decide)) (by decide)) (by decide)) (by decide))⟩
  unfold f_image
  repeat' split
  all_goals first | rfl | (exfalso; omega) | (refine Int32.toInt_inj.mp ?_; rw [show (0 : Int32).toInt = 0 from rfl]; omega)
set_option maxRecDepth 10000 in
set_option maxHeartbeats 4000000 in
theorem c_back {g : LH} (F : Fc g) (E : Fr g) : LW 164 30 0 0 0 (lEnt (mL 164) [.ref 0]) [] g (fun v g' => v = some (.int (f_back)) ∧ Fr g') := by
  refine LW_ls (ls' := [some (.ref 0)]) rfl ?_
  refine X_aload_n rfl rfl rfl rfl ?_
  refine X_getR (a := 1) rfl rfl rfl ((congrFun F.1 0).trans s_0) rfl ((congrFun (F.2.1 0 (by decide)) 0).trans r_0_0) ?_
  refine X_aload_n rfl rfl rfl rfl ?_
  refine X_getR (a := 146) rfl rfl rfl ((congrFun F.1 0).trans s_0) rfl ((congrFun (F.2.1 0 (by decide)) 1).trans r_0_1) ?_
  refine X_callV (as := [.ref 146]) (st := []) rfl rfl rfl (by decide) rfl (Nat.le_of_ble_eq_true rfl) (by decide) (Nat.le_of_ble_eq_true rfl) rfl ((congrFun F.1 1).trans s_1) (by decide) ?_
  refine LW_ls (ls' := [some (.ref 1), some (.ref 146)]) rfl ?_
  refine X_aload_n rfl rfl rfl rfl ?_
  refine X_getR (a := 2) rfl rfl rfl ((congrFun F.1 1).trans s_1) rfl ((congrFun (F.2.1 1 (by decide)) 0).trans r_1_0) ?_
  refine X_aload_n rfl rfl rfl rfl ?_
  refine X_getR (a := 147) rfl rfl rfl ((congrFun F.1 146).trans s_146) rfl ((congrFun (F.2.1 146 (by decide)) 0).trans r_146_0) ?_
  refine X_callV (as := [.ref 147]) (st := []) rfl rfl rfl (by decide) rfl (Nat.le_of_ble_eq_true rfl) (by decide) (Nat.le_of_ble_eq_true rfl) rfl ((congrFun F.1 2).trans s_2) (by decide) ?_
  refine LW_ls (ls' := [some (.ref 2), some (.ref 147)]) rfl ?_
  refine X_aload_n rfl rfl rfl rfl ?_
  refine X_aload_n rfl rfl rfl rfl ?_
  refine X_getI (v := (0 : Int32)) rfl rfl rfl ((congrFun F.1 147).trans s_147) rfl ((congrFun (F.2.2 147 (by decide)).1 0).trans i_147_0) ?_
  refine X_putI rfl rfl rfl ((congrFun F.1 2).trans s_2) rfl rfl rfl rfl ?_
  refine X_aload_n rfl rfl rfl rfl ?_
  refine X_aload_n rfl rfl rfl rfl ?_
  refine X_getI (v := (0 : Int32)) rfl rfl rfl ((congrFun F.1 147).trans s_147) rfl ((congrFun (F.2.2 147 (by decide)).1 1).trans i_147_1) ?_
  refine X_putI rfl rfl rfl ((congrFun F.1 2).trans s_2) rfl rfl rfl rfl ?_
  refine X_aload_n rfl rfl rfl rfl ?_
  refine X_getR (a := 148) rfl rfl rfl ((congrFun F.1 147).trans s_147) rfl ((congrFun (F.2.1 147 (by decide)) 2).trans r_147_2) ?_
  refine X_iconst (v := (0 : Int32)) rfl rfl rfl ?_
  refine X_aload_n rfl rfl rfl rfl ?_
  refine X_getR (a := 3) rfl rfl rfl ((congrFun F.1 2).trans s_2) rfl ((congrFun (F.2.1 2 (by decide)) 2).trans r_2_2) ?_
  refine X_iconst (v := (0 : Int32)) rfl rfl rfl ?_
  refine X_bipush (v := (24 : Int32)) rfl rfl rfl ?_
  refine X_copy (sp' := 0) (dp' := 0) (n' := 24) rfl rfl rfl ((congrFun F.1 148).trans s_148) ((congrFun F.1 3).trans s_3) (by decide) (by decide) (by decide) rfl rfl rfl (by decide) (by decide) (Nat.le_of_ble_eq_true rfl) ?_
  refine X_aload_n rfl rfl rfl rfl ?_
  refine X_getR (a := 149) rfl rfl rfl ((congrFun F.1 147).trans s_147) rfl ((congrFun (F.2.1 147 (by decide)) 3).trans r_147_3) ?_
  refine X_iconst (v := (0 : Int32)) rfl rfl rfl ?_
  refine X_aload_n rfl rfl rfl rfl ?_
  refine X_getR (a := 4) rfl rfl rfl ((congrFun F.1 2).trans s_2) rfl ((congrFun (F.2.1 2 (by decide)) 3).trans r_2_3) ?_
  refine X_iconst (v := (0 : Int32)) rfl rfl rfl ?_
  refine X_bipush (v := (24 : Int32)) rfl rfl rfl ?_
  refine X_copy (sp' := 0) (dp' := 0) (n' := 24) rfl rfl rfl ((congrFun F.1 149).trans s_149) ((congrFun F.1 4).trans s_4) (by decide) (by decide) (by decide) rfl rfl rfl (by decide) (by decide) (Nat.le_of_ble_eq_true rfl) ?_
  refine X_aload_n rfl rfl rfl rfl ?_
  refine X_getR (a := 150) rfl rfl rfl ((congrFun F.1 147).trans s_147) rfl ((congrFun (F.2.1 147 (by decide)) 4).trans r_147_4) ?_
  refine X_iconst (v := (0 : Int32)) rfl rfl rfl ?_
  refine X_aload_n rfl rfl rfl rfl ?_
  refine X_getR (a := 5) rfl rfl rfl ((congrFun F.1 2).trans s_2) rfl ((congrFun (F.2.1 2 (by decide)) 4).trans r_2_4) ?_
  refine X_iconst (v := (0 : Int32)) rfl rfl rfl ?_
  refine X_bipush (v := (24 : Int32)) rfl rfl rfl ?_
  refine X_copy (sp' := 0) (dp' := 0) (n' := 24) rfl rfl rfl ((congrFun F.1 150).trans s_150) ((congrFun F.1 5).trans s_5) (by decide) (by decide) (by decide) rfl rfl rfl (by decide) (by decide) (Nat.le_of_ble_eq_true rfl) ?_
  refine X_aload_n rfl rfl rfl rfl ?_
  refine X_getR (a := 151) rfl rfl rfl ((congrFun F.1 147).trans s_147) rfl ((congrFun (F.2.1 147 (by decide)) 5).trans r_147_5) ?_
  refine X_iconst (v := (0 : Int32)) rfl rfl rfl ?_
  refine X_aload_n rfl rfl rfl rfl ?_
  refine X_getR (a := 6) rfl rfl rfl ((congrFun F.1 2).trans s_2) rfl ((congrFun (F.2.1 2 (by decide)) 5).trans r_2_5) ?_
  refine X_iconst (v := (0 : Int32)) rfl rfl rfl ?_
  refine X_sipush (v := (192 : Int32)) rfl rfl rfl ?_
  refine X_copy (sp' := 0) (dp' := 0) (n' := 192) rfl rfl rfl ((congrFun F.1 151).trans s_151) ((congrFun F.1 6).trans s_6) (by decide) (by decide) (by decide) rfl rfl rfl (by decide) (by decide) (Nat.le_of_ble_eq_true rfl) ?_
  refine X_aload_n rfl rfl rfl rfl ?_
  refine X_getR (a := 152) rfl rfl rfl ((congrFun F.1 147).trans s_147) rfl ((congrFun (F.2.1 147 (by decide)) 6).trans r_147_6) ?_
  refine X_iconst (v := (0 : Int32)) rfl rfl rfl ?_
  refine X_aload_n rfl rfl rfl rfl ?_
  refine X_getR (a := 7) rfl rfl rfl ((congrFun F.1 2).trans s_2) rfl ((congrFun (F.2.1 2 (by decide)) 6).trans r_2_6) ?_
  refine X_iconst (v := (0 : Int32)) rfl rfl rfl ?_
  refine X_bipush (v := (8 : Int32)) rfl rfl rfl ?_
  refine X_copy (sp' := 0) (dp' := 0) (n' := 8) rfl rfl rfl ((congrFun F.1 152).trans s_152) ((congrFun F.1 7).trans s_7) (by decide) (by decide) (by decide) rfl rfl rfl (by decide) (by decide) (Nat.le_of_ble_eq_true rfl) ?_
  refine X_aload_n rfl rfl rfl rfl ?_
  refine X_getR (a := 153) rfl rfl rfl ((congrFun F.1 147).trans s_147) rfl ((congrFun (F.2.1 147 (by decide)) 7).trans r_147_7) ?_
  refine X_iconst (v := (0 : Int32)) rfl rfl rfl ?_
  refine X_aload_n rfl rfl rfl rfl ?_
  refine X_getR (a := 8) rfl rfl rfl ((congrFun F.1 2).trans s_2) rfl ((congrFun (F.2.1 2 (by decide)) 7).trans r_2_7) ?_
  refine X_iconst (v := (0 : Int32)) rfl rfl rfl ?_
  refine X_bipush (v := (8 : Int32)) rfl rfl rfl ?_
  refine X_copy (sp' := 0) (dp' := 0) (n' := 8) rfl rfl rfl ((congrFun F.1 153).trans s_153) ((congrFun F.1 8).trans s_8) (by decide) (by decide) (by decide) rfl rfl rfl (by decide) (by decide) (Nat.le_of_ble_eq_true rfl) ?_
  refine X_aload_n rfl rfl rfl rfl ?_
  refine X_getR (a := 154) rfl rfl rfl ((congrFun F.1 147).trans s_147) rfl ((congrFun (F.2.1 147 (by decide)) 8).trans r_147_8) ?_
  refine X_iconst (v := (0 : Int32)) rfl rfl rfl ?_
  refine X_aload_n rfl rfl rfl rfl ?_
  refine X_getR (a := 9) rfl rfl rfl ((congrFun F.1 2).trans s_2) rfl ((congrFun (F.2.1 2 (by decide)) 8).trans r_2_8) ?_
  refine X_iconst (v := (0 : Int32)) rfl rfl rfl ?_
  refine X_bipush (v := (64 : Int32)) rfl rfl rfl ?_
  refine X_copy (sp' := 0) (dp' := 0) (n' := 64) rfl rfl rfl ((congrFun F.1 154).trans s_154) ((congrFun F.1 9).trans s_9) (by decide) (by decide) (by decide) rfl rfl rfl (by decide) (by decide) (Nat.le_of_ble_eq_true rfl) ?_
  refine LW_return (st := []) rfl rfl ?_
  refine X_aload_n rfl rfl rfl rfl ?_
  refine X_getR (a := 10) rfl rfl rfl ((congrFun F.1 1).trans s_1) rfl ((congrFun (F.2.1 1 (by decide)) 1).trans r_1_1) ?_
  refine X_aload_n rfl rfl rfl rfl ?_
  refine X_getR (a := 155) rfl rfl rfl ((congrFun F.1 146).trans s_146) rfl ((congrFun (F.2.1 146 (by decide)) 1).trans r_146_1) ?_
  refine X_callV (as := [.ref 155]) (st := []) rfl rfl rfl (by decide) rfl (Nat.le_of_ble_eq_true rfl) (by decide) (Nat.le_of_ble_eq_true rfl) rfl ((congrFun F.1 10).trans s_10) (by decide) ?_
  refine LW_ls (ls' := [some (.ref 10), some (.ref 155)]) rfl ?_
  refine X_aload_n rfl rfl rfl rfl ?_
  refine X_aload_n rfl rfl rfl rfl ?_
  refine X_getI (v := (0 : Int32)) rfl rfl rfl ((congrFun F.1 155).trans s_155) rfl ((congrFun (F.2.2 155 (by decide)).1 0).trans i_155_0) ?_
  refine X_putI rfl rfl rfl ((congrFun F.1 10).trans s_10) rfl rfl rfl rfl ?_
  refine X_aload_n rfl rfl rfl rfl ?_
  refine X_aload_n rfl rfl rfl rfl ?_
  refine X_getI (v := (0 : Int32)) rfl rfl rfl ((congrFun F.1 155).trans s_155) rfl ((congrFun (F.2.2 155 (by decide)).1 1).trans i_155_1) ?_
  refine X_putI rfl rfl rfl ((congrFun F.1 10).trans s_10) rfl rfl rfl rfl ?_
  refine X_aload_n rfl rfl rfl rfl ?_
  refine X_aload_n rfl rfl rfl rfl ?_
  refine X_getI (v := (17 : Int32)) rfl rfl rfl ((congrFun F.1 155).trans s_155) rfl ((congrFun (F.2.2 155 (by decide)).1 2).trans i_155_2) ?_
  refine X_putI rfl rfl rfl ((congrFun F.1 10).trans s_10) rfl rfl rfl rfl ?_
  refine X_aload_n rfl rfl rfl rfl ?_
  refine X_aload_n rfl rfl rfl rfl ?_
  refine X_getI (v := (0 : Int32)) rfl rfl rfl ((congrFun F.1 155).trans s_155) rfl ((congrFun (F.2.2 155 (by decide)).1 3).trans i_155_3) ?_
  refine X_putI rfl rfl rfl ((congrFun F.1 10).trans s_10) rfl rfl rfl rfl ?_
  refine X_aload_n rfl rfl rfl rfl ?_
  refine X_getR (a := 156) rfl rfl rfl ((congrFun F.1 155).trans s_155) rfl ((congrFun (F.2.1 155 (by decide)) 4).trans r_155_4) ?_
  refine X_iconst (v := (0 : Int32)) rfl rfl rfl ?_
  refine X_aload_n rfl rfl rfl rfl ?_
  refine X_getR (a := 11) rfl rfl rfl ((congrFun F.1 10).trans s_10) rfl ((congrFun (F.2.1 10 (by decide)) 4).trans r_10_4) ?_
  refine X_iconst (v := (0 : Int32)) rfl rfl rfl ?_
  refine X_bipush (v := (26 : Int32)) rfl rfl rfl ?_
  refine X_copy (sp' := 0) (dp' := 0) (n' := 26) rfl rfl rfl ((congrFun F.1 156).trans s_156) ((congrFun F.1 11).trans s_11) (by decide) (by decide) (by decide) rfl rfl rfl (by decide) (by decide) (Nat.le_of_ble_eq_true rfl) ?_
  refine X_aload_n rfl rfl rfl rfl ?_
  refine X_getR (a := 157) rfl rfl rfl ((congrFun F.1 155).trans s_155) rfl ((congrFun (F.2.1 155 (by decide)) 5).trans r_155_5) ?_
  refine X_iconst (v := (0 : Int32)) rfl rfl rfl ?_
  refine X_aload_n rfl rfl rfl rfl ?_
  refine X_getR (a := 12) rfl rfl rfl ((congrFun F.1 10).trans s_10) rfl ((congrFun (F.2.1 10 (by decide)) 5).trans r_10_5) ?_
  refine X_iconst (v := (0 : Int32)) rfl rfl rfl ?_
  refine X_bipush (v := (26 : Int32)) rfl rfl rfl ?_
  refine X_copy (sp' := 0) (dp' := 0) (n' := 26) rfl rfl rfl ((congrFun F.1 157).trans s_157) ((congrFun F.1 12).trans s_12) (by decide) (by decide) (by decide) rfl rfl rfl (by decide) (by decide) (Nat.le_of_ble_eq_true rfl) ?_
  refine X_aload_n rfl rfl rfl rfl ?_
  refine X_getR (a := 158) rfl rfl rfl ((congrFun F.1 155).trans s_155) rfl ((congrFun (F.2.1 155 (by decide)) 6).trans r_155_6) ?_
  refine X_iconst (v := (0 : Int32)) rfl rfl rfl ?_
  refine X_aload_n rfl rfl rfl rfl ?_
  refine X_getR (a := 13) rfl rfl rfl ((congrFun F.1 10).trans s_10) rfl ((congrFun (F.2.1 10 (by decide)) 6).trans r_10_6) ?_
  refine X_iconst (v := (0 : Int32)) rfl rfl rfl ?_
  refine X_bipush (v := (26 : Int32)) rfl rfl rfl ?_
  refine X_copy (sp' := 0) (dp' := 0) (n' := 26) rfl rfl rfl ((congrFun F.1 158).trans s_158) ((congrFun F.1 13).trans s_13) (by decide) (by decide) (by decide) rfl rfl rfl (by decide) (by decide) (Nat.le_of_ble_eq_true rfl) ?_
  refine LW_return (st := []) rfl rfl ?_
  refine X_aload_n rfl rfl rfl rfl ?_
  refine X_getR (a := 14) rfl rfl rfl ((congrFun F.1 1).trans s_1) rfl ((congrFun (F.2.1 1 (by decide)) 2).trans r_1_2) ?_
  refine X_aload_n rfl rfl rfl rfl ?_
  refine X_getR (a := 159) rfl rfl rfl ((congrFun F.1 146).trans s_146) rfl ((congrFun (F.2.1 146 (by decide)) 2).trans r_146_2) ?_
  refine X_callV (as := [.ref 159]) (st := []) rfl rfl rfl (by decide) rfl (Nat.le_of_ble_eq_true rfl) (by decide) (Nat.le_of_ble_eq_true rfl) rfl ((congrFun F.1 14).trans s_14) (by decide) ?_
  refine LW_ls (ls' := [some (.ref 14), some (.ref 159), none]) rfl ?_
  refine X_aload_n rfl rfl rfl rfl ?_
  refine X_aload_n rfl rfl rfl rfl ?_
  refine X_getI (v := (0 : Int32)) rfl rfl rfl ((congrFun F.1 159).trans s_159) rfl ((congrFun (F.2.2 159 (by decide)).1 0).trans i_159_0) ?_
  refine X_putI rfl rfl rfl ((congrFun F.1 14).trans s_14) rfl rfl rfl rfl ?_
  refine X_aload_n rfl rfl rfl rfl ?_
  refine X_aload_n rfl rfl rfl rfl ?_
  refine X_getI (v := (0 : Int32)) rfl rfl rfl ((congrFun F.1 159).trans s_159) rfl ((congrFun (F.2.2 159 (by decide)).1 1).trans i_159_1) ?_
  refine X_putI rfl rfl rfl ((congrFun F.1 14).trans s_14) rfl rfl rfl rfl ?_
  refine X_iconst (v := (0 : Int32)) rfl rfl rfl ?_
  refine X_istore_n (i := 2) (ls' := [some (.ref 14), some (.ref 159), some (.int (0 : Int32))]) rfl rfl rfl (Nat.le_of_ble_eq_true rfl) rfl ?_
  refine X_iload_n rfl rfl rfl rfl ?_
  refine X_bipush (v := (30 : Int32)) rfl rfl rfl ?_
  refine X_icmp_ge (tgt := 45) rfl rfl rfl (fun q => absurd q (by decide)) (fun _ => ?_)
  refine X_aload_n rfl rfl rfl rfl ?_
  refine X_getR (a := 15) rfl rfl rfl ((congrFun F.1 14).trans s_14) rfl ((congrFun (F.2.1 14 (by decide)) 2).trans r_14_2) ?_
  refine X_iload_n rfl rfl rfl rfl ?_
  refine X_aald (a := 16) (t0 := 3) rfl rfl ((congrFun F.1 15).trans s_15) rfl (vp_in_d rfl) ((congrFun (F.2.1 15 (by decide)) 0).trans r_15_0) ?_
  refine X_aload_n rfl rfl rfl rfl ?_
  refine X_getR (a := 160) rfl rfl rfl ((congrFun F.1 159).trans s_159) rfl ((congrFun (F.2.1 159 (by decide)) 2).trans r_159_2) ?_
  refine X_iload_n rfl rfl rfl rfl ?_
  refine X_aald (a := 161) (t0 := 3) rfl rfl ((congrFun F.1 160).trans s_160) rfl (vp_in_d rfl) ((congrFun (F.2.1 160 (by decide)) 0).trans r_160_0) ?_
  refine X_callV (as := [.ref 161]) (st := []) rfl rfl rfl (by decide) rfl (Nat.le_of_ble_eq_true rfl) (by decide) (Nat.le_of_ble_eq_true rfl) rfl ((congrFun F.1 16).trans s_16) (by decide) ?_
  refine LW_ls (ls' := [some (.ref 16), some (.ref 161)]) rfl ?_
  refine X_aload_n rfl rfl rfl rfl ?_
  refine X_aload_n rfl rfl rfl rfl ?_
  refine X_getI (v := (0 : Int32)) rfl rfl rfl ((congrFun F.1 161).trans s_161) rfl ((congrFun (F.2.2 161 (by decide)).1 0).trans i_161_0) ?_
  refine X_putI rfl rfl rfl ((congrFun F.1 16).trans s_16) rfl rfl rfl rfl ?_
  refine X_aload_n rfl rfl rfl rfl ?_
  refine X_aload_n rfl rfl rfl rfl ?_
  refine X_getI (v := (0 : Int32)) rfl rfl rfl ((congrFun F.1 161).trans s_161) rfl ((congrFun (F.2.2 161 (by decide)).1 1).trans i_161_1) ?_
  refine X_putI rfl rfl rfl ((congrFun F.1 16).trans s_16) rfl rfl rfl rfl ?_
  refine X_aload_n rfl rfl rfl rfl ?_
  refine X_aload_n rfl rfl rfl rfl ?_
  refine X_getI (v := (17 : Int32)) rfl rfl rfl ((congrFun F.1 161).trans s_161) rfl ((congrFun (F.2.2 161 (by decide)).1 2).trans i_161_2) ?_
  refine X_putI rfl rfl rfl ((congrFun F.1 16).trans s_16) rfl rfl rfl rfl ?_
  refine X_aload_n rfl rfl rfl rfl ?_
  refine X_aload_n rfl rfl rfl rfl ?_
  refine X_getI (v := (0 : Int32)) rfl rfl rfl ((congrFun F.1 161).trans s_161) rfl ((congrFun (F.2.2 161 (by decide)).1 3).trans i_161_3) ?_
  refine X_putI rfl rfl rfl ((congrFun F.1 16).trans s_16) rfl rfl rfl rfl ?_
  refine X_aload_n rfl rfl rfl rfl ?_
  refine X_getR (a := 162) rfl rfl rfl ((congrFun F.1 161).trans s_161) rfl ((congrFun (F.2.1 161 (by decide)) 4).trans r_161_4) ?_
  refine X_iconst (v := (0 : Int32)) rfl rfl rfl ?_
  refine X_aload_n rfl rfl rfl rfl ?_
  refine X_getR (a := 17) rfl rfl rfl ((congrFun F.1 16).trans s_16) rfl ((congrFun (F.2.1 16 (by decide)) 4).trans r_16_4) ?_
  refine X_iconst (v := (0 : Int32)) rfl rfl rfl ?_
  refine X_bipush (v := (26 : Int32)) rfl rfl rfl ?_
  refine X_copy (sp' := 0) (dp' := 0) (n' := 26) rfl rfl rfl ((congrFun F.1 162).trans s_162) ((congrFun F.1 17).trans s_17) (by decide) (by decide) (by decide) rfl rfl rfl (by decide) (by decide) (Nat.le_of_ble_eq_true rfl) ?_
  refine X_aload_n rfl rfl rfl rfl ?_
  refine X_getR (a := 163) rfl rfl rfl ((congrFun F.1 161).trans s_161) rfl ((congrFun (F.2.1 161 (by decide)) 5).trans r_161_5) ?_
  refine X_iconst (v := (0 : Int32)) rfl rfl rfl ?_
  refine X_aload_n rfl rfl rfl rfl ?_
  refine X_getR (a := 18) rfl rfl rfl ((congrFun F.1 16).trans s_16) rfl ((congrFun (F.2.1 16 (by decide)) 5).trans r_16_5) ?_
  refine X_iconst (v := (0 : Int32)) rfl rfl rfl ?_
  refine X_bipush (v := (26 : Int32)) rfl rfl rfl ?_
  refine X_copy (sp' := 0) (dp' := 0) (n' := 26) rfl rfl rfl ((congrFun F.1 163).trans s_163) ((congrFun F.1 18).trans s_18) (by decide) (by decide) (by decide) rfl rfl rfl (by decide) (by decide) (Nat.le_of_ble_eq_true rfl) ?_
  refine X_aload_n rfl rfl rfl rfl ?_
  refine X_getR (a := 164) rfl rfl rfl ((congrFun F.1 161).trans s_161) rfl ((congrFun (F.2.1 161 (by decide)) 6).trans r_161_6) ?_
  refine X_iconst (v := (0 : Int32)) rfl rfl rfl ?_
  refine X_aload_n rfl rfl rfl rfl ?_
  refine X_getR (a := 19) rfl rfl rfl ((congrFun F.1 16).trans s_16) rfl ((congrFun (F.2.1 16 (by decide)) 6).trans r_16_6) ?_
  refine X_iconst (v := (0 : Int32)) rfl rfl rfl ?_
  refine X_bipush (v := (26 : Int32)) rfl rfl rfl ?_
  refine X_copy (sp' := 0) (dp' := 0) (n' := 26) rfl rfl rfl ((congrFun F.1 164).trans s_164) ((congrFun F.1 19).trans s_19) (by decide) (by decide) (by decide) rfl rfl rfl (by decide) (by decide) (Nat.le_of_ble_eq_true rfl) ?_
  refine LW_return (st := []) rfl rfl ?_
  refine X_iinc (v := (1 : Int32)) (ls' := [some (.ref 14), some (.ref 159), some (.int (1 : Int32))]) rfl rfl rfl rfl rfl ?_
  refine LW_goto (tgt := 18) rfl rfl ?_
  refine X_iload_n rfl rfl rfl rfl ?_
  refine X_bipush (v := (30 : Int32)) rfl rfl rfl ?_
  refine X_icmp_ge (tgt := 45) rfl rfl rfl (fun q => absurd q (by decide)) (fun _ => ?_)
  refine X_aload_n rfl rfl rfl rfl ?_
  refine X_getR (a := 15) rfl rfl rfl ((congrFun F.1 14).trans s_14) rfl ((congrFun (F.2.1 14 (by decide)) 2).trans r_14_2) ?_
  refine X_iload_n rfl rfl rfl rfl ?_
  refine X_aald (a := 20) (t0 := 3) rfl rfl ((congrFun F.1 15).trans s_15) rfl (vp_in_d rfl) ((congrFun (F.2.1 15 (by decide)) 1).trans r_15_1) ?_
  refine X_aload_n rfl rfl rfl rfl ?_
  refine X_getR (a := 160) rfl rfl rfl ((congrFun F.1 159).trans s_159) rfl ((congrFun (F.2.1 159 (by decide)) 2).trans r_159_2) ?_
  refine X_iload_n rfl rfl rfl rfl ?_
  refine X_aald (a := 165) (t0 := 3) rfl rfl ((congrFun F.1 160).trans s_160) rfl (vp_in_d rfl) ((congrFun (F.2.1 160 (by decide)) 1).trans r_160_1) ?_
  refine X_callV (as := [.ref 165]) (st := []) rfl rfl rfl (by decide) rfl (Nat.le_of_ble_eq_true rfl) (by decide) (Nat.le_of_ble_eq_true rfl) rfl ((congrFun F.1 20).trans s_20) (by decide) ?_
  refine LW_ls (ls' := [some (.ref 20), some (.ref 165)]) rfl ?_
  refine X_aload_n rfl rfl rfl rfl ?_
  refine X_aload_n rfl rfl rfl rfl ?_
  refine X_getI (v := (0 : Int32)) rfl rfl rfl ((congrFun F.1 165).trans s_165) rfl ((congrFun (F.2.2 165 (by decide)).1 0).trans i_165_0) ?_
  refine X_putI rfl rfl rfl ((congrFun F.1 20).trans s_20) rfl rfl rfl rfl ?_
  refine X_aload_n rfl rfl rfl rfl ?_
  refine X_aload_n rfl rfl rfl rfl ?_
  refine X_getI (v := (0 : Int32)) rfl rfl rfl ((congrFun F.1 165).trans s_165) rfl ((congrFun (F.2.2 165 (by decide)).1 1).trans i_165_1) ?_
  refine X_putI rfl rfl rfl ((congrFun F.1 20).trans s_20) rfl rfl rfl rfl ?_
  refine X_aload_n rfl rfl rfl rfl ?_
  refine X_aload_n rfl rfl rfl rfl ?_
  refine X_getI (v := (17 : Int32)) rfl rfl rfl ((congrFun F.1 165).trans s_165) rfl ((congrFun (F.2.2 165 (by decide)).1 2).trans i_165_2) ?_
  refine X_putI rfl rfl rfl ((congrFun F.1 20).trans s_20) rfl rfl rfl rfl ?_
  refine X_aload_n rfl rfl rfl rfl ?_
  refine X_aload_n rfl rfl rfl rfl ?_
  refine X_getI (v := (0 : Int32)) rfl rfl rfl ((congrFun F.1 165).trans s_165) rfl ((congrFun (F.2.2 165 (by decide)).1 3).trans i_165_3) ?_
  refine X_putI rfl rfl rfl ((congrFun F.1 20).trans s_20) rfl rfl rfl rfl ?_
  refine X_aload_n rfl rfl rfl rfl ?_
  refine X_getR (a := 166) rfl rfl rfl ((congrFun F.1 165).trans s_165) rfl ((congrFun (F.2.1 165 (by decide)) 4).trans r_165_4) ?_
  refine X_iconst (v := (0 : Int32)) rfl rfl rfl ?_
  refine X_aload_n rfl rfl rfl rfl ?_
  refine X_getR (a := 21) rfl rfl rfl ((congrFun F.1 20).trans s_20) rfl ((congrFun (F.2.1 20 (by decide)) 4).trans r_20_4) ?_
  refine X_iconst (v := (0 : Int32)) rfl rfl rfl ?_
  refine X_bipush (v := (26 : Int32)) rfl rfl rfl ?_
  refine X_copy (sp' := 0) (dp' := 0) (n' := 26) rfl rfl rfl ((congrFun F.1 166).trans s_166) ((congrFun F.1 21).trans s_21) (by decide) (by decide) (by decide) rfl rfl rfl (by decide) (by decide) (Nat.le_of_ble_eq_true rfl) ?_
  refine X_aload_n rfl rfl rfl rfl ?_
  refine X_getR (a := 167) rfl rfl rfl ((congrFun F.1 165).trans s_165) rfl ((congrFun (F.2.1 165 (by decide)) 5).trans r_165_5) ?_
  refine X_iconst (v := (0 : Int32)) rfl rfl rfl ?_
  refine X_aload_n rfl rfl rfl rfl ?_
  refine X_getR (a := 22) rfl rfl rfl ((congrFun F.1 20).trans s_20) rfl ((congrFun (F.2.1 20 (by decide)) 5).trans r_20_5) ?_
  refine X_iconst (v := (0 : Int32)) rfl rfl rfl ?_
  refine X_bipush (v := (26 : Int32)) rfl rfl rfl ?_
  refine X_copy (sp' := 0) (dp' := 0) (n' := 26) rfl rfl rfl ((congrFun F.1 167).trans s_167) ((congrFun F.1 22).trans s_22) (by decide) (by decide) (by decide) rfl rfl rfl (by decide) (by decide) (Nat.le_of_ble_eq_true rfl) ?_
  refine X_aload_n rfl rfl rfl rfl ?_
  refine X_getR (a := 168) rfl rfl rfl ((congrFun F.1 165).trans s_165) rfl ((congrFun (F.2.1 165 (by decide)) 6).trans r_165_6) ?_
  refine X_iconst (v := (0 : Int32)) rfl rfl rfl ?_
  refine X_aload_n rfl rfl rfl rfl ?_
  refine X_getR (a := 23) rfl rfl rfl ((congrFun F.1 20).trans s_20) rfl ((congrFun (F.2.1 20 (by decide)) 6).trans r_20_6) ?_
  refine X_iconst (v := (0 : Int32)) rfl rfl rfl ?_
  refine X_bipush (v := (26 : Int32)) rfl rfl rfl ?_
  refine X_copy (sp' := 0) (dp' := 0) (n' := 26) rfl rfl rfl ((congrFun F.1 168).trans s_168) ((congrFun F.1 23).trans s_23) (by decide) (by decide) (by decide) rfl rfl rfl (by decide) (by decide) (Nat.le_of_ble_eq_true rfl) ?_
  refine LW_return (st := []) rfl rfl ?_
  refine X_iinc (v := (2 : Int32)) (ls' := [some (.ref 14), some (.ref 159), some (.int (2 : Int32))]) rfl rfl rfl rfl rfl ?_
  refine LW_goto (tgt := 18) rfl rfl ?_
  refine X_iload_n rfl rfl rfl rfl ?_
  refine X_bipush (v := (30 : Int32)) rfl rfl rfl ?_
  refine X_icmp_ge (tgt := 45) rfl rfl rfl (fun q => absurd q (by decide)) (fun _ => ?_)
  refine X_aload_n rfl rfl rfl rfl ?_
  refine X_getR (a := 15) rfl rfl rfl ((congrFun F.1 14).trans s_14) rfl ((congrFun (F.2.1 14 (by decide)) 2).trans r_14_2) ?_
  refine X_iload_n rfl rfl rfl rfl ?_
  refine X_aald (a := 24) (t0 := 3) rfl rfl ((congrFun F.1 15).trans s_15) rfl (vp_in_d rfl) ((congrFun (F.2.1 15 (by decide)) 2).trans r_15_2) ?_
  refine X_aload_n rfl rfl rfl rfl ?_
  refine X_getR (a := 160) rfl rfl rfl ((congrFun F.1 159).trans s_159) rfl ((congrFun (F.2.1 159 (by decide)) 2).trans r_159_2) ?_
  refine X_iload_n rfl rfl rfl rfl ?_
  refine X_aald (a := 169) (t0 := 3) rfl rfl ((congrFun F.1 160).trans s_160) rfl (vp_in_d rfl) ((congrFun (F.2.1 160 (by decide)) 2).trans r_160_2) ?_
  refine X_callV (as := [.ref 169]) (st := []) rfl rfl rfl (by decide) rfl (Nat.le_of_ble_eq_true rfl) (by decide) (Nat.le_of_ble_eq_true rfl) rfl ((congrFun F.1 24).trans s_24) (by decide) ?_
  refine LW_ls (ls' := [some (.ref 24), some (.ref 169)]) rfl ?_
  refine X_aload_n rfl rfl rfl rfl ?_
  refine X_aload_n rfl rfl rfl rfl ?_
  refine X_getI (v := (0 : Int32)) rfl rfl rfl ((congrFun F.1 169).trans s_169) rfl ((congrFun (F.2.2 169 (by decide)).1 0).trans i_169_0) ?_
  refine X_putI rfl rfl rfl ((congrFun F.1 24).trans s_24) rfl rfl rfl rfl ?_
  refine X_aload_n rfl rfl rfl rfl ?_
  refine X_aload_n rfl rfl rfl rfl ?_
  refine X_getI (v := (0 : Int32)) rfl rfl rfl ((congrFun F.1 169).trans s_169) rfl ((congrFun (F.2.2 169 (by decide)).1 1).trans i_169_1) ?_
  refine X_putI rfl rfl rfl ((congrFun F.1 24).trans s_24) rfl rfl rfl rfl ?_
  refine X_aload_n rfl rfl rfl rfl ?_
  refine X_aload_n rfl rfl rfl rfl ?_
  refine X_getI (v := (17 : Int32)) rfl rfl rfl ((congrFun F.1 169).trans s_169) rfl ((congrFun (F.2.2 169 (by decide)).1 2).trans i_169_2) ?_
  refine X_putI rfl rfl rfl ((congrFun F.1 24).trans s_24) rfl rfl rfl rfl ?_
  refine X_aload_n rfl rfl rfl rfl ?_
  refine X_aload_n rfl rfl rfl rfl ?_
  refine X_getI (v := (0 : Int32)) rfl rfl rfl ((congrFun F.1 169).trans s_169) rfl ((congrFun (F.2.2 169 (by decide)).1 3).trans i_169_3) ?_
  refine X_putI rfl rfl rfl ((congrFun F.1 24).trans s_24) rfl rfl rfl rfl ?_
  refine X_aload_n rfl rfl rfl rfl ?_
  refine X_getR (a := 170) rfl rfl rfl ((congrFun F.1 169).trans s_169) rfl ((congrFun (F.2.1 169 (by decide)) 4).trans r_169_4) ?_
  refine X_iconst (v := (0 : Int32)) rfl rfl rfl ?_
  refine X_aload_n rfl rfl rfl rfl ?_
  refine X_getR (a := 25) rfl rfl rfl ((congrFun F.1 24).trans s_24) rfl ((congrFun (F.2.1 24 (by decide)) 4).trans r_24_4) ?_
  refine X_iconst (v := (0 : Int32)) rfl rfl rfl ?_
  refine X_bipush (v := (26 : Int32)) rfl rfl rfl ?_
  refine X_copy (sp' := 0) (dp' := 0) (n' := 26) rfl rfl rfl ((congrFun F.1 170).trans s_170) ((congrFun F.1 25).trans s_25) (by decide) (by decide) (by decide) rfl rfl rfl (by decide) (by decide) (Nat.le_of_ble_eq_true rfl) ?_
  refine X_aload_n rfl rfl rfl rfl ?_
  refine X_getR (a := 171) rfl rfl rfl ((congrFun F.1 169).trans s_169) rfl ((congrFun (F.2.1 169 (by decide)) 5).trans r_169_5) ?_
  refine X_iconst (v := (0 : Int32)) rfl rfl rfl ?_
  refine X_aload_n rfl rfl rfl rfl ?_
  refine X_getR (a := 26) rfl rfl rfl ((congrFun F.1 24).trans s_24) rfl ((congrFun (F.2.1 24 (by decide)) 5).trans r_24_5) ?_
  refine X_iconst (v := (0 : Int32)) rfl rfl rfl ?_
  refine X_bipush (v := (26 : Int32)) rfl rfl rfl ?_
  refine X_copy (sp' := 0) (dp' := 0) (n' := 26) rfl rfl rfl ((congrFun F.1 171).trans s_171) ((congrFun F.1 26).trans s_26) (by decide) (by decide) (by decide) rfl rfl rfl (by decide) (by decide) (Nat.le_of_ble_eq_true rfl) ?_
  refine X_aload_n rfl rfl rfl rfl ?_
  refine X_getR (a := 172) rfl rfl rfl ((congrFun F.1 169).trans s_169) rfl ((congrFun (F.2.1 169 (by decide)) 6).trans r_169_6) ?_
  refine X_iconst (v := (0 : Int32)) rfl rfl rfl ?_
  refine X_aload_n rfl rfl rfl rfl ?_
  refine X_getR (a := 27) rfl rfl rfl ((congrFun F.1 24).trans s_24) rfl ((congrFun (F.2.1 24 (by decide)) 6).trans r_24_6) ?_
  refine X_iconst (v := (0 : Int32)) rfl rfl rfl ?_
  refine X_bipush (v := (26 : Int32)) rfl rfl rfl ?_
  refine X_copy (sp' := 0) (dp' := 0) (n' := 26) rfl rfl rfl ((congrFun F.1 172).trans s_172) ((congrFun F.1 27).trans s_27) (by decide) (by decide) (by decide) rfl rfl rfl (by decide) (by decide) (Nat.le_of_ble_eq_true rfl) ?_
  refine LW_return (st := []) rfl rfl ?_
  refine X_iinc (v := (3 : Int32)) (ls' := [some (.ref 14), some (.ref 159), some (.int (3 : Int32))]) rfl rfl rfl rfl rfl ?_
  refine LW_goto (tgt := 18) rfl rfl ?_
  refine X_iload_n rfl rfl rfl rfl ?_
  refine X_bipush (v := (30 : Int32)) rfl rfl rfl ?_
  refine X_icmp_ge (tgt := 45) rfl rfl rfl (fun q => absurd q (by decide)) (fun _ => ?_)
  refine X_aload_n rfl rfl rfl rfl ?_
  refine X_getR (a := 15) rfl rfl rfl ((congrFun F.1 14).trans s_14) rfl ((congrFun (F.2.1 14 (by decide)) 2).trans r_14_2) ?_
  refine X_iload_n rfl rfl rfl rfl ?_
  refine X_aald (a := 28) (t0 := 3) rfl rfl ((congrFun F.1 15).trans s_15) rfl (vp_in_d rfl) ((congrFun (F.2.1 15 (by decide)) 3).trans r_15_3) ?_
  refine X_aload_n rfl rfl rfl rfl ?_
  refine X_getR (a := 160) rfl rfl rfl ((congrFun F.1 159).trans s_159) rfl ((congrFun (F.2.1 159 (by decide)) 2).trans r_159_2) ?_
  refine X_iload_n rfl rfl rfl rfl ?_
  refine X_aald (a := 173) (t0 := 3) rfl rfl ((congrFun F.1 160).trans s_160) rfl (vp_in_d rfl) ((congrFun (F.2.1 160 (by decide)) 3).trans r_160_3) ?_
  refine X_callV (as := [.ref 173]) (st := []) rfl rfl rfl (by decide) rfl (Nat.le_of_ble_eq_true rfl) (by decide) (Nat.le_of_ble_eq_true rfl) rfl ((congrFun F.1 28).trans s_28) (by decide) ?_
  refine LW_ls (ls' := [some (.ref 28), some (.ref 173)]) rfl ?_
  refine X_aload_n rfl rfl rfl rfl ?_
  refine X_aload_n rfl rfl rfl rfl ?_
  refine X_getI (v := (0 : Int32)) rfl rfl rfl ((congrFun F.1 173).trans s_173) rfl ((congrFun (F.2.2 173 (by decide)).1 0).trans i_173_0) ?_
  refine X_putI rfl rfl rfl ((congrFun F.1 28).trans s_28) rfl rfl rfl rfl ?_
  refine X_aload_n rfl rfl rfl rfl ?_
  refine X_aload_n rfl rfl rfl rfl ?_
  refine X_getI (v := (0 : Int32)) rfl rfl rfl ((congrFun F.1 173).trans s_173) rfl ((congrFun (F.2.2 173 (by decide)).1 1).trans i_173_1) ?_
  refine X_putI rfl rfl rfl ((congrFun F.1 28).trans s_28) rfl rfl rfl rfl ?_
  refine X_aload_n rfl rfl rfl rfl ?_
  refine X_aload_n rfl rfl rfl rfl ?_
  refine X_getI (v := (17 : Int32)) rfl rfl rfl ((congrFun F.1 173).trans s_173) rfl ((congrFun (F.2.2 173 (by decide)).1 2).trans i_173_2) ?_
  refine X_putI rfl rfl rfl ((congrFun F.1 28).trans s_28) rfl rfl rfl rfl ?_
  refine X_aload_n rfl rfl rfl rfl ?_
  refine X_aload_n rfl rfl rfl rfl ?_
  refine X_getI (v := (0 : Int32)) rfl rfl rfl ((congrFun F.1 173).trans s_173) rfl ((congrFun (F.2.2 173 (by decide)).1 3).trans i_173_3) ?_
  refine X_putI rfl rfl rfl ((congrFun F.1 28).trans s_28) rfl rfl rfl rfl ?_
  refine X_aload_n rfl rfl rfl rfl ?_
  refine X_getR (a := 174) rfl rfl rfl ((congrFun F.1 173).trans s_173) rfl ((congrFun (F.2.1 173 (by decide)) 4).trans r_173_4) ?_
  refine X_iconst (v := (0 : Int32)) rfl rfl rfl ?_
  refine X_aload_n rfl rfl rfl rfl ?_
  refine X_getR (a := 29) rfl rfl rfl ((congrFun F.1 28).trans s_28) rfl ((congrFun (F.2.1 28 (by decide)) 4).trans r_28_4) ?_
  refine X_iconst (v := (0 : Int32)) rfl rfl rfl ?_
  refine X_bipush (v := (26 : Int32)) rfl rfl rfl ?_
  refine X_copy (sp' := 0) (dp' := 0) (n' := 26) rfl rfl rfl ((congrFun F.1 174).trans s_174) ((congrFun F.1 29).trans s_29) (by decide) (by decide) (by decide) rfl rfl rfl (by decide) (by decide) (Nat.le_of_ble_eq_true rfl) ?_
  refine X_aload_n rfl rfl rfl rfl ?_
  refine X_getR (a := 175) rfl rfl rfl ((congrFun F.1 173).trans s_173) rfl ((congrFun (F.2.1 173 (by decide)) 5).trans r_173_5) ?_
  refine X_iconst (v := (0 : Int32)) rfl rfl rfl ?_
  refine X_aload_n rfl rfl rfl rfl ?_
  refine X_getR (a := 30) rfl rfl rfl ((congrFun F.1 28).trans s_28) rfl ((congrFun (F.2.1 28 (by decide)) 5).trans r_28_5) ?_
  refine X_iconst (v := (0 : Int32)) rfl rfl rfl ?_
  refine X_bipush (v := (26 : Int32)) rfl rfl rfl ?_
  refine X_copy (sp' := 0) (dp' := 0) (n' := 26) rfl rfl rfl ((congrFun F.1 175).trans s_175) ((congrFun F.1 30).trans s_30) (by decide) (by decide) (by decide) rfl rfl rfl (by decide) (by decide) (Nat.le_of_ble_eq_true rfl) ?_
  refine X_aload_n rfl rfl rfl rfl ?_
  refine X_getR (a := 176) rfl rfl rfl ((congrFun F.1 173).trans s_173) rfl ((congrFun (F.2.1 173 (by decide)) 6).trans r_173_6) ?_
  refine X_iconst (v := (0 : Int32)) rfl rfl rfl ?_
  refine X_aload_n rfl rfl rfl rfl ?_
  refine X_getR (a := 31) rfl rfl rfl ((congrFun F.1 28).trans s_28) rfl ((congrFun (F.2.1 28 (by decide)) 6).trans r_28_6) ?_
  refine X_iconst (v := (0 : Int32)) rfl rfl rfl ?_
  refine X_bipush (v := (26 : Int32)) rfl rfl rfl ?_
  refine X_copy (sp' := 0) (dp' := 0) (n' := 26) rfl rfl rfl ((congrFun F.1 176).trans s_176) ((congrFun F.1 31).trans s_31) (by decide) (by decide) (by decide) rfl rfl rfl (by decide) (by decide) (Nat.le_of_ble_eq_true rfl) ?_
  refine LW_return (st := []) rfl rfl ?_
  refine X_iinc (v := (4 : Int32)) (ls' := [some (.ref 14), some (.ref 159), some (.int (4 : Int32))]) rfl rfl rfl rfl rfl ?_
  refine LW_goto (tgt := 18) rfl rfl ?_
  refine X_iload_n rfl rfl rfl rfl ?_
  refine X_bipush (v := (30 : Int32)) rfl rfl rfl ?_
  refine X_icmp_ge (tgt := 45) rfl rfl rfl (fun q => absurd q (by decide)) (fun _ => ?_)
  refine X_aload_n rfl rfl rfl rfl ?_
  refine X_getR (a := 15) rfl rfl rfl ((congrFun F.1 14).trans s_14) rfl ((congrFun (F.2.1 14 (by decide)) 2).trans r_14_2) ?_
  refine X_iload_n rfl rfl rfl rfl ?_
  refine X_aald (a := 32) (t0 := 3) rfl rfl ((congrFun F.1 15).trans s_15) rfl (vp_in_d rfl) ((congrFun (F.2.1 15 (by decide)) 4).trans r_15_4) ?_
  refine X_aload_n rfl rfl rfl rfl ?_
  refine X_getR (a := 160) rfl rfl rfl ((congrFun F.1 159).trans s_159) rfl ((congrFun (F.2.1 159 (by decide)) 2).trans r_159_2) ?_
  refine X_iload_n rfl rfl rfl rfl ?_
  refine X_aald (a := 177) (t0 := 3) rfl rfl ((congrFun F.1 160).trans s_160) rfl (vp_in_d rfl) ((congrFun (F.2.1 160 (by decide)) 4).trans r_160_4) ?_
  refine X_callV (as := [.ref 177]) (st := []) rfl rfl rfl (by decide) rfl (Nat.le_of_ble_eq_true rfl) (by decide) (Nat.le_of_ble_eq_true rfl) rfl ((congrFun F.1 32).trans s_32) (by decide) ?_
  refine LW_ls (ls' := [some (.ref 32), some (.ref 177)]) rfl ?_
  refine X_aload_n rfl rfl rfl rfl ?_
  refine X_aload_n rfl rfl rfl rfl ?_
  refine X_getI (v := (0 : Int32)) rfl rfl rfl ((congrFun F.1 177).trans s_177) rfl ((congrFun (F.2.2 177 (by decide)).1 0).trans i_177_0) ?_
  refine X_putI rfl rfl rfl ((congrFun F.1 32).trans s_32) rfl rfl rfl rfl ?_
  refine X_aload_n rfl rfl rfl rfl ?_
  refine X_aload_n rfl rfl rfl rfl ?_
  refine X_getI (v := (0 : Int32)) rfl rfl rfl ((congrFun F.1 177).trans s_177) rfl ((congrFun (F.2.2 177 (by decide)).1 1).trans i_177_1) ?_
  refine X_putI rfl rfl rfl ((congrFun F.1 32).trans s_32) rfl rfl rfl rfl ?_
  refine X_aload_n rfl rfl rfl rfl ?_
  refine X_aload_n rfl rfl rfl rfl ?_
  refine X_getI (v := (17 : Int32)) rfl rfl rfl ((congrFun F.1 177).trans s_177) rfl ((congrFun (F.2.2 177 (by decide)).1 2).trans i_177_2) ?_
  refine X_putI rfl rfl rfl ((congrFun F.1 32).trans s_32) rfl rfl rfl rfl ?_
  refine X_aload_n rfl rfl rfl rfl ?_
  refine X_aload_n rfl rfl rfl rfl ?_
  refine X_getI (v := (0 : Int32)) rfl rfl rfl ((congrFun F.1 177).trans s_177) rfl ((congrFun (F.2.2 177 (by decide)).1 3).trans i_177_3) ?_
  refine X_putI rfl rfl rfl ((congrFun F.1 32).trans s_32) rfl rfl rfl rfl ?_
  refine X_aload_n rfl rfl rfl rfl ?_
  refine X_getR (a := 178) rfl rfl rfl ((congrFun F.1 177).trans s_177) rfl ((congrFun (F.2.1 177 (by decide)) 4).trans r_177_4) ?_
  refine X_iconst (v := (0 : Int32)) rfl rfl rfl ?_
  refine X_aload_n rfl rfl rfl rfl ?_
  refine X_getR (a := 33) rfl rfl rfl ((congrFun F.1 32).trans s_32) rfl ((congrFun (F.2.1 32 (by decide)) 4).trans r_32_4) ?_
  refine X_iconst (v := (0 : Int32)) rfl rfl rfl ?_
  refine X_bipush (v := (26 : Int32)) rfl rfl rfl ?_
  refine X_copy (sp' := 0) (dp' := 0) (n' := 26) rfl rfl rfl ((congrFun F.1 178).trans s_178) ((congrFun F.1 33).trans s_33) (by decide) (by decide) (by decide) rfl rfl rfl (by decide) (by decide) (Nat.le_of_ble_eq_true rfl) ?_
  refine X_aload_n rfl rfl rfl rfl ?_
  refine X_getR (a := 179) rfl rfl rfl ((congrFun F.1 177).trans s_177) rfl ((congrFun (F.2.1 177 (by decide)) 5).trans r_177_5) ?_
  refine X_iconst (v := (0 : Int32)) rfl rfl rfl ?_
  refine X_aload_n rfl rfl rfl rfl ?_
  refine X_getR (a := 34) rfl rfl rfl ((congrFun F.1 32).trans s_32) rfl ((congrFun (F.2.1 32 (by decide)) 5).trans r_32_5) ?_
  refine X_iconst (v := (0 : Int32)) rfl rfl rfl ?_
  refine X_bipush (v := (26 : Int32)) rfl rfl rfl ?_
  refine X_copy (sp' := 0) (dp' := 0) (n' := 26) rfl rfl rfl ((congrFun F.1 179).trans s_179) ((congrFun F.1 34).trans s_34) (by decide) (by decide) (by decide) rfl rfl rfl (by decide) (by decide) (Nat.le_of_ble_eq_true rfl) ?_
  refine X_aload_n rfl rfl rfl rfl ?_
  refine X_getR (a := 180) rfl rfl rfl ((congrFun F.1 177).trans s_177) rfl ((congrFun (F.2.1 177 (by decide)) 6).trans r_177_6) ?_
  refine X_iconst (v := (0 : Int32)) rfl rfl rfl ?_
  refine X_aload_n rfl rfl rfl rfl ?_
  refine X_getR (a := 35) rfl rfl rfl ((congrFun F.1 32).trans s_32) rfl ((congrFun (F.2.1 32 (by decide)) 6).trans r_32_6) ?_
  refine X_iconst (v := (0 : Int32)) rfl rfl rfl ?_
  refine X_bipush (v := (26 : Int32)) rfl rfl rfl ?_
  refine X_copy (sp' := 0) (dp' := 0) (n' := 26) rfl rfl rfl ((congrFun F.1 180).trans s_180) ((congrFun F.1 35).trans s_35) (by decide) (by decide) (by decide) rfl rfl rfl (by decide) (by decide) (Nat.le_of_ble_eq_true rfl) ?_
  refine LW_return (st := []) rfl rfl ?_
  refine X_iinc (v := (5 : Int32)) (ls' := [some (.ref 14), some (.ref 159), some (.int (5 : Int32))]) rfl rfl rfl rfl rfl ?_
  refine LW_goto (tgt := 18) rfl rfl ?_
  refine X_iload_n rfl rfl rfl rfl ?_
  refine X_bipush (v := (30 : Int32)) rfl rfl rfl ?_
  refine X_icmp_ge (tgt := 45) rfl rfl rfl (fun q => absurd q (by decide)) (fun _ => ?_)
  refine X_aload_n rfl rfl rfl rfl ?_
  refine X_getR (a := 15) rfl rfl rfl ((congrFun F.1 14).trans s_14) rfl ((congrFun (F.2.1 14 (by decide)) 2).trans r_14_2) ?_
  refine X_iload_n rfl rfl rfl rfl ?_
  refine X_aald (a := 36) (t0 := 3) rfl rfl ((congrFun F.1 15).trans s_15) rfl (vp_in_d rfl) ((congrFun (F.2.1 15 (by decide)) 5).trans r_15_5) ?_
  refine X_aload_n rfl rfl rfl rfl ?_
  refine X_getR (a := 160) rfl rfl rfl ((congrFun F.1 159).trans s_159) rfl ((congrFun (F.2.1 159 (by decide)) 2).trans r_159_2) ?_
  refine X_iload_n rfl rfl rfl rfl ?_
  refine X_aald (a := 181) (t0 := 3) rfl rfl ((congrFun F.1 160).trans s_160) rfl (vp_in_d rfl) ((congrFun (F.2.1 160 (by decide)) 5).trans r_160_5) ?_
  refine X_callV (as := [.ref 181]) (st := []) rfl rfl rfl (by decide) rfl (Nat.le_of_ble_eq_true rfl) (by decide) (Nat.le_of_ble_eq_true rfl) rfl ((congrFun F.1 36).trans s_36) (by decide) ?_
  refine LW_ls (ls' := [some (.ref 36), some (.ref 181)]) rfl ?_
  refine X_aload_n rfl rfl rfl rfl ?_
  refine X_aload_n rfl rfl rfl rfl ?_
  refine X_getI (v := (0 : Int32)) rfl rfl rfl ((congrFun F.1 181).trans s_181) rfl ((congrFun (F.2.2 181 (by decide)).1 0).trans i_181_0) ?_
  refine X_putI rfl rfl rfl ((congrFun F.1 36).trans s_36) rfl rfl rfl rfl ?_
  refine X_aload_n rfl rfl rfl rfl ?_
  refine X_aload_n rfl rfl rfl rfl ?_
  refine X_getI (v := (0 : Int32)) rfl rfl rfl ((congrFun F.1 181).trans s_181) rfl ((congrFun (F.2.2 181 (by decide)).1 1).trans i_181_1) ?_
  refine X_putI rfl rfl rfl ((congrFun F.1 36).trans s_36) rfl rfl rfl rfl ?_
  refine X_aload_n rfl rfl rfl rfl ?_
  refine X_aload_n rfl rfl rfl rfl ?_
  refine X_getI (v := (17 : Int32)) rfl rfl rfl ((congrFun F.1 181).trans s_181) rfl ((congrFun (F.2.2 181 (by decide)).1 2).trans i_181_2) ?_
  refine X_putI rfl rfl rfl ((congrFun F.1 36).trans s_36) rfl rfl rfl rfl ?_
  refine X_aload_n rfl rfl rfl rfl ?_
  refine X_aload_n rfl rfl rfl rfl ?_
  refine X_getI (v := (0 : Int32)) rfl rfl rfl ((congrFun F.1 181).trans s_181) rfl ((congrFun (F.2.2 181 (by decide)).1 3).trans i_181_3) ?_
  refine X_putI rfl rfl rfl ((congrFun F.1 36).trans s_36) rfl rfl rfl rfl ?_
  refine X_aload_n rfl rfl rfl rfl ?_
  refine X_getR (a := 182) rfl rfl rfl ((congrFun F.1 181).trans s_181) rfl ((congrFun (F.2.1 181 (by decide)) 4).trans r_181_4) ?_
  refine X_iconst (v := (0 : Int32)) rfl rfl rfl ?_
  refine X_aload_n rfl rfl rfl rfl ?_
  refine X_getR (a := 37) rfl rfl rfl ((congrFun F.1 36).trans s_36) rfl ((congrFun (F.2.1 36 (by decide)) 4).trans r_36_4) ?_
  refine X_iconst (v := (0 : Int32)) rfl rfl rfl ?_
  refine X_bipush (v := (26 : Int32)) rfl rfl rfl ?_
  refine X_copy (sp' := 0) (dp' := 0) (n' := 26) rfl rfl rfl ((congrFun F.1 182).trans s_182) ((congrFun F.1 37).trans s_37) (by decide) (by decide) (by decide) rfl rfl rfl (by decide) (by decide) (Nat.le_of_ble_eq_true rfl) ?_
  refine X_aload_n rfl rfl rfl rfl ?_
  refine X_getR (a := 183) rfl rfl rfl ((congrFun F.1 181).trans s_181) rfl ((congrFun (F.2.1 181 (by decide)) 5).trans r_181_5) ?_
  refine X_iconst (v := (0 : Int32)) rfl rfl rfl ?_
  refine X_aload_n rfl rfl rfl rfl ?_
  refine X_getR (a := 38) rfl rfl rfl ((congrFun F.1 36).trans s_36) rfl ((congrFun (F.2.1 36 (by decide)) 5).trans r_36_5) ?_
  refine X_iconst (v := (0 : Int32)) rfl rfl rfl ?_
  refine X_bipush (v := (26 : Int32)) rfl rfl rfl ?_
  refine X_copy (sp' := 0) (dp' := 0) (n' := 26) rfl rfl rfl ((congrFun F.1 183).trans s_183) ((congrFun F.1 38).trans s_38) (by decide) (by decide) (by decide) rfl rfl rfl (by decide) (by decide) (Nat.le_of_ble_eq_true rfl) ?_
  refine X_aload_n rfl rfl rfl rfl ?_
  refine X_getR (a := 184) rfl rfl rfl ((congrFun F.1 181).trans s_181) rfl ((congrFun (F.2.1 181 (by decide)) 6).trans r_181_6) ?_
  refine X_iconst (v := (0 : Int32)) rfl rfl rfl ?_
  refine X_aload_n rfl rfl rfl rfl ?_
  refine X_getR (a := 39) rfl rfl rfl ((congrFun F.1 36).trans s_36) rfl ((congrFun (F.2.1 36 (by decide)) 6).trans r_36_6) ?_
  refine X_iconst (v := (0 : Int32)) rfl rfl rfl ?_
  refine X_bipush (v := (26 : Int32)) rfl rfl rfl ?_
  refine X_copy (sp' := 0) (dp' := 0) (n' := 26) rfl rfl rfl ((congrFun F.1 184).trans s_184) ((congrFun F.1 39).trans s_39) (by decide) (by decide) (by decide) rfl rfl rfl (by decide) (by decide) (Nat.le_of_ble_eq_true rfl) ?_
  refine LW_return (st := []) rfl rfl ?_
  refine X_iinc (v := (6 : Int32)) (ls' := [some (.ref 14), some (.ref 159), some (.int (6 : Int32))]) rfl rfl rfl rfl rfl ?_
  refine LW_goto (tgt := 18) rfl rfl ?_
  refine X_iload_n rfl rfl rfl rfl ?_
  refine X_bipush (v := (30 : Int32)) rfl rfl rfl ?_
  refine X_icmp_ge (tgt := 45) rfl rfl rfl (fun q => absurd q (by decide)) (fun _ => ?_)
  refine X_aload_n rfl rfl rfl rfl ?_
  refine X_getR (a := 15) rfl rfl rfl ((congrFun F.1 14).trans s_14) rfl ((congrFun (F.2.1 14 (by decide)) 2).trans r_14_2) ?_
  refine X_iload_n rfl rfl rfl rfl ?_
  refine X_aald (a := 40) (t0 := 3) rfl rfl ((congrFun F.1 15).trans s_15) rfl (vp_in_d rfl) ((congrFun (F.2.1 15 (by decide)) 6).trans r_15_6) ?_
  refine X_aload_n rfl rfl rfl rfl ?_
  refine X_getR (a := 160) rfl rfl rfl ((congrFun F.1 159).trans s_159) rfl ((congrFun (F.2.1 159 (by decide)) 2).trans r_159_2) ?_
  refine X_iload_n rfl rfl rfl rfl ?_
  refine X_aald (a := 185) (t0 := 3) rfl rfl ((congrFun F.1 160).trans s_160) rfl (vp_in_d rfl) ((congrFun (F.2.1 160 (by decide)) 6).trans r_160_6) ?_
  refine X_callV (as := [.ref 185]) (st := []) rfl rfl rfl (by decide) rfl (Nat.le_of_ble_eq_true rfl) (by decide) (Nat.le_of_ble_eq_true rfl) rfl ((congrFun F.1 40).trans s_40) (by decide) ?_
  refine LW_ls (ls' := [some (.ref 40), some (.ref 185)]) rfl ?_
  refine X_aload_n rfl rfl rfl rfl ?_
  refine X_aload_n rfl rfl rfl rfl ?_
  refine X_getI (v := (0 : Int32)) rfl rfl rfl ((congrFun F.1 185).trans s_185) rfl ((congrFun (F.2.2 185 (by decide)).1 0).trans i_185_0) ?_
  refine X_putI rfl rfl rfl ((congrFun F.1 40).trans s_40) rfl rfl rfl rfl ?_
  refine X_aload_n rfl rfl rfl rfl ?_
  refine X_aload_n rfl rfl rfl rfl ?_
  refine X_getI (v := (0 : Int32)) rfl rfl rfl ((congrFun F.1 185).trans s_185) rfl ((congrFun (F.2.2 185 (by decide)).1 1).trans i_185_1) ?_
  refine X_putI rfl rfl rfl ((congrFun F.1 40).trans s_40) rfl rfl rfl rfl ?_
  refine X_aload_n rfl rfl rfl rfl ?_
  refine X_aload_n rfl rfl rfl rfl ?_
  refine X_getI (v := (17 : Int32)) rfl rfl rfl ((congrFun F.1 185).trans s_185) rfl ((congrFun (F.2.2 185 (by decide)).1 2).trans i_185_2) ?_
  refine X_putI rfl rfl rfl ((congrFun F.1 40).trans s_40) rfl rfl rfl rfl ?_
  refine X_aload_n rfl rfl rfl rfl ?_
  refine X_aload_n rfl rfl rfl rfl ?_
  refine X_getI (v := (0 : Int32)) rfl rfl rfl ((congrFun F.1 185).trans s_185) rfl ((congrFun (F.2.2 185 (by decide)).1 3).trans i_185_3) ?_
  refine X_putI rfl rfl rfl ((congrFun F.1 40).trans s_40) rfl rfl rfl rfl ?_
  refine X_aload_n rfl rfl rfl rfl ?_
  refine X_getR (a := 186) rfl rfl rfl ((congrFun F.1 185).trans s_185) rfl ((congrFun (F.2.1 185 (by decide)) 4).trans r_185_4) ?_
  refine X_iconst (v := (0 : Int32)) rfl rfl rfl ?_
  refine X_aload_n rfl rfl rfl rfl ?_
  refine X_getR (a := 41) rfl rfl rfl ((congrFun F.1 40).trans s_40) rfl ((congrFun (F.2.1 40 (by decide)) 4).trans r_40_4) ?_
  refine X_iconst (v := (0 : Int32)) rfl rfl rfl ?_
  refine X_bipush (v := (26 : Int32)) rfl rfl rfl ?_
  refine X_copy (sp' := 0) (dp' := 0) (n' := 26) rfl rfl rfl ((congrFun F.1 186).trans s_186) ((congrFun F.1 41).trans s_41) (by decide) (by decide) (by decide) rfl rfl rfl (by decide) (by decide) (Nat.le_of_ble_eq_true rfl) ?_
  refine X_aload_n rfl rfl rfl rfl ?_
  refine X_getR (a := 187) rfl rfl rfl ((congrFun F.1 185).trans s_185) rfl ((congrFun (F.2.1 185 (by decide)) 5).trans r_185_5) ?_
  refine X_iconst (v := (0 : Int32)) rfl rfl rfl ?_
  refine X_aload_n rfl rfl rfl rfl ?_
  refine X_getR (a := 42) rfl rfl rfl ((congrFun F.1 40).trans s_40) rfl ((congrFun (F.2.1 40 (by decide)) 5).trans r_40_5) ?_
  refine X_iconst (v := (0 : Int32)) rfl rfl rfl ?_
  refine X_bipush (v := (26 : Int32)) rfl rfl rfl ?_
  refine X_copy (sp' := 0) (dp' := 0) (n' := 26) rfl rfl rfl ((congrFun F.1 187).trans s_187) ((congrFun F.1 42).trans s_42) (by decide) (by decide) (by decide) rfl rfl rfl (by decide) (by decide) (Nat.le_of_ble_eq_true rfl) ?_
  refine X_aload_n rfl rfl rfl rfl ?_
  refine X_getR (a := 188) rfl rfl rfl ((congrFun F.1 185).trans s_185) rfl ((congrFun (F.2.1 185 (by decide)) 6).trans r_185_6) ?_
  refine X_iconst (v := (0 : Int32)) rfl rfl rfl ?_
  refine X_aload_n rfl rfl rfl rfl ?_
  refine X_getR (a := 43) rfl rfl rfl ((congrFun F.1 40).trans s_40) rfl ((congrFun (F.2.1 40 (by decide)) 6).trans r_40_6) ?_
  refine X_iconst (v := (0 : Int32)) rfl rfl rfl ?_
  refine X_bipush (v := (26 : Int32)) rfl rfl rfl ?_
  refine X_copy (sp' := 0) (dp' := 0) (n' := 26) rfl rfl rfl ((congrFun F.1 188).trans s_188) ((congrFun F.1 43).trans s_43) (by decide) (by decide) (by decide) rfl rfl rfl (by decide) (by decide) (Nat.le_of_ble_eq_true rfl) ?_
  refine LW_return (st := []) rfl rfl ?_
  refine X_iinc (v := (7 : Int32)) (ls' := [some (.ref 14), some (.ref 159), some (.int (7 : Int32))]) rfl rfl rfl rfl rfl ?_
  refine LW_goto (tgt := 18) rfl rfl ?_
  refine X_iload_n rfl rfl rfl rfl ?_
  refine X_bipush (v := (30 : Int32)) rfl rfl rfl ?_
  refine X_icmp_ge (tgt := 45) rfl rfl rfl (fun q => absurd q (by decide)) (fun _ => ?_)
  refine X_aload_n rfl rfl rfl rfl ?_
  refine X_getR (a := 15) rfl rfl rfl ((congrFun F.1 14).trans s_14) rfl ((congrFun (F.2.1 14 (by decide)) 2).trans r_14_2) ?_
  refine X_iload_n rfl rfl rfl rfl ?_
  refine X_aald (a := 44) (t0 := 3) rfl rfl ((congrFun F.1 15).trans s_15) rfl (vp_in_d rfl) ((congrFun (F.2.1 15 (by decide)) 7).trans r_15_7) ?_
  refine X_aload_n rfl rfl rfl rfl ?_
  refine X_getR (a := 160) rfl rfl rfl ((congrFun F.1 159).trans s_159) rfl ((congrFun (F.2.1 159 (by decide)) 2).trans r_159_2) ?_
  refine X_iload_n rfl rfl rfl rfl ?_
  refine X_aald (a := 189) (t0 := 3) rfl rfl ((congrFun F.1 160).trans s_160) rfl (vp_in_d rfl) ((congrFun (F.2.1 160 (by decide)) 7).trans r_160_7) ?_
  refine X_callV (as := [.ref 189]) (st := []) rfl rfl rfl (by decide) rfl (Nat.le_of_ble_eq_true rfl) (by decide) (Nat.le_of_ble_eq_true rfl) rfl ((congrFun F.1 44).trans s_44) (by decide) ?_
  refine LW_ls (ls' := [some (.ref 44), some (.ref 189)]) rfl ?_
  refine X_aload_n rfl rfl rfl rfl ?_
  refine X_aload_n rfl rfl rfl rfl ?_
  refine X_getI (v := (0 : Int32)) rfl rfl rfl ((congrFun F.1 189).trans s_189) rfl ((congrFun (F.2.2 189 (by decide)).1 0).trans i_189_0) ?_
  refine X_putI rfl rfl rfl ((congrFun F.1 44).trans s_44) rfl rfl rfl rfl ?_
  refine X_aload_n rfl rfl rfl rfl ?_
  refine X_aload_n rfl rfl rfl rfl ?_
  refine X_getI (v := (0 : Int32)) rfl rfl rfl ((congrFun F.1 189).trans s_189) rfl ((congrFun (F.2.2 189 (by decide)).1 1).trans i_189_1) ?_
  refine X_putI rfl rfl rfl ((congrFun F.1 44).trans s_44) rfl rfl rfl rfl ?_
  refine X_aload_n rfl rfl rfl rfl ?_
  refine X_aload_n rfl rfl rfl rfl ?_
  refine X_getI (v := (17 : Int32)) rfl rfl rfl ((congrFun F.1 189).trans s_189) rfl ((congrFun (F.2.2 189 (by decide)).1 2).trans i_189_2) ?_
  refine X_putI rfl rfl rfl ((congrFun F.1 44).trans s_44) rfl rfl rfl rfl ?_
  refine X_aload_n rfl rfl rfl rfl ?_
  refine X_aload_n rfl rfl rfl rfl ?_
  refine X_getI (v := (0 : Int32)) rfl rfl rfl ((congrFun F.1 189).trans s_189) rfl ((congrFun (F.2.2 189 (by decide)).1 3).trans i_189_3) ?_
  refine X_putI rfl rfl rfl ((congrFun F.1 44).trans s_44) rfl rfl rfl rfl ?_
  refine X_aload_n rfl rfl rfl rfl ?_
  refine X_getR (a := 190) rfl rfl rfl ((congrFun F.1 189).trans s_189) rfl ((congrFun (F.2.1 189 (by decide)) 4).trans r_189_4) ?_
  refine X_iconst (v := (0 : Int32)) rfl rfl rfl ?_
  refine X_aload_n rfl rfl rfl rfl ?_
  refine X_getR (a := 45) rfl rfl rfl ((congrFun F.1 44).trans s_44) rfl ((congrFun (F.2.1 44 (by decide)) 4).trans r_44_4) ?_
  refine X_iconst (v := (0 : Int32)) rfl rfl rfl ?_
  refine X_bipush (v := (26 : Int32)) rfl rfl rfl ?_
  refine X_copy (sp' := 0) (dp' := 0) (n' := 26) rfl rfl rfl ((congrFun F.1 190).trans s_190) ((congrFun F.1 45).trans s_45) (by decide) (by decide) (by decide) rfl rfl rfl (by decide) (by decide) (Nat.le_of_ble_eq_true rfl) ?_
  refine X_aload_n rfl rfl rfl rfl ?_
  refine X_getR (a := 191) rfl rfl rfl ((congrFun F.1 189).trans s_189) rfl ((congrFun (F.2.1 189 (by decide)) 5).trans r_189_5) ?_
  refine X_iconst (v := (0 : Int32)) rfl rfl rfl ?_
  refine X_aload_n rfl rfl rfl rfl ?_
  refine X_getR (a := 46) rfl rfl rfl ((congrFun F.1 44).trans s_44) rfl ((congrFun (F.2.1 44 (by decide)) 5).trans r_44_5) ?_
  refine X_iconst (v := (0 : Int32)) rfl rfl rfl ?_
  refine X_bipush (v := (26 : Int32)) rfl rfl rfl ?_
  refine X_copy (sp' := 0) (dp' := 0) (n' := 26) rfl rfl rfl ((congrFun F.1 191).trans s_191) ((congrFun F.1 46).trans s_46) (by decide) (by decide) (by decide) rfl rfl rfl (by decide) (by decide) (Nat.le_of_ble_eq_true rfl) ?_
  refine X_aload_n rfl rfl rfl rfl ?_
  refine X_getR (a := 192) rfl rfl rfl ((congrFun F.1 189).trans s_189) rfl ((congrFun (F.2.1 189 (by decide)) 6).trans r_189_6) ?_
  refine X_iconst (v := (0 : Int32)) rfl rfl rfl ?_
  refine X_aload_n rfl rfl rfl rfl ?_
  refine X_getR (a := 47) rfl rfl rfl ((congrFun F.1 44).trans s_44) rfl ((congrFun (F.2.1 44 (by decide)) 6).trans r_44_6) ?_
  refine X_iconst (v := (0 : Int32)) rfl rfl rfl ?_
  refine X_bipush (v := (26 : Int32)) rfl rfl rfl ?_
  refine X_copy (sp' := 0) (dp' := 0) (n' := 26) rfl rfl rfl ((congrFun F.1 192).trans s_192) ((congrFun F.1 47).trans s_47) (by decide) (by decide) (by decide) rfl rfl rfl (by decide) (by decide) (Nat.le_of_ble_eq_true rfl) ?_
  refine LW_return (st := []) rfl rfl ?_
  refine X_iinc (v := (8 : Int32)) (ls' := [some (.ref 14), some (.ref 159), some (.int (8 : Int32))]) rfl rfl rfl rfl rfl ?_
  refine LW_goto (tgt := 18) rfl rfl ?_
  refine X_iload_n rfl rfl rfl rfl ?_
  refine X_bipush (v := (30 : Int32)) rfl rfl rfl ?_
  refine X_icmp_ge (tgt := 45) rfl rfl rfl (fun q => absurd q (by decide)) (fun _ => ?_)
  refine X_aload_n rfl rfl rfl rfl ?_
  refine X_getR (a := 15) rfl rfl rfl ((congrFun F.1 14).trans s_14) rfl ((congrFun (F.2.1 14 (by decide)) 2).trans r_14_2) ?_
  refine X_iload_n rfl rfl rfl rfl ?_
  refine X_aald (a := 48) (t0 := 3) rfl rfl ((congrFun F.1 15).trans s_15) rfl (vp_in_d rfl) ((congrFun (F.2.1 15 (by decide)) 8).trans r_15_8) ?_
  refine X_aload_n rfl rfl rfl rfl ?_
  refine X_getR (a := 160) rfl rfl rfl ((congrFun F.1 159).trans s_159) rfl ((congrFun (F.2.1 159 (by decide)) 2).trans r_159_2) ?_
  refine X_iload_n rfl rfl rfl rfl ?_
  refine X_aald (a := 193) (t0 := 3) rfl rfl ((congrFun F.1 160).trans s_160) rfl (vp_in_d rfl) ((congrFun (F.2.1 160 (by decide)) 8).trans r_160_8) ?_
  refine X_callV (as := [.ref 193]) (st := []) rfl rfl rfl (by decide) rfl (Nat.le_of_ble_eq_true rfl) (by decide) (Nat.le_of_ble_eq_true rfl) rfl ((congrFun F.1 48).trans s_48) (by decide) ?_
  refine LW_ls (ls' := [some (.ref 48), some (.ref 193)]) rfl ?_
  refine X_aload_n rfl rfl rfl rfl ?_
  refine X_aload_n rfl rfl rfl rfl ?_
  refine X_getI (v := (0 : Int32)) rfl rfl rfl ((congrFun F.1 193).trans s_193) rfl ((congrFun (F.2.2 193 (by decide)).1 0).trans i_193_0) ?_
  refine X_putI rfl rfl rfl ((congrFun F.1 48).trans s_48) rfl rfl rfl rfl ?_
  refine X_aload_n rfl rfl rfl rfl ?_
  refine X_aload_n rfl rfl rfl rfl ?_
  refine X_getI (v := (0 : Int32)) rfl rfl rfl ((congrFun F.1 193).trans s_193) rfl ((congrFun (F.2.2 193 (by decide)).1 1).trans i_193_1) ?_
  refine X_putI rfl rfl rfl ((congrFun F.1 48).trans s_48) rfl rfl rfl rfl ?_
  refine X_aload_n rfl rfl rfl rfl ?_
  refine X_aload_n rfl rfl rfl rfl ?_
  refine X_getI (v := (17 : Int32)) rfl rfl rfl ((congrFun F.1 193).trans s_193) rfl ((congrFun (F.2.2 193 (by decide)).1 2).trans i_193_2) ?_
  refine X_putI rfl rfl rfl ((congrFun F.1 48).trans s_48) rfl rfl rfl rfl ?_
  refine X_aload_n rfl rfl rfl rfl ?_
  refine X_aload_n rfl rfl rfl rfl ?_
  refine X_getI (v := (0 : Int32)) rfl rfl rfl ((congrFun F.1 193).trans s_193) rfl ((congrFun (F.2.2 193 (by decide)).1 3).trans i_193_3) ?_
  refine X_putI rfl rfl rfl ((congrFun F.1 48).trans s_48) rfl rfl rfl rfl ?_
  refine X_aload_n rfl rfl rfl rfl ?_
  refine X_getR (a := 194) rfl rfl rfl ((congrFun F.1 193).trans s_193) rfl ((congrFun (F.2.1 193 (by decide)) 4).trans r_193_4) ?_
  refine X_iconst (v := (0 : Int32)) rfl rfl rfl ?_
  refine X_aload_n rfl rfl rfl rfl ?_
  refine X_getR (a := 49) rfl rfl rfl ((congrFun F.1 48).trans s_48) rfl ((congrFun (F.2.1 48 (by decide)) 4).trans r_48_4) ?_
  refine X_iconst (v := (0 : Int32)) rfl rfl rfl ?_
  refine X_bipush (v := (26 : Int32)) rfl rfl rfl ?_
  refine X_copy (sp' := 0) (dp' := 0) (n' := 26) rfl rfl rfl ((congrFun F.1 194).trans s_194) ((congrFun F.1 49).trans s_49) (by decide) (by decide) (by decide) rfl rfl rfl (by decide) (by decide) (Nat.le_of_ble_eq_true rfl) ?_
  refine X_aload_n rfl rfl rfl rfl ?_
  refine X_getR (a := 195) rfl rfl rfl ((congrFun F.1 193).trans s_193) rfl ((congrFun (F.2.1 193 (by decide)) 5).trans r_193_5) ?_
  refine X_iconst (v := (0 : Int32)) rfl rfl rfl ?_
  refine X_aload_n rfl rfl rfl rfl ?_
  refine X_getR (a := 50) rfl rfl rfl ((congrFun F.1 48).trans s_48) rfl ((congrFun (F.2.1 48 (by decide)) 5).trans r_48_5) ?_
  refine X_iconst (v := (0 : Int32)) rfl rfl rfl ?_
  refine X_bipush (v := (26 : Int32)) rfl rfl rfl ?_
  refine X_copy (sp' := 0) (dp' := 0) (n' := 26) rfl rfl rfl ((congrFun F.1 195).trans s_195) ((congrFun F.1 50).trans s_50) (by decide) (by decide) (by decide) rfl rfl rfl (by decide) (by decide) (Nat.le_of_ble_eq_true rfl) ?_
  refine X_aload_n rfl rfl rfl rfl ?_
  refine X_getR (a := 196) rfl rfl rfl ((congrFun F.1 193).trans s_193) rfl ((congrFun (F.2.1 193 (by decide)) 6).trans r_193_6) ?_
  refine X_iconst (v := (0 : Int32)) rfl rfl rfl ?_
  refine X_aload_n rfl rfl rfl rfl ?_
  refine X_getR (a := 51) rfl rfl rfl ((congrFun F.1 48).trans s_48) rfl ((congrFun (F.2.1 48 (by decide)) 6).trans r_48_6) ?_
  refine X_iconst (v := (0 : Int32)) rfl rfl rfl ?_
  refine X_bipush (v := (26 : Int32)) rfl rfl rfl ?_
  refine X_copy (sp' := 0) (dp' := 0) (n' := 26) rfl rfl rfl ((congrFun F.1 196).trans s_196) ((congrFun F.1 51).trans s_51) (by decide) (by decide) (by decide) rfl rfl rfl (by decide) (by decide) (Nat.le_of_ble_eq_true rfl) ?_
  refine LW_return (st := []) rfl rfl ?_
  refine X_iinc (v := (9 : Int32)) (ls' := [some (.ref 14), some (.ref 159), some (.int (9 : Int32))]) rfl rfl rfl rfl rfl ?_
  refine LW_goto (tgt := 18) rfl rfl ?_
  refine X_iload_n rfl rfl rfl rfl ?_
  refine X_bipush (v := (30 : Int32)) rfl rfl rfl ?_
  refine X_icmp_ge (tgt := 45) rfl rfl rfl (fun q => absurd q (by decide)) (fun _ => ?_)
  refine X_aload_n rfl rfl rfl rfl ?_
  refine X_getR (a := 15) rfl rfl rfl ((congrFun F.1 14).trans s_14) rfl ((congrFun (F.2.1 14 (by decide)) 2).trans r_14_2) ?_
  refine X_iload_n rfl rfl rfl rfl ?_
  refine X_aald (a := 52) (t0 := 3) rfl rfl ((congrFun F.1 15).trans s_15) rfl (vp_in_d rfl) ((congrFun (F.2.1 15 (by decide)) 9).trans r_15_9) ?_
  refine X_aload_n rfl rfl rfl rfl ?_
  refine X_getR (a := 160) rfl rfl rfl ((congrFun F.1 159).trans s_159) rfl ((congrFun (F.2.1 159 (by decide)) 2).trans r_159_2) ?_
  refine X_iload_n rfl rfl rfl rfl ?_
  refine X_aald (a := 197) (t0 := 3) rfl rfl ((congrFun F.1 160).trans s_160) rfl (vp_in_d rfl) ((congrFun (F.2.1 160 (by decide)) 9).trans r_160_9) ?_
  refine X_callV (as := [.ref 197]) (st := []) rfl rfl rfl (by decide) rfl (Nat.le_of_ble_eq_true rfl) (by decide) (Nat.le_of_ble_eq_true rfl) rfl ((congrFun F.1 52).trans s_52) (by decide) ?_
  refine LW_ls (ls' := [some (.ref 52), some (.ref 197)]) rfl ?_
  refine X_aload_n rfl rfl rfl rfl ?_
  refine X_aload_n rfl rfl rfl rfl ?_
  refine X_getI (v := (0 : Int32)) rfl rfl rfl ((congrFun F.1 197).trans s_197) rfl ((congrFun (F.2.2 197 (by decide)).1 0).trans i_197_0) ?_
  refine X_putI rfl rfl rfl ((congrFun F.1 52).trans s_52) rfl rfl rfl rfl ?_
  refine X_aload_n rfl rfl rfl rfl ?_
  refine X_aload_n rfl rfl rfl rfl ?_
  refine X_getI (v := (0 : Int32)) rfl rfl rfl ((congrFun F.1 197).trans s_197) rfl ((congrFun (F.2.2 197 (by decide)).1 1).trans i_197_1) ?_
  refine X_putI rfl rfl rfl ((congrFun F.1 52).trans s_52) rfl rfl rfl rfl ?_
  refine X_aload_n rfl rfl rfl rfl ?_
  refine X_aload_n rfl rfl rfl rfl ?_
  refine X_getI (v := (17 : Int32)) rfl rfl rfl ((congrFun F.1 197).trans s_197) rfl ((congrFun (F.2.2 197 (by decide)).1 2).trans i_197_2) ?_
  refine X_putI rfl rfl rfl ((congrFun F.1 52).trans s_52) rfl rfl rfl rfl ?_
  refine X_aload_n rfl rfl rfl rfl ?_
  refine X_aload_n rfl rfl rfl rfl ?_
  refine X_getI (v := (0 : Int32)) rfl rfl rfl ((congrFun F.1 197).trans s_197) rfl ((congrFun (F.2.2 197 (by decide)).1 3).trans i_197_3) ?_
  refine X_putI rfl rfl rfl ((congrFun F.1 52).trans s_52) rfl rfl rfl rfl ?_
  refine X_aload_n rfl rfl rfl rfl ?_
  refine X_getR (a := 198) rfl rfl rfl ((congrFun F.1 197).trans s_197) rfl ((congrFun (F.2.1 197 (by decide)) 4).trans r_197_4) ?_
  refine X_iconst (v := (0 : Int32)) rfl rfl rfl ?_
  refine X_aload_n rfl rfl rfl rfl ?_
  refine X_getR (a := 53) rfl rfl rfl ((congrFun F.1 52).trans s_52) rfl ((congrFun (F.2.1 52 (by decide)) 4).trans r_52_4) ?_
  refine X_iconst (v := (0 : Int32)) rfl rfl rfl ?_
  refine X_bipush (v := (26 : Int32)) rfl rfl rfl ?_
  refine X_copy (sp' := 0) (dp' := 0) (n' := 26) rfl rfl rfl ((congrFun F.1 198).trans s_198) ((congrFun F.1 53).trans s_53) (by decide) (by decide) (by decide) rfl rfl rfl (by decide) (by decide) (Nat.le_of_ble_eq_true rfl) ?_
  refine X_aload_n rfl rfl rfl rfl ?_
  refine X_getR (a := 199) rfl rfl rfl ((congrFun F.1 197).trans s_197) rfl ((congrFun (F.2.1 197 (by decide)) 5).trans r_197_5) ?_
  refine X_iconst (v := (0 : Int32)) rfl rfl rfl ?_
  refine X_aload_n rfl rfl rfl rfl ?_
  refine X_getR (a := 54) rfl rfl rfl ((congrFun F.1 52).trans s_52) rfl ((congrFun (F.2.1 52 (by decide)) 5).trans r_52_5) ?_
  refine X_iconst (v := (0 : Int32)) rfl rfl rfl ?_
  refine X_bipush (v := (26 : Int32)) rfl rfl rfl ?_
  refine X_copy (sp' := 0) (dp' := 0) (n' := 26) rfl rfl rfl ((congrFun F.1 199).trans s_199) ((congrFun F.1 54).trans s_54) (by decide) (by decide) (by decide) rfl rfl rfl (by decide) (by decide) (Nat.le_of_ble_eq_true rfl) ?_
  refine X_aload_n rfl rfl rfl rfl ?_
  refine X_getR (a := 200) rfl rfl rfl ((congrFun F.1 197).trans s_197) rfl ((congrFun (F.2.1 197 (by decide)) 6).trans r_197_6) ?_
  refine X_iconst (v := (0 : Int32)) rfl rfl rfl ?_
  refine X_aload_n rfl rfl rfl rfl ?_
  refine X_getR (a := 55) rfl rfl rfl ((congrFun F.1 52).trans s_52) rfl ((congrFun (F.2.1 52 (by decide)) 6).trans r_52_6) ?_
  refine X_iconst (v := (0 : Int32)) rfl rfl rfl ?_
  refine X_bipush (v := (26 : Int32)) rfl rfl rfl ?_
  refine X_copy (sp' := 0) (dp' := 0) (n' := 26) rfl rfl rfl ((congrFun F.1 200).trans s_200) ((congrFun F.1 55).trans s_55) (by decide) (by decide) (by decide) rfl rfl rfl (by decide) (by decide) (Nat.le_of_ble_eq_true rfl) ?_
  refine LW_return (st := []) rfl rfl ?_
  refine X_iinc (v := (10 : Int32)) (ls' := [some (.ref 14), some (.ref 159), some (.int (10 : Int32))]) rfl rfl rfl rfl rfl ?_
  refine LW_goto (tgt := 18) rfl rfl ?_
  refine X_iload_n rfl rfl rfl rfl ?_
  refine X_bipush (v := (30 : Int32)) rfl rfl rfl ?_
  refine X_icmp_ge (tgt := 45) rfl rfl rfl (fun q => absurd q (by decide)) (fun _ => ?_)
  refine X_aload_n rfl rfl rfl rfl ?_
  refine X_getR (a := 15) rfl rfl rfl ((congrFun F.1 14).trans s_14) rfl ((congrFun (F.2.1 14 (by decide)) 2).trans r_14_2) ?_
  refine X_iload_n rfl rfl rfl rfl ?_
  refine X_aald (a := 56) (t0 := 3) rfl rfl ((congrFun F.1 15).trans s_15) rfl (vp_in_d rfl) ((congrFun (F.2.1 15 (by decide)) 10).trans r_15_10) ?_
  refine X_aload_n rfl rfl rfl rfl ?_
  refine X_getR (a := 160) rfl rfl rfl ((congrFun F.1 159).trans s_159) rfl ((congrFun (F.2.1 159 (by decide)) 2).trans r_159_2) ?_
  refine X_iload_n rfl rfl rfl rfl ?_
  refine X_aald (a := 201) (t0 := 3) rfl rfl ((congrFun F.1 160).trans s_160) rfl (vp_in_d rfl) ((congrFun (F.2.1 160 (by decide)) 10).trans r_160_10) ?_
  refine X_callV (as := [.ref 201]) (st := []) rfl rfl rfl (by decide) rfl (Nat.le_of_ble_eq_true rfl) (by decide) (Nat.le_of_ble_eq_true rfl) rfl ((congrFun F.1 56).trans s_56) (by decide) ?_
  refine LW_ls (ls' := [some (.ref 56), some (.ref 201)]) rfl ?_
  refine X_aload_n rfl rfl rfl rfl ?_
  refine X_aload_n rfl rfl rfl rfl ?_
  refine X_getI (v := (0 : Int32)) rfl rfl rfl ((congrFun F.1 201).trans s_201) rfl ((congrFun (F.2.2 201 (by decide)).1 0).trans i_201_0) ?_
  refine X_putI rfl rfl rfl ((congrFun F.1 56).trans s_56) rfl rfl rfl rfl ?_
  refine X_aload_n rfl rfl rfl rfl ?_
  refine X_aload_n rfl rfl rfl rfl ?_
  refine X_getI (v := (0 : Int32)) rfl rfl rfl ((congrFun F.1 201).trans s_201) rfl ((congrFun (F.2.2 201 (by decide)).1 1).trans i_201_1) ?_
  refine X_putI rfl rfl rfl ((congrFun F.1 56).trans s_56) rfl rfl rfl rfl ?_
  refine X_aload_n rfl rfl rfl rfl ?_
  refine X_aload_n rfl rfl rfl rfl ?_
  refine X_getI (v := (17 : Int32)) rfl rfl rfl ((congrFun F.1 201).trans s_201) rfl ((congrFun (F.2.2 201 (by decide)).1 2).trans i_201_2) ?_
  refine X_putI rfl rfl rfl ((congrFun F.1 56).trans s_56) rfl rfl rfl rfl ?_
  refine X_aload_n rfl rfl rfl rfl ?_
  refine X_aload_n rfl rfl rfl rfl ?_
  refine X_getI (v := (0 : Int32)) rfl rfl rfl ((congrFun F.1 201).trans s_201) rfl ((congrFun (F.2.2 201 (by decide)).1 3).trans i_201_3) ?_
  refine X_putI rfl rfl rfl ((congrFun F.1 56).trans s_56) rfl rfl rfl rfl ?_
  refine X_aload_n rfl rfl rfl rfl ?_
  refine X_getR (a := 202) rfl rfl rfl ((congrFun F.1 201).trans s_201) rfl ((congrFun (F.2.1 201 (by decide)) 4).trans r_201_4) ?_
  refine X_iconst (v := (0 : Int32)) rfl rfl rfl ?_
  refine X_aload_n rfl rfl rfl rfl ?_
  refine X_getR (a := 57) rfl rfl rfl ((congrFun F.1 56).trans s_56) rfl ((congrFun (F.2.1 56 (by decide)) 4).trans r_56_4) ?_
  refine X_iconst (v := (0 : Int32)) rfl rfl rfl ?_
  refine X_bipush (v := (26 : Int32)) rfl rfl rfl ?_
  refine X_copy (sp' := 0) (dp' := 0) (n' := 26) rfl rfl rfl ((congrFun F.1 202).trans s_202) ((congrFun F.1 57).trans s_57) (by decide) (by decide) (by decide) rfl rfl rfl (by decide) (by decide) (Nat.le_of_ble_eq_true rfl) ?_
  refine X_aload_n rfl rfl rfl rfl ?_
  refine X_getR (a := 203) rfl rfl rfl ((congrFun F.1 201).trans s_201) rfl ((congrFun (F.2.1 201 (by decide)) 5).trans r_201_5) ?_
  refine X_iconst (v := (0 : Int32)) rfl rfl rfl ?_
  refine X_aload_n rfl rfl rfl rfl ?_
  refine X_getR (a := 58) rfl rfl rfl ((congrFun F.1 56).trans s_56) rfl ((congrFun (F.2.1 56 (by decide)) 5).trans r_56_5) ?_
  refine X_iconst (v := (0 : Int32)) rfl rfl rfl ?_
  refine X_bipush (v := (26 : Int32)) rfl rfl rfl ?_
  refine X_copy (sp' := 0) (dp' := 0) (n' := 26) rfl rfl rfl ((congrFun F.1 203).trans s_203) ((congrFun F.1 58).trans s_58) (by decide) (by decide) (by decide) rfl rfl rfl (by decide) (by decide) (Nat.le_of_ble_eq_true rfl) ?_
  refine X_aload_n rfl rfl rfl rfl ?_
  refine X_getR (a := 204) rfl rfl rfl ((congrFun F.1 201).trans s_201) rfl ((congrFun (F.2.1 201 (by decide)) 6).trans r_201_6) ?_
  refine X_iconst (v := (0 : Int32)) rfl rfl rfl ?_
  refine X_aload_n rfl rfl rfl rfl ?_
  refine X_getR (a := 59) rfl rfl rfl ((congrFun F.1 56).trans s_56) rfl ((congrFun (F.2.1 56 (by decide)) 6).trans r_56_6) ?_
  refine X_iconst (v := (0 : Int32)) rfl rfl rfl ?_
  refine X_bipush (v := (26 : Int32)) rfl rfl rfl ?_
  refine X_copy (sp' := 0) (dp' := 0) (n' := 26) rfl rfl rfl ((congrFun F.1 204).trans s_204) ((congrFun F.1 59).trans s_59) (by decide) (by decide) (by decide) rfl rfl rfl (by decide) (by decide) (Nat.le_of_ble_eq_true rfl) ?_
  refine LW_return (st := []) rfl rfl ?_
  refine X_iinc (v := (11 : Int32)) (ls' := [some (.ref 14), some (.ref 159), some (.int (11 : Int32))]) rfl rfl rfl rfl rfl ?_
  refine LW_goto (tgt := 18) rfl rfl ?_
  refine X_iload_n rfl rfl rfl rfl ?_
  refine X_bipush (v := (30 : Int32)) rfl rfl rfl ?_
  refine X_icmp_ge (tgt := 45) rfl rfl rfl (fun q => absurd q (by decide)) (fun _ => ?_)
  refine X_aload_n rfl rfl rfl rfl ?_
  refine X_getR (a := 15) rfl rfl rfl ((congrFun F.1 14).trans s_14) rfl ((congrFun (F.2.1 14 (by decide)) 2).trans r_14_2) ?_
  refine X_iload_n rfl rfl rfl rfl ?_
  refine X_aald (a := 60) (t0 := 3) rfl rfl ((congrFun F.1 15).trans s_15) rfl (vp_in_d rfl) ((congrFun (F.2.1 15 (by decide)) 11).trans r_15_11) ?_
  refine X_aload_n rfl rfl rfl rfl ?_
  refine X_getR (a := 160) rfl rfl rfl ((congrFun F.1 159).trans s_159) rfl ((congrFun (F.2.1 159 (by decide)) 2).trans r_159_2) ?_
  refine X_iload_n rfl rfl rfl rfl ?_
  refine X_aald (a := 205) (t0 := 3) rfl rfl ((congrFun F.1 160).trans s_160) rfl (vp_in_d rfl) ((congrFun (F.2.1 160 (by decide)) 11).trans r_160_11) ?_
  refine X_callV (as := [.ref 205]) (st := []) rfl rfl rfl (by decide) rfl (Nat.le_of_ble_eq_true rfl) (by decide) (Nat.le_of_ble_eq_true rfl) rfl ((congrFun F.1 60).trans s_60) (by decide) ?_
  refine LW_ls (ls' := [some (.ref 60), some (.ref 205)]) rfl ?_
  refine X_aload_n rfl rfl rfl rfl ?_
  refine X_aload_n rfl rfl rfl rfl ?_
  refine X_getI (v := (0 : Int32)) rfl rfl rfl ((congrFun F.1 205).trans s_205) rfl ((congrFun (F.2.2 205 (by decide)).1 0).trans i_205_0) ?_
  refine X_putI rfl rfl rfl ((congrFun F.1 60).trans s_60) rfl rfl rfl rfl ?_
  refine X_aload_n rfl rfl rfl rfl ?_
  refine X_aload_n rfl rfl rfl rfl ?_
  refine X_getI (v := (0 : Int32)) rfl rfl rfl ((congrFun F.1 205).trans s_205) rfl ((congrFun (F.2.2 205 (by decide)).1 1).trans i_205_1) ?_
  refine X_putI rfl rfl rfl ((congrFun F.1 60).trans s_60) rfl rfl rfl rfl ?_
  refine X_aload_n rfl rfl rfl rfl ?_
  refine X_aload_n rfl rfl rfl rfl ?_
  refine X_getI (v := (17 : Int32)) rfl rfl rfl ((congrFun F.1 205).trans s_205) rfl ((congrFun (F.2.2 205 (by decide)).1 2).trans i_205_2) ?_
  refine X_putI rfl rfl rfl ((congrFun F.1 60).trans s_60) rfl rfl rfl rfl ?_
  refine X_aload_n rfl rfl rfl rfl ?_
  refine X_aload_n rfl rfl rfl rfl ?_
  refine X_getI (v := (0 : Int32)) rfl rfl rfl ((congrFun F.1 205).trans s_205) rfl ((congrFun (F.2.2 205 (by decide)).1 3).trans i_205_3) ?_
  refine X_putI rfl rfl rfl ((congrFun F.1 60).trans s_60) rfl rfl rfl rfl ?_
  refine X_aload_n rfl rfl rfl rfl ?_
  refine X_getR (a := 206) rfl rfl rfl ((congrFun F.1 205).trans s_205) rfl ((congrFun (F.2.1 205 (by decide)) 4).trans r_205_4) ?_
  refine X_iconst (v := (0 : Int32)) rfl rfl rfl ?_
  refine X_aload_n rfl rfl rfl rfl ?_
  refine X_getR (a := 61) rfl rfl rfl ((congrFun F.1 60).trans s_60) rfl ((congrFun (F.2.1 60 (by decide)) 4).trans r_60_4) ?_
  refine X_iconst (v := (0 : Int32)) rfl rfl rfl ?_
  refine X_bipush (v := (26 : Int32)) rfl rfl rfl ?_
  refine X_copy (sp' := 0) (dp' := 0) (n' := 26) rfl rfl rfl ((congrFun F.1 206).trans s_206) ((congrFun F.1 61).trans s_61) (by decide) (by decide) (by decide) rfl rfl rfl (by decide) (by decide) (Nat.le_of_ble_eq_true rfl) ?_
  refine X_aload_n rfl rfl rfl rfl ?_
  refine X_getR (a := 207) rfl rfl rfl ((congrFun F.1 205).trans s_205) rfl ((congrFun (F.2.1 205 (by decide)) 5).trans r_205_5) ?_
  refine X_iconst (v := (0 : Int32)) rfl rfl rfl ?_
  refine X_aload_n rfl rfl rfl rfl ?_
  refine X_getR (a := 62) rfl rfl rfl ((congrFun F.1 60).trans s_60) rfl ((congrFun (F.2.1 60 (by decide)) 5).trans r_60_5) ?_
  refine X_iconst (v := (0 : Int32)) rfl rfl rfl ?_
  refine X_bipush (v := (26 : Int32)) rfl rfl rfl ?_
  refine X_copy (sp' := 0) (dp' := 0) (n' := 26) rfl rfl rfl ((congrFun F.1 207).trans s_207) ((congrFun F.1 62).trans s_62) (by decide) (by decide) (by decide) rfl rfl rfl (by decide) (by decide) (Nat.le_of_ble_eq_true rfl) ?_
  refine X_aload_n rfl rfl rfl rfl ?_
  refine X_getR (a := 208) rfl rfl rfl ((congrFun F.1 205).trans s_205) rfl ((congrFun (F.2.1 205 (by decide)) 6).trans r_205_6) ?_
  refine X_iconst (v := (0 : Int32)) rfl rfl rfl ?_
  refine X_aload_n rfl rfl rfl rfl ?_
  refine X_getR (a := 63) rfl rfl rfl ((congrFun F.1 60).trans s_60) rfl ((congrFun (F.2.1 60 (by decide)) 6).trans r_60_6) ?_
  refine X_iconst (v := (0 : Int32)) rfl rfl rfl ?_
  refine X_bipush (v := (26 : Int32)) rfl rfl rfl ?_
  refine X_copy (sp' := 0) (dp' := 0) (n' := 26) rfl rfl rfl ((congrFun F.1 208).trans s_208) ((congrFun F.1 63).trans s_63) (by decide) (by decide) (by decide) rfl rfl rfl (by decide) (by decide) (Nat.le_of_ble_eq_true rfl) ?_
  refine LW_return (st := []) rfl rfl ?_
  refine X_iinc (v := (12 : Int32)) (ls' := [some (.ref 14), some (.ref 159), some (.int (12 : Int32))]) rfl rfl rfl rfl rfl ?_
  refine LW_goto (tgt := 18) rfl rfl ?_
  refine X_iload_n rfl rfl rfl rfl ?_
  refine X_bipush (v := (30 : Int32)) rfl rfl rfl ?_
  refine X_icmp_ge (tgt := 45) rfl rfl rfl (fun q => absurd q (by decide)) (fun _ => ?_)
  refine X_aload_n rfl rfl rfl rfl ?_
  refine X_getR (a := 15) rfl rfl rfl ((congrFun F.1 14).trans s_14) rfl ((congrFun (F.2.1 14 (by decide)) 2).trans r_14_2) ?_
  refine X_iload_n rfl rfl rfl rfl ?_
  refine X_aald (a := 64) (t0 := 3) rfl rfl ((congrFun F.1 15).trans s_15) rfl (vp_in_d rfl) ((congrFun (F.2.1 15 (by decide)) 12).trans r_15_12) ?_
  refine X_aload_n rfl rfl rfl rfl ?_
  refine X_getR (a := 160) rfl rfl rfl ((congrFun F.1 159).trans s_159) rfl ((congrFun (F.2.1 159 (by decide)) 2).trans r_159_2) ?_
  refine X_iload_n rfl rfl rfl rfl ?_
  refine X_aald (a := 209) (t0 := 3) rfl rfl ((congrFun F.1 160).trans s_160) rfl (vp_in_d rfl) ((congrFun (F.2.1 160 (by decide)) 12).trans r_160_12) ?_
  refine X_callV (as := [.ref 209]) (st := []) rfl rfl rfl (by decide) rfl (Nat.le_of_ble_eq_true rfl) (by decide) (Nat.le_of_ble_eq_true rfl) rfl ((congrFun F.1 64).trans s_64) (by decide) ?_
  refine LW_ls (ls' := [some (.ref 64), some (.ref 209)]) rfl ?_
  refine X_aload_n rfl rfl rfl rfl ?_
  refine X_aload_n rfl rfl rfl rfl ?_
  refine X_getI (v := (0 : Int32)) rfl rfl rfl ((congrFun F.1 209).trans s_209) rfl ((congrFun (F.2.2 209 (by decide)).1 0).trans i_209_0) ?_
  refine X_putI rfl rfl rfl ((congrFun F.1 64).trans s_64) rfl rfl rfl rfl ?_
  refine X_aload_n rfl rfl rfl rfl ?_
  refine X_aload_n rfl rfl rfl rfl ?_
  refine X_getI (v := (0 : Int32)) rfl rfl rfl ((congrFun F.1 209).trans s_209) rfl ((congrFun (F.2.2 209 (by decide)).1 1).trans i_209_1) ?_
  refine X_putI rfl rfl rfl ((congrFun F.1 64).trans s_64) rfl rfl rfl rfl ?_
  refine X_aload_n rfl rfl rfl rfl ?_
  refine X_aload_n rfl rfl rfl rfl ?_
  refine X_getI (v := (17 : Int32)) rfl rfl rfl ((congrFun F.1 209).trans s_209) rfl ((congrFun (F.2.2 209 (by decide)).1 2).trans i_209_2) ?_
  refine X_putI rfl rfl rfl ((congrFun F.1 64).trans s_64) rfl rfl rfl rfl ?_
  refine X_aload_n rfl rfl rfl rfl ?_
  refine X_aload_n rfl rfl rfl rfl ?_
  refine X_getI (v := (0 : Int32)) rfl rfl rfl ((congrFun F.1 209).trans s_209) rfl ((congrFun (F.2.2 209 (by decide)).1 3).trans i_209_3) ?_
  refine X_putI rfl rfl rfl ((congrFun F.1 64).trans s_64) rfl rfl rfl rfl ?_
  refine X_aload_n rfl rfl rfl rfl ?_
  refine X_getR (a := 210) rfl rfl rfl ((congrFun F.1 209).trans s_209) rfl ((congrFun (F.2.1 209 (by decide)) 4).trans r_209_4) ?_
  refine X_iconst (v := (0 : Int32)) rfl rfl rfl ?_
  refine X_aload_n rfl rfl rfl rfl ?_
  refine X_getR (a := 65) rfl rfl rfl ((congrFun F.1 64).trans s_64) rfl ((congrFun (F.2.1 64 (by decide)) 4).trans r_64_4) ?_
  refine X_iconst (v := (0 : Int32)) rfl rfl rfl ?_
  refine X_bipush (v := (26 : Int32)) rfl rfl rfl ?_
  refine X_copy (sp' := 0) (dp' := 0) (n' := 26) rfl rfl rfl ((congrFun F.1 210).trans s_210) ((congrFun F.1 65).trans s_65) (by decide) (by decide) (by decide) rfl rfl rfl (by decide) (by decide) (Nat.le_of_ble_eq_true rfl) ?_
  refine X_aload_n rfl rfl rfl rfl ?_
  refine X_getR (a := 211) rfl rfl rfl ((congrFun F.1 209).trans s_209) rfl ((congrFun (F.2.1 209 (by decide)) 5).trans r_209_5) ?_
  refine X_iconst (v := (0 : Int32)) rfl rfl rfl ?_
  refine X_aload_n rfl rfl rfl rfl ?_
  refine X_getR (a := 66) rfl rfl rfl ((congrFun F.1 64).trans s_64) rfl ((congrFun (F.2.1 64 (by decide)) 5).trans r_64_5) ?_
  refine X_iconst (v := (0 : Int32)) rfl rfl rfl ?_
  refine X_bipush (v := (26 : Int32)) rfl rfl rfl ?_
  refine X_copy (sp' := 0) (dp' := 0) (n' := 26) rfl rfl rfl ((congrFun F.1 211).trans s_211) ((congrFun F.1 66).trans s_66) (by decide) (by decide) (by decide) rfl rfl rfl (by decide) (by decide) (Nat.le_of_ble_eq_true rfl) ?_
  refine X_aload_n rfl rfl rfl rfl ?_
  refine X_getR (a := 212) rfl rfl rfl ((congrFun F.1 209).trans s_209) rfl ((congrFun (F.2.1 209 (by decide)) 6).trans r_209_6) ?_
  refine X_iconst (v := (0 : Int32)) rfl rfl rfl ?_
  refine X_aload_n rfl rfl rfl rfl ?_
  refine X_getR (a := 67) rfl rfl rfl ((congrFun F.1 64).trans s_64) rfl ((congrFun (F.2.1 64 (by decide)) 6).trans r_64_6) ?_
  refine X_iconst (v := (0 : Int32)) rfl rfl rfl ?_
  refine X_bipush (v := (26 : Int32)) rfl rfl rfl ?_
  refine X_copy (sp' := 0) (dp' := 0) (n' := 26) rfl rfl rfl ((congrFun F.1 212).trans s_212) ((congrFun F.1 67).trans s_67) (by decide) (by decide) (by decide) rfl rfl rfl (by decide) (by decide) (Nat.le_of_ble_eq_true rfl) ?_
  refine LW_return (st := []) rfl rfl ?_
  refine X_iinc (v := (13 : Int32)) (ls' := [some (.ref 14), some (.ref 159), some (.int (13 : Int32))]) rfl rfl rfl rfl rfl ?_
  refine LW_goto (tgt := 18) rfl rfl ?_
  refine X_iload_n rfl rfl rfl rfl ?_
  refine X_bipush (v := (30 : Int32)) rfl rfl rfl ?_
  refine X_icmp_ge (tgt := 45) rfl rfl rfl (fun q => absurd q (by decide)) (fun _ => ?_)
  refine X_aload_n rfl rfl rfl rfl ?_
  refine X_getR (a := 15) rfl rfl rfl ((congrFun F.1 14).trans s_14) rfl ((congrFun (F.2.1 14 (by decide)) 2).trans r_14_2) ?_
  refine X_iload_n rfl rfl rfl rfl ?_
  refine X_aald (a := 68) (t0 := 3) rfl rfl ((congrFun F.1 15).trans s_15) rfl (vp_in_d rfl) ((congrFun (F.2.1 15 (by decide)) 13).trans r_15_13) ?_
  refine X_aload_n rfl rfl rfl rfl ?_
  refine X_getR (a := 160) rfl rfl rfl ((congrFun F.1 159).trans s_159) rfl ((congrFun (F.2.1 159 (by decide)) 2).trans r_159_2) ?_
  refine X_iload_n rfl rfl rfl rfl ?_
  refine X_aald (a := 213) (t0 := 3) rfl rfl ((congrFun F.1 160).trans s_160) rfl (vp_in_d rfl) ((congrFun (F.2.1 160 (by decide)) 13).trans r_160_13) ?_
  refine X_callV (as := [.ref 213]) (st := []) rfl rfl rfl (by decide) rfl (Nat.le_of_ble_eq_true rfl) (by decide) (Nat.le_of_ble_eq_true rfl) rfl ((congrFun F.1 68).trans s_68) (by decide) ?_
  refine LW_ls (ls' := [some (.ref 68), some (.ref 213)]) rfl ?_
  refine X_aload_n rfl rfl rfl rfl ?_
  refine X_aload_n rfl rfl rfl rfl ?_
  refine X_getI (v := (0 : Int32)) rfl rfl rfl ((congrFun F.1 213).trans s_213) rfl ((congrFun (F.2.2 213 (by decide)).1 0).trans i_213_0) ?_
  refine X_putI rfl rfl rfl ((congrFun F.1 68).trans s_68) rfl rfl rfl rfl ?_
  refine X_aload_n rfl rfl rfl rfl ?_
  refine X_aload_n rfl rfl rfl rfl ?_
  refine X_getI (v := (0 : Int32)) rfl rfl rfl ((congrFun F.1 213).trans s_213) rfl ((congrFun (F.2.2 213 (by decide)).1 1).trans i_213_1) ?_
  refine X_putI rfl rfl rfl ((congrFun F.1 68).trans s_68) rfl rfl rfl rfl ?_
  refine X_aload_n rfl rfl rfl rfl ?_
  refine X_aload_n rfl rfl rfl rfl ?_
  refine X_getI (v := (17 : Int32)) rfl rfl rfl ((congrFun F.1 213).trans s_213) rfl ((congrFun (F.2.2 213 (by decide)).1 2).trans i_213_2) ?_
  refine X_putI rfl rfl rfl ((congrFun F.1 68).trans s_68) rfl rfl rfl rfl ?_
  refine X_aload_n rfl rfl rfl rfl ?_
  refine X_aload_n rfl rfl rfl rfl ?_
  refine X_getI (v := (0 : Int32)) rfl rfl rfl ((congrFun F.1 213).trans s_213) rfl ((congrFun (F.2.2 213 (by decide)).1 3).trans i_213_3) ?_
  refine X_putI rfl rfl rfl ((congrFun F.1 68).trans s_68) rfl rfl rfl rfl ?_
  refine X_aload_n rfl rfl rfl rfl ?_
  refine X_getR (a := 214) rfl rfl rfl ((congrFun F.1 213).trans s_213) rfl ((congrFun (F.2.1 213 (by decide)) 4).trans r_213_4) ?_
  refine X_iconst (v := (0 : Int32)) rfl rfl rfl ?_
  refine X_aload_n rfl rfl rfl rfl ?_
  refine X_getR (a := 69) rfl rfl rfl ((congrFun F.1 68).trans s_68) rfl ((congrFun (F.2.1 68 (by decide)) 4).trans r_68_4) ?_
  refine X_iconst (v := (0 : Int32)) rfl rfl rfl ?_
  refine X_bipush (v := (26 : Int32)) rfl rfl rfl ?_
  refine X_copy (sp' := 0) (dp' := 0) (n' := 26) rfl rfl rfl ((congrFun F.1 214).trans s_214) ((congrFun F.1 69).trans s_69) (by decide) (by decide) (by decide) rfl rfl rfl (by decide) (by decide) (Nat.le_of_ble_eq_true rfl) ?_
  refine X_aload_n rfl rfl rfl rfl ?_
  refine X_getR (a := 215) rfl rfl rfl ((congrFun F.1 213).trans s_213) rfl ((congrFun (F.2.1 213 (by decide)) 5).trans r_213_5) ?_
  refine X_iconst (v := (0 : Int32)) rfl rfl rfl ?_
  refine X_aload_n rfl rfl rfl rfl ?_
  refine X_getR (a := 70) rfl rfl rfl ((congrFun F.1 68).trans s_68) rfl ((congrFun (F.2.1 68 (by decide)) 5).trans r_68_5) ?_
  refine X_iconst (v := (0 : Int32)) rfl rfl rfl ?_
  refine X_bipush (v := (26 : Int32)) rfl rfl rfl ?_
  refine X_copy (sp' := 0) (dp' := 0) (n' := 26) rfl rfl rfl ((congrFun F.1 215).trans s_215) ((congrFun F.1 70).trans s_70) (by decide) (by decide) (by decide) rfl rfl rfl (by decide) (by decide) (Nat.le_of_ble_eq_true rfl) ?_
  refine X_aload_n rfl rfl rfl rfl ?_
  refine X_getR (a := 216) rfl rfl rfl ((congrFun F.1 213).trans s_213) rfl ((congrFun (F.2.1 213 (by decide)) 6).trans r_213_6) ?_
  refine X_iconst (v := (0 : Int32)) rfl rfl rfl ?_
  refine X_aload_n rfl rfl rfl rfl ?_
  refine X_getR (a := 71) rfl rfl rfl ((congrFun F.1 68).trans s_68) rfl ((congrFun (F.2.1 68 (by decide)) 6).trans r_68_6) ?_
  refine X_iconst (v := (0 : Int32)) rfl rfl rfl ?_
  refine X_bipush (v := (26 : Int32)) rfl rfl rfl ?_
  refine X_copy (sp' := 0) (dp' := 0) (n' := 26) rfl rfl rfl ((congrFun F.1 216).trans s_216) ((congrFun F.1 71).trans s_71) (by decide) (by decide) (by decide) rfl rfl rfl (by decide) (by decide) (Nat.le_of_ble_eq_true rfl) ?_
  refine LW_return (st := []) rfl rfl ?_
  refine X_iinc (v := (14 : Int32)) (ls' := [some (.ref 14), some (.ref 159), some (.int (14 : Int32))]) rfl rfl rfl rfl rfl ?_
  refine LW_goto (tgt := 18) rfl rfl ?_
  refine X_iload_n rfl rfl rfl rfl ?_
  refine X_bipush (v := (30 : Int32)) rfl rfl rfl ?_
  refine X_icmp_ge (tgt := 45) rfl rfl rfl (fun q => absurd q (by decide)) (fun _ => ?_)
  refine X_aload_n rfl rfl rfl rfl ?_
  refine X_getR (a := 15) rfl rfl rfl ((congrFun F.1 14).trans s_14) rfl ((congrFun (F.2.1 14 (by decide)) 2).trans r_14_2) ?_
  refine X_iload_n rfl rfl rfl rfl ?_
  refine X_aald (a := 72) (t0 := 3) rfl rfl ((congrFun F.1 15).trans s_15) rfl (vp_in_d rfl) ((congrFun (F.2.1 15 (by decide)) 14).trans r_15_14) ?_
  refine X_aload_n rfl rfl rfl rfl ?_
  refine X_getR (a := 160) rfl rfl rfl ((congrFun F.1 159).trans s_159) rfl ((congrFun (F.2.1 159 (by decide)) 2).trans r_159_2) ?_
  refine X_iload_n rfl rfl rfl rfl ?_
  refine X_aald (a := 217) (t0 := 3) rfl rfl ((congrFun F.1 160).trans s_160) rfl (vp_in_d rfl) ((congrFun (F.2.1 160 (by decide)) 14).trans r_160_14) ?_
  refine X_callV (as := [.ref 217]) (st := []) rfl rfl rfl (by decide) rfl (Nat.le_of_ble_eq_true rfl) (by decide) (Nat.le_of_ble_eq_true rfl) rfl ((congrFun F.1 72).trans s_72) (by decide) ?_
  refine LW_ls (ls' := [some (.ref 72), some (.ref 217)]) rfl ?_
  refine X_aload_n rfl rfl rfl rfl ?_
  refine X_aload_n rfl rfl rfl rfl ?_
  refine X_getI (v := (0 : Int32)) rfl rfl rfl ((congrFun F.1 217).trans s_217) rfl ((congrFun (F.2.2 217 (by decide)).1 0).trans i_217_0) ?_
  refine X_putI rfl rfl rfl ((congrFun F.1 72).trans s_72) rfl rfl rfl rfl ?_
  refine X_aload_n rfl rfl rfl rfl ?_
  refine X_aload_n rfl rfl rfl rfl ?_
  refine X_getI (v := (0 : Int32)) rfl rfl rfl ((congrFun F.1 217).trans s_217) rfl ((congrFun (F.2.2 217 (by decide)).1 1).trans i_217_1) ?_
  refine X_putI rfl rfl rfl ((congrFun F.1 72).trans s_72) rfl rfl rfl rfl ?_
  refine X_aload_n rfl rfl rfl rfl ?_
  refine X_aload_n rfl rfl rfl rfl ?_
  refine X_getI (v := (17 : Int32)) rfl rfl rfl ((congrFun F.1 217).trans s_217) rfl ((congrFun (F.2.2 217 (by decide)).1 2).trans i_217_2) ?_
  refine X_putI rfl rfl rfl ((congrFun F.1 72).trans s_72) rfl rfl rfl rfl ?_
  refine X_aload_n rfl rfl rfl rfl ?_
  refine X_aload_n rfl rfl rfl rfl ?_
  refine X_getI (v := (0 : Int32)) rfl rfl rfl ((congrFun F.1 217).trans s_217) rfl ((congrFun (F.2.2 217 (by decide)).1 3).trans i_217_3) ?_
  refine X_putI rfl rfl rfl ((congrFun F.1 72).trans s_72) rfl rfl rfl rfl ?_
  refine X_aload_n rfl rfl rfl rfl ?_
  refine X_getR (a := 218) rfl rfl rfl ((congrFun F.1 217).trans s_217) rfl ((congrFun (F.2.1 217 (by decide)) 4).trans r_217_4) ?_
  refine X_iconst (v := (0 : Int32)) rfl rfl rfl ?_
  refine X_aload_n rfl rfl rfl rfl ?_
  refine X_getR (a := 73) rfl rfl rfl ((congrFun F.1 72).trans s_72) rfl ((congrFun (F.2.1 72 (by decide)) 4).trans r_72_4) ?_
  refine X_iconst (v := (0 : Int32)) rfl rfl rfl ?_
  refine X_bipush (v := (26 : Int32)) rfl rfl rfl ?_
  refine X_copy (sp' := 0) (dp' := 0) (n' := 26) rfl rfl rfl ((congrFun F.1 218).trans s_218) ((congrFun F.1 73).trans s_73) (by decide) (by decide) (by decide) rfl rfl rfl (by decide) (by decide) (Nat.le_of_ble_eq_true rfl) ?_
  refine X_aload_n rfl rfl rfl rfl ?_
  refine X_getR (a := 219) rfl rfl rfl ((congrFun F.1 217).trans s_217) rfl ((congrFun (F.2.1 217 (by decide)) 5).trans r_217_5) ?_
  refine X_iconst (v := (0 : Int32)) rfl rfl rfl ?_
  refine X_aload_n rfl rfl rfl rfl ?_
  refine X_getR (a := 74) rfl rfl rfl ((congrFun F.1 72).trans s_72) rfl ((congrFun (F.2.1 72 (by decide)) 5).trans r_72_5) ?_
  refine X_iconst (v := (0 : Int32)) rfl rfl rfl ?_
  refine X_bipush (v := (26 : Int32)) rfl rfl rfl ?_
  refine X_copy (sp' := 0) (dp' := 0) (n' := 26) rfl rfl rfl ((congrFun F.1 219).trans s_219) ((congrFun F.1 74).trans s_74) (by decide) (by decide) (by decide) rfl rfl rfl (by decide) (by decide) (Nat.le_of_ble_eq_true rfl) ?_
  refine X_aload_n rfl rfl rfl rfl ?_
  refine X_getR (a := 220) rfl rfl rfl ((congrFun F.1 217).trans s_217) rfl ((congrFun (F.2.1 217 (by decide)) 6).trans r_217_6) ?_
  refine X_iconst (v := (0 : Int32)) rfl rfl rfl ?_
  refine X_aload_n rfl rfl rfl rfl ?_
  refine X_getR (a := 75) rfl rfl rfl ((congrFun F.1 72).trans s_72) rfl ((congrFun (F.2.1 72 (by decide)) 6).trans r_72_6) ?_
  refine X_iconst (v := (0 : Int32)) rfl rfl rfl ?_
  refine X_bipush (v := (26 : Int32)) rfl rfl rfl ?_
  refine X_copy (sp' := 0) (dp' := 0) (n' := 26) rfl rfl rfl ((congrFun F.1 220).trans s_220) ((congrFun F.1 75).trans s_75) (by decide) (by decide) (by decide) rfl rfl rfl (by decide) (by decide) (Nat.le_of_ble_eq_true rfl) ?_
  refine LW_return (st := []) rfl rfl ?_
  refine X_iinc (v := (15 : Int32)) (ls' := [some (.ref 14), some (.ref 159), some (.int (15 : Int32))]) rfl rfl rfl rfl rfl ?_
  refine LW_goto (tgt := 18) rfl rfl ?_
  refine X_iload_n rfl rfl rfl rfl ?_
  refine X_bipush (v := (30 : Int32)) rfl rfl rfl ?_
  refine X_icmp_ge (tgt := 45) rfl rfl rfl (fun q => absurd q (by decide)) (fun _ => ?_)
  refine X_aload_n rfl rfl rfl rfl ?_
  refine X_getR (a := 15) rfl rfl rfl ((congrFun F.1 14).trans s_14) rfl ((congrFun (F.2.1 14 (by decide)) 2).trans r_14_2) ?_
  refine X_iload_n rfl rfl rfl rfl ?_
  refine X_aald (a := 76) (t0 := 3) rfl rfl ((congrFun F.1 15).trans s_15) rfl (vp_in_d rfl) ((congrFun (F.2.1 15 (by decide)) 15).trans r_15_15) ?_
  refine X_aload_n rfl rfl rfl rfl ?_
  refine X_getR (a := 160) rfl rfl rfl ((congrFun F.1 159).trans s_159) rfl ((congrFun (F.2.1 159 (by decide)) 2).trans r_159_2) ?_
  refine X_iload_n rfl rfl rfl rfl ?_
  refine X_aald (a := 221) (t0 := 3) rfl rfl ((congrFun F.1 160).trans s_160) rfl (vp_in_d rfl) ((congrFun (F.2.1 160 (by decide)) 15).trans r_160_15) ?_
  refine X_callV (as := [.ref 221]) (st := []) rfl rfl rfl (by decide) rfl (Nat.le_of_ble_eq_true rfl) (by decide) (Nat.le_of_ble_eq_true rfl) rfl ((congrFun F.1 76).trans s_76) (by decide) ?_
  refine LW_ls (ls' := [some (.ref 76), some (.ref 221)]) rfl ?_
  refine X_aload_n rfl rfl rfl rfl ?_
  refine X_aload_n rfl rfl rfl rfl ?_
  refine X_getI (v := (0 : Int32)) rfl rfl rfl ((congrFun F.1 221).trans s_221) rfl ((congrFun (F.2.2 221 (by decide)).1 0).trans i_221_0) ?_
  refine X_putI rfl rfl rfl ((congrFun F.1 76).trans s_76) rfl rfl rfl rfl ?_
  refine X_aload_n rfl rfl rfl rfl ?_
  refine X_aload_n rfl rfl rfl rfl ?_
  refine X_getI (v := (0 : Int32)) rfl rfl rfl ((congrFun F.1 221).trans s_221) rfl ((congrFun (F.2.2 221 (by decide)).1 1).trans i_221_1) ?_
  refine X_putI rfl rfl rfl ((congrFun F.1 76).trans s_76) rfl rfl rfl rfl ?_
  refine X_aload_n rfl rfl rfl rfl ?_
  refine X_aload_n rfl rfl rfl rfl ?_
  refine X_getI (v := (17 : Int32)) rfl rfl rfl ((congrFun F.1 221).trans s_221) rfl ((congrFun (F.2.2 221 (by decide)).1 2).trans i_221_2) ?_
  refine X_putI rfl rfl rfl ((congrFun F.1 76).trans s_76) rfl rfl rfl rfl ?_
  refine X_aload_n rfl rfl rfl rfl ?_
  refine X_aload_n rfl rfl rfl rfl ?_
  refine X_getI (v := (0 : Int32)) rfl rfl rfl ((congrFun F.1 221).trans s_221) rfl ((congrFun (F.2.2 221 (by decide)).1 3).trans i_221_3) ?_
  refine X_putI rfl rfl rfl ((congrFun F.1 76).trans s_76) rfl rfl rfl rfl ?_
  refine X_aload_n rfl rfl rfl rfl ?_
  refine X_getR (a := 222) rfl rfl rfl ((congrFun F.1 221).trans s_221) rfl ((congrFun (F.2.1 221 (by decide)) 4).trans r_221_4) ?_
  refine X_iconst (v := (0 : Int32)) rfl rfl rfl ?_
  refine X_aload_n rfl rfl rfl rfl ?_
  refine X_getR (a := 77) rfl rfl rfl ((congrFun F.1 76).trans s_76) rfl ((congrFun (F.2.1 76 (by decide)) 4).trans r_76_4) ?_
  refine X_iconst (v := (0 : Int32)) rfl rfl rfl ?_
  refine X_bipush (v := (26 : Int32)) rfl rfl rfl ?_
  refine X_copy (sp' := 0) (dp' := 0) (n' := 26) rfl rfl rfl ((congrFun F.1 222).trans s_222) ((congrFun F.1 77).trans s_77) (by decide) (by decide) (by decide) rfl rfl rfl (by decide) (by decide) (Nat.le_of_ble_eq_true rfl) ?_
  refine X_aload_n rfl rfl rfl rfl ?_
  refine X_getR (a := 223) rfl rfl rfl ((congrFun F.1 221).trans s_221) rfl ((congrFun (F.2.1 221 (by decide)) 5).trans r_221_5) ?_
  refine X_iconst (v := (0 : Int32)) rfl rfl rfl ?_
  refine X_aload_n rfl rfl rfl rfl ?_
  refine X_getR (a := 78) rfl rfl rfl ((congrFun F.1 76).trans s_76) rfl ((congrFun (F.2.1 76 (by decide)) 5).trans r_76_5) ?_
  refine X_iconst (v := (0 : Int32)) rfl rfl rfl ?_
  refine X_bipush (v := (26 : Int32)) rfl rfl rfl ?_
  refine X_copy (sp' := 0) (dp' := 0) (n' := 26) rfl rfl rfl ((congrFun F.1 223).trans s_223) ((congrFun F.1 78).trans s_78) (by decide) (by decide) (by decide) rfl rfl rfl (by decide) (by decide) (Nat.le_of_ble_eq_true rfl) ?_
  refine X_aload_n rfl rfl rfl rfl ?_
  refine X_getR (a := 224) rfl rfl rfl ((congrFun F.1 221).trans s_221) rfl ((congrFun (F.2.1 221 (by decide)) 6).trans r_221_6) ?_
  refine X_iconst (v := (0 : Int32)) rfl rfl rfl ?_
  refine X_aload_n rfl rfl rfl rfl ?_
  refine X_getR (a := 79) rfl rfl rfl ((congrFun F.1 76).trans s_76) rfl ((congrFun (F.2.1 76 (by decide)) 6).trans r_76_6) ?_
  refine X_iconst (v := (0 : Int32)) rfl rfl rfl ?_
  refine X_bipush (v := (26 : Int32)) rfl rfl rfl ?_
  refine X_copy (sp' := 0) (dp' := 0) (n' := 26) rfl rfl rfl ((congrFun F.1 224).trans s_224) ((congrFun F.1 79).trans s_79) (by decide) (by decide) (by decide) rfl rfl rfl (by decide) (by decide) (Nat.le_of_ble_eq_true rfl) ?_
  refine LW_return (st := []) rfl rfl ?_
  refine X_iinc (v := (16 : Int32)) (ls' := [some (.ref 14), some (.ref 159), some (.int (16 : Int32))]) rfl rfl rfl rfl rfl ?_
  refine LW_goto (tgt := 18) rfl rfl ?_
  refine X_iload_n rfl rfl rfl rfl ?_
  refine X_bipush (v := (30 : Int32)) rfl rfl rfl ?_
  refine X_icmp_ge (tgt := 45) rfl rfl rfl (fun q => absurd q (by decide)) (fun _ => ?_)
  refine X_aload_n rfl rfl rfl rfl ?_
  refine X_getR (a := 15) rfl rfl rfl ((congrFun F.1 14).trans s_14) rfl ((congrFun (F.2.1 14 (by decide)) 2).trans r_14_2) ?_
  refine X_iload_n rfl rfl rfl rfl ?_
  refine X_aald (a := 80) (t0 := 3) rfl rfl ((congrFun F.1 15).trans s_15) rfl (vp_in_d rfl) ((congrFun (F.2.1 15 (by decide)) 16).trans r_15_16) ?_
  refine X_aload_n rfl rfl rfl rfl ?_
  refine X_getR (a := 160) rfl rfl rfl ((congrFun F.1 159).trans s_159) rfl ((congrFun (F.2.1 159 (by decide)) 2).trans r_159_2) ?_
  refine X_iload_n rfl rfl rfl rfl ?_
  refine X_aald (a := 225) (t0 := 3) rfl rfl ((congrFun F.1 160).trans s_160) rfl (vp_in_d rfl) ((congrFun (F.2.1 160 (by decide)) 16).trans r_160_16) ?_
  refine X_callV (as := [.ref 225]) (st := []) rfl rfl rfl (by decide) rfl (Nat.le_of_ble_eq_true rfl) (by decide) (Nat.le_of_ble_eq_true rfl) rfl ((congrFun F.1 80).trans s_80) (by decide) ?_
  refine LW_ls (ls' := [some (.ref 80), some (.ref 225)]) rfl ?_
  refine X_aload_n rfl rfl rfl rfl ?_
  refine X_aload_n rfl rfl rfl rfl ?_
  refine X_getI (v := (0 : Int32)) rfl rfl rfl ((congrFun F.1 225).trans s_225) rfl ((congrFun (F.2.2 225 (by decide)).1 0).trans i_225_0) ?_
  refine X_putI rfl rfl rfl ((congrFun F.1 80).trans s_80) rfl rfl rfl rfl ?_
  refine X_aload_n rfl rfl rfl rfl ?_
  refine X_aload_n rfl rfl rfl rfl ?_
  refine X_getI (v := (0 : Int32)) rfl rfl rfl ((congrFun F.1 225).trans s_225) rfl ((congrFun (F.2.2 225 (by decide)).1 1).trans i_225_1) ?_
  refine X_putI rfl rfl rfl ((congrFun F.1 80).trans s_80) rfl rfl rfl rfl ?_
  refine X_aload_n rfl rfl rfl rfl ?_
  refine X_aload_n rfl rfl rfl rfl ?_
  refine X_getI (v := (17 : Int32)) rfl rfl rfl ((congrFun F.1 225).trans s_225) rfl ((congrFun (F.2.2 225 (by decide)).1 2).trans i_225_2) ?_
  refine X_putI rfl rfl rfl ((congrFun F.1 80).trans s_80) rfl rfl rfl rfl ?_
  refine X_aload_n rfl rfl rfl rfl ?_
  refine X_aload_n rfl rfl rfl rfl ?_
  refine X_getI (v := (0 : Int32)) rfl rfl rfl ((congrFun F.1 225).trans s_225) rfl ((congrFun (F.2.2 225 (by decide)).1 3).trans i_225_3) ?_
  refine X_putI rfl rfl rfl ((congrFun F.1 80).trans s_80) rfl rfl rfl rfl ?_
  refine X_aload_n rfl rfl rfl rfl ?_
  refine X_getR (a := 226) rfl rfl rfl ((congrFun F.1 225).trans s_225) rfl ((congrFun (F.2.1 225 (by decide)) 4).trans r_225_4) ?_
  refine X_iconst (v := (0 : Int32)) rfl rfl rfl ?_
  refine X_aload_n rfl rfl rfl rfl ?_
  refine X_getR (a := 81) rfl rfl rfl ((congrFun F.1 80).trans s_80) rfl ((congrFun (F.2.1 80 (by decide)) 4).trans r_80_4) ?_
  refine X_iconst (v := (0 : Int32)) rfl rfl rfl ?_
  refine X_bipush (v := (26 : Int32)) rfl rfl rfl ?_
  refine X_copy (sp' := 0) (dp' := 0) (n' := 26) rfl rfl rfl ((congrFun F.1 226).trans s_226) ((congrFun F.1 81).trans s_81) (by decide) (by decide) (by decide) rfl rfl rfl (by decide) (by decide) (Nat.le_of_ble_eq_true rfl) ?_
  refine X_aload_n rfl rfl rfl rfl ?_
  refine X_getR (a := 227) rfl rfl rfl ((congrFun F.1 225).trans s_225) rfl ((congrFun (F.2.1 225 (by decide)) 5).trans r_225_5) ?_
  refine X_iconst (v := (0 : Int32)) rfl rfl rfl ?_
  refine X_aload_n rfl rfl rfl rfl ?_
  refine X_getR (a := 82) rfl rfl rfl ((congrFun F.1 80).trans s_80) rfl ((congrFun (F.2.1 80 (by decide)) 5).trans r_80_5) ?_
  refine X_iconst (v := (0 : Int32)) rfl rfl rfl ?_
  refine X_bipush (v := (26 : Int32)) rfl rfl rfl ?_
  refine X_copy (sp' := 0) (dp' := 0) (n' := 26) rfl rfl rfl ((congrFun F.1 227).trans s_227) ((congrFun F.1 82).trans s_82) (by decide) (by decide) (by decide) rfl rfl rfl (by decide) (by decide) (Nat.le_of_ble_eq_true rfl) ?_
  refine X_aload_n rfl rfl rfl rfl ?_
  refine X_getR (a := 228) rfl rfl rfl ((congrFun F.1 225).trans s_225) rfl ((congrFun (F.2.1 225 (by decide)) 6).trans r_225_6) ?_
  refine X_iconst (v := (0 : Int32)) rfl rfl rfl ?_
  refine X_aload_n rfl rfl rfl rfl ?_
  refine X_getR (a := 83) rfl rfl rfl ((congrFun F.1 80).trans s_80) rfl ((congrFun (F.2.1 80 (by decide)) 6).trans r_80_6) ?_
  refine X_iconst (v := (0 : Int32)) rfl rfl rfl ?_
  refine X_bipush (v := (26 : Int32)) rfl rfl rfl ?_
  refine X_copy (sp' := 0) (dp' := 0) (n' := 26) rfl rfl rfl ((congrFun F.1 228).trans s_228) ((congrFun F.1 83).trans s_83) (by decide) (by decide) (by decide) rfl rfl rfl (by decide) (by decide) (Nat.le_of_ble_eq_true rfl) ?_
  refine LW_return (st := []) rfl rfl ?_
  refine X_iinc (v := (17 : Int32)) (ls' := [some (.ref 14), some (.ref 159), some (.int (17 : Int32))]) rfl rfl rfl rfl rfl ?_
  refine LW_goto (tgt := 18) rfl rfl ?_
  refine X_iload_n rfl rfl rfl rfl ?_
  refine X_bipush (v := (30 : Int32)) rfl rfl rfl ?_
  refine X_icmp_ge (tgt := 45) rfl rfl rfl (fun q => absurd q (by decide)) (fun _ => ?_)
  refine X_aload_n rfl rfl rfl rfl ?_
  refine X_getR (a := 15) rfl rfl rfl ((congrFun F.1 14).trans s_14) rfl ((congrFun (F.2.1 14 (by decide)) 2).trans r_14_2) ?_
  refine X_iload_n rfl rfl rfl rfl ?_
  refine X_aald (a := 84) (t0 := 3) rfl rfl ((congrFun F.1 15).trans s_15) rfl (vp_in_d rfl) ((congrFun (F.2.1 15 (by decide)) 17).trans r_15_17) ?_
  refine X_aload_n rfl rfl rfl rfl ?_
  refine X_getR (a := 160) rfl rfl rfl ((congrFun F.1 159).trans s_159) rfl ((congrFun (F.2.1 159 (by decide)) 2).trans r_159_2) ?_
  refine X_iload_n rfl rfl rfl rfl ?_
  refine X_aald (a := 229) (t0 := 3) rfl rfl ((congrFun F.1 160).trans s_160) rfl (vp_in_d rfl) ((congrFun (F.2.1 160 (by decide)) 17).trans r_160_17) ?_
  refine X_callV (as := [.ref 229]) (st := []) rfl rfl rfl (by decide) rfl (Nat.le_of_ble_eq_true rfl) (by decide) (Nat.le_of_ble_eq_true rfl) rfl ((congrFun F.1 84).trans s_84) (by decide) ?_
  refine LW_ls (ls' := [some (.ref 84), some (.ref 229)]) rfl ?_
  refine X_aload_n rfl rfl rfl rfl ?_
  refine X_aload_n rfl rfl rfl rfl ?_
  refine X_getI (v := (0 : Int32)) rfl rfl rfl ((congrFun F.1 229).trans s_229) rfl ((congrFun (F.2.2 229 (by decide)).1 0).trans i_229_0) ?_
  refine X_putI rfl rfl rfl ((congrFun F.1 84).trans s_84) rfl rfl rfl rfl ?_
  refine X_aload_n rfl rfl rfl rfl ?_
  refine X_aload_n rfl rfl rfl rfl ?_
  refine X_getI (v := (0 : Int32)) rfl rfl rfl ((congrFun F.1 229).trans s_229) rfl ((congrFun (F.2.2 229 (by decide)).1 1).trans i_229_1) ?_
  refine X_putI rfl rfl rfl ((congrFun F.1 84).trans s_84) rfl rfl rfl rfl ?_
  refine X_aload_n rfl rfl rfl rfl ?_
  refine X_aload_n rfl rfl rfl rfl ?_
  refine X_getI (v := (17 : Int32)) rfl rfl rfl ((congrFun F.1 229).trans s_229) rfl ((congrFun (F.2.2 229 (by decide)).1 2).trans i_229_2) ?_
  refine X_putI rfl rfl rfl ((congrFun F.1 84).trans s_84) rfl rfl rfl rfl ?_
  refine X_aload_n rfl rfl rfl rfl ?_
  refine X_aload_n rfl rfl rfl rfl ?_
  refine X_getI (v := (0 : Int32)) rfl rfl rfl ((congrFun F.1 229).trans s_229) rfl ((congrFun (F.2.2 229 (by decide)).1 3).trans i_229_3) ?_
  refine X_putI rfl rfl rfl ((congrFun F.1 84).trans s_84) rfl rfl rfl rfl ?_
  refine X_aload_n rfl rfl rfl rfl ?_
  refine X_getR (a := 230) rfl rfl rfl ((congrFun F.1 229).trans s_229) rfl ((congrFun (F.2.1 229 (by decide)) 4).trans r_229_4) ?_
  refine X_iconst (v := (0 : Int32)) rfl rfl rfl ?_
  refine X_aload_n rfl rfl rfl rfl ?_
  refine X_getR (a := 85) rfl rfl rfl ((congrFun F.1 84).trans s_84) rfl ((congrFun (F.2.1 84 (by decide)) 4).trans r_84_4) ?_
  refine X_iconst (v := (0 : Int32)) rfl rfl rfl ?_
  refine X_bipush (v := (26 : Int32)) rfl rfl rfl ?_
  refine X_copy (sp' := 0) (dp' := 0) (n' := 26) rfl rfl rfl ((congrFun F.1 230).trans s_230) ((congrFun F.1 85).trans s_85) (by decide) (by decide) (by decide) rfl rfl rfl (by decide) (by decide) (Nat.le_of_ble_eq_true rfl) ?_
  refine X_aload_n rfl rfl rfl rfl ?_
  refine X_getR (a := 231) rfl rfl rfl ((congrFun F.1 229).trans s_229) rfl ((congrFun (F.2.1 229 (by decide)) 5).trans r_229_5) ?_
  refine X_iconst (v := (0 : Int32)) rfl rfl rfl ?_
  refine X_aload_n rfl rfl rfl rfl ?_
  refine X_getR (a := 86) rfl rfl rfl ((congrFun F.1 84).trans s_84) rfl ((congrFun (F.2.1 84 (by decide)) 5).trans r_84_5) ?_
  refine X_iconst (v := (0 : Int32)) rfl rfl rfl ?_
  refine X_bipush (v := (26 : Int32)) rfl rfl rfl ?_
  refine X_copy (sp' := 0) (dp' := 0) (n' := 26) rfl rfl rfl ((congrFun F.1 231).trans s_231) ((congrFun F.1 86).trans s_86) (by decide) (by decide) (by decide) rfl rfl rfl (by decide) (by decide) (Nat.le_of_ble_eq_true rfl) ?_
  refine X_aload_n rfl rfl rfl rfl ?_
  refine X_getR (a := 232) rfl rfl rfl ((congrFun F.1 229).trans s_229) rfl ((congrFun (F.2.1 229 (by decide)) 6).trans r_229_6) ?_
  refine X_iconst (v := (0 : Int32)) rfl rfl rfl ?_
  refine X_aload_n rfl rfl rfl rfl ?_
  refine X_getR (a := 87) rfl rfl rfl ((congrFun F.1 84).trans s_84) rfl ((congrFun (F.2.1 84 (by decide)) 6).trans r_84_6) ?_
  refine X_iconst (v := (0 : Int32)) rfl rfl rfl ?_
  refine X_bipush (v := (26 : Int32)) rfl rfl rfl ?_
  refine X_copy (sp' := 0) (dp' := 0) (n' := 26) rfl rfl rfl ((congrFun F.1 232).trans s_232) ((congrFun F.1 87).trans s_87) (by decide) (by decide) (by decide) rfl rfl rfl (by decide) (by decide) (Nat.le_of_ble_eq_true rfl) ?_
  refine LW_return (st := []) rfl rfl ?_
  refine X_iinc (v := (18 : Int32)) (ls' := [some (.ref 14), some (.ref 159), some (.int (18 : Int32))]) rfl rfl rfl rfl rfl ?_
  refine LW_goto (tgt := 18) rfl rfl ?_
  refine X_iload_n rfl rfl rfl rfl ?_
  refine X_bipush (v := (30 : Int32)) rfl rfl rfl ?_
  refine X_icmp_ge (tgt := 45) rfl rfl rfl (fun q => absurd q (by decide)) (fun _ => ?_)
  refine X_aload_n rfl rfl rfl rfl ?_
  refine X_getR (a := 15) rfl rfl rfl ((congrFun F.1 14).trans s_14) rfl ((congrFun (F.2.1 14 (by decide)) 2).trans r_14_2) ?_
  refine X_iload_n rfl rfl rfl rfl ?_
  refine X_aald (a := 88) (t0 := 3) rfl rfl ((congrFun F.1 15).trans s_15) rfl (vp_in_d rfl) ((congrFun (F.2.1 15 (by decide)) 18).trans r_15_18) ?_
  refine X_aload_n rfl rfl rfl rfl ?_
  refine X_getR (a := 160) rfl rfl rfl ((congrFun F.1 159).trans s_159) rfl ((congrFun (F.2.1 159 (by decide)) 2).trans r_159_2) ?_
  refine X_iload_n rfl rfl rfl rfl ?_
  refine X_aald (a := 233) (t0 := 3) rfl rfl ((congrFun F.1 160).trans s_160) rfl (vp_in_d rfl) ((congrFun (F.2.1 160 (by decide)) 18).trans r_160_18) ?_
  refine X_callV (as := [.ref 233]) (st := []) rfl rfl rfl (by decide) rfl (Nat.le_of_ble_eq_true rfl) (by decide) (Nat.le_of_ble_eq_true rfl) rfl ((congrFun F.1 88).trans s_88) (by decide) ?_
  refine LW_ls (ls' := [some (.ref 88), some (.ref 233)]) rfl ?_
  refine X_aload_n rfl rfl rfl rfl ?_
  refine X_aload_n rfl rfl rfl rfl ?_
  refine X_getI (v := (0 : Int32)) rfl rfl rfl ((congrFun F.1 233).trans s_233) rfl ((congrFun (F.2.2 233 (by decide)).1 0).trans i_233_0) ?_
  refine X_putI rfl rfl rfl ((congrFun F.1 88).trans s_88) rfl rfl rfl rfl ?_
  refine X_aload_n rfl rfl rfl rfl ?_
  refine X_aload_n rfl rfl rfl rfl ?_
  refine X_getI (v := (0 : Int32)) rfl rfl rfl ((congrFun F.1 233).trans s_233) rfl ((congrFun (F.2.2 233 (by decide)).1 1).trans i_233_1) ?_
  refine X_putI rfl rfl rfl ((congrFun F.1 88).trans s_88) rfl rfl rfl rfl ?_
  refine X_aload_n rfl rfl rfl rfl ?_
  refine X_aload_n rfl rfl rfl rfl ?_
  refine X_getI (v := (17 : Int32)) rfl rfl rfl ((congrFun F.1 233).trans s_233) rfl ((congrFun (F.2.2 233 (by decide)).1 2).trans i_233_2) ?_
  refine X_putI rfl rfl rfl ((congrFun F.1 88).trans s_88) rfl rfl rfl rfl ?_
  refine X_aload_n rfl rfl rfl rfl ?_
  refine X_aload_n rfl rfl rfl rfl ?_
  refine X_getI (v := (0 : Int32)) rfl rfl rfl ((congrFun F.1 233).trans s_233) rfl ((congrFun (F.2.2 233 (by decide)).1 3).trans i_233_3) ?_
  refine X_putI rfl rfl rfl ((congrFun F.1 88).trans s_88) rfl rfl rfl rfl ?_
  refine X_aload_n rfl rfl rfl rfl ?_
  refine X_getR (a := 234) rfl rfl rfl ((congrFun F.1 233).trans s_233) rfl ((congrFun (F.2.1 233 (by decide)) 4).trans r_233_4) ?_
  refine X_iconst (v := (0 : Int32)) rfl rfl rfl ?_
  refine X_aload_n rfl rfl rfl rfl ?_
  refine X_getR (a := 89) rfl rfl rfl ((congrFun F.1 88).trans s_88) rfl ((congrFun (F.2.1 88 (by decide)) 4).trans r_88_4) ?_
  refine X_iconst (v := (0 : Int32)) rfl rfl rfl ?_
  refine X_bipush (v := (26 : Int32)) rfl rfl rfl ?_
  refine X_copy (sp' := 0) (dp' := 0) (n' := 26) rfl rfl rfl ((congrFun F.1 234).trans s_234) ((congrFun F.1 89).trans s_89) (by decide) (by decide) (by decide) rfl rfl rfl (by decide) (by decide) (Nat.le_of_ble_eq_true rfl) ?_
  refine X_aload_n rfl rfl rfl rfl ?_
  refine X_getR (a := 235) rfl rfl rfl ((congrFun F.1 233).trans s_233) rfl ((congrFun (F.2.1 233 (by decide)) 5).trans r_233_5) ?_
  refine X_iconst (v := (0 : Int32)) rfl rfl rfl ?_
  refine X_aload_n rfl rfl rfl rfl ?_
  refine X_getR (a := 90) rfl rfl rfl ((congrFun F.1 88).trans s_88) rfl ((congrFun (F.2.1 88 (by decide)) 5).trans r_88_5) ?_
  refine X_iconst (v := (0 : Int32)) rfl rfl rfl ?_
  refine X_bipush (v := (26 : Int32)) rfl rfl rfl ?_
  refine X_copy (sp' := 0) (dp' := 0) (n' := 26) rfl rfl rfl ((congrFun F.1 235).trans s_235) ((congrFun F.1 90).trans s_90) (by decide) (by decide) (by decide) rfl rfl rfl (by decide) (by decide) (Nat.le_of_ble_eq_true rfl) ?_
  refine X_aload_n rfl rfl rfl rfl ?_
  refine X_getR (a := 236) rfl rfl rfl ((congrFun F.1 233).trans s_233) rfl ((congrFun (F.2.1 233 (by decide)) 6).trans r_233_6) ?_
  refine X_iconst (v := (0 : Int32)) rfl rfl rfl ?_
  refine X_aload_n rfl rfl rfl rfl ?_
  refine X_getR (a := 91) rfl rfl rfl ((congrFun F.1 88).trans s_88) rfl ((congrFun (F.2.1 88 (by decide)) 6).trans r_88_6) ?_
  refine X_iconst (v := (0 : Int32)) rfl rfl rfl ?_
  refine X_bipush (v := (26 : Int32)) rfl rfl rfl ?_
  refine X_copy (sp' := 0) (dp' := 0) (n' := 26) rfl rfl rfl ((congrFun F.1 236).trans s_236) ((congrFun F.1 91).trans s_91) (by decide) (by decide) (by decide) rfl rfl rfl (by decide) (by decide) (Nat.le_of_ble_eq_true rfl) ?_
  refine LW_return (st := []) rfl rfl ?_
  refine X_iinc (v := (19 : Int32)) (ls' := [some (.ref 14), some (.ref 159), some (.int (19 : Int32))]) rfl rfl rfl rfl rfl ?_
  refine LW_goto (tgt := 18) rfl rfl ?_
  refine X_iload_n rfl rfl rfl rfl ?_
  refine X_bipush (v := (30 : Int32)) rfl rfl rfl ?_
  refine X_icmp_ge (tgt := 45) rfl rfl rfl (fun q => absurd q (by decide)) (fun _ => ?_)
  refine X_aload_n rfl rfl rfl rfl ?_
  refine X_getR (a := 15) rfl rfl rfl ((congrFun F.1 14).trans s_14) rfl ((congrFun (F.2.1 14 (by decide)) 2).trans r_14_2) ?_
  refine X_iload_n rfl rfl rfl rfl ?_
  refine X_aald (a := 92) (t0 := 3) rfl rfl ((congrFun F.1 15).trans s_15) rfl (vp_in_d rfl) ((congrFun (F.2.1 15 (by decide)) 19).trans r_15_19) ?_
  refine X_aload_n rfl rfl rfl rfl ?_
  refine X_getR (a := 160) rfl rfl rfl ((congrFun F.1 159).trans s_159) rfl ((congrFun (F.2.1 159 (by decide)) 2).trans r_159_2) ?_
  refine X_iload_n rfl rfl rfl rfl ?_
  refine X_aald (a := 237) (t0 := 3) rfl rfl ((congrFun F.1 160).trans s_160) rfl (vp_in_d rfl) ((congrFun (F.2.1 160 (by decide)) 19).trans r_160_19) ?_
  refine X_callV (as := [.ref 237]) (st := []) rfl rfl rfl (by decide) rfl (Nat.le_of_ble_eq_true rfl) (by decide) (Nat.le_of_ble_eq_true rfl) rfl ((congrFun F.1 92).trans s_92) (by decide) ?_
  refine LW_ls (ls' := [some (.ref 92), some (.ref 237)]) rfl ?_
  refine X_aload_n rfl rfl rfl rfl ?_
  refine X_aload_n rfl rfl rfl rfl ?_
  refine X_getI (v := (0 : Int32)) rfl rfl rfl ((congrFun F.1 237).trans s_237) rfl ((congrFun (F.2.2 237 (by decide)).1 0).trans i_237_0) ?_
  refine X_putI rfl rfl rfl ((congrFun F.1 92).trans s_92) rfl rfl rfl rfl ?_
  refine X_aload_n rfl rfl rfl rfl ?_
  refine X_aload_n rfl rfl rfl rfl ?_
  refine X_getI (v := (0 : Int32)) rfl rfl rfl ((congrFun F.1 237).trans s_237) rfl ((congrFun (F.2.2 237 (by decide)).1 1).trans i_237_1) ?_
  refine X_putI rfl rfl rfl ((congrFun F.1 92).trans s_92) rfl rfl rfl rfl ?_
  refine X_aload_n rfl rfl rfl rfl ?_
  refine X_aload_n rfl rfl rfl rfl ?_
  refine X_getI (v := (17 : Int32)) rfl rfl rfl ((congrFun F.1 237).trans s_237) rfl ((congrFun (F.2.2 237 (by decide)).1 2).trans i_237_2) ?_
  refine X_putI rfl rfl rfl ((congrFun F.1 92).trans s_92) rfl rfl rfl rfl ?_
  refine X_aload_n rfl rfl rfl rfl ?_
  refine X_aload_n rfl rfl rfl rfl ?_
  refine X_getI (v := (0 : Int32)) rfl rfl rfl ((congrFun F.1 237).trans s_237) rfl ((congrFun (F.2.2 237 (by decide)).1 3).trans i_237_3) ?_
  refine X_putI rfl rfl rfl ((congrFun F.1 92).trans s_92) rfl rfl rfl rfl ?_
  refine X_aload_n rfl rfl rfl rfl ?_
  refine X_getR (a := 238) rfl rfl rfl ((congrFun F.1 237).trans s_237) rfl ((congrFun (F.2.1 237 (by decide)) 4).trans r_237_4) ?_
  refine X_iconst (v := (0 : Int32)) rfl rfl rfl ?_
  refine X_aload_n rfl rfl rfl rfl ?_
  refine X_getR (a := 93) rfl rfl rfl ((congrFun F.1 92).trans s_92) rfl ((congrFun (F.2.1 92 (by decide)) 4).trans r_92_4) ?_
  refine X_iconst (v := (0 : Int32)) rfl rfl rfl ?_
  refine X_bipush (v := (26 : Int32)) rfl rfl rfl ?_
  refine X_copy (sp' := 0) (dp' := 0) (n' := 26) rfl rfl rfl ((congrFun F.1 238).trans s_238) ((congrFun F.1 93).trans s_93) (by decide) (by decide) (by decide) rfl rfl rfl (by decide) (by decide) (Nat.le_of_ble_eq_true rfl) ?_
  refine X_aload_n rfl rfl rfl rfl ?_
  refine X_getR (a := 239) rfl rfl rfl ((congrFun F.1 237).trans s_237) rfl ((congrFun (F.2.1 237 (by decide)) 5).trans r_237_5) ?_
  refine X_iconst (v := (0 : Int32)) rfl rfl rfl ?_
  refine X_aload_n rfl rfl rfl rfl ?_
  refine X_getR (a := 94) rfl rfl rfl ((congrFun F.1 92).trans s_92) rfl ((congrFun (F.2.1 92 (by decide)) 5).trans r_92_5) ?_
  refine X_iconst (v := (0 : Int32)) rfl rfl rfl ?_
  refine X_bipush (v := (26 : Int32)) rfl rfl rfl ?_
  refine X_copy (sp' := 0) (dp' := 0) (n' := 26) rfl rfl rfl ((congrFun F.1 239).trans s_239) ((congrFun F.1 94).trans s_94) (by decide) (by decide) (by decide) rfl rfl rfl (by decide) (by decide) (Nat.le_of_ble_eq_true rfl) ?_
  refine X_aload_n rfl rfl rfl rfl ?_
  refine X_getR (a := 240) rfl rfl rfl ((congrFun F.1 237).trans s_237) rfl ((congrFun (F.2.1 237 (by decide)) 6).trans r_237_6) ?_
  refine X_iconst (v := (0 : Int32)) rfl rfl rfl ?_
  refine X_aload_n rfl rfl rfl rfl ?_
  refine X_getR (a := 95) rfl rfl rfl ((congrFun F.1 92).trans s_92) rfl ((congrFun (F.2.1 92 (by decide)) 6).trans r_92_6) ?_
  refine X_iconst (v := (0 : Int32)) rfl rfl rfl ?_
  refine X_bipush (v := (26 : Int32)) rfl rfl rfl ?_
  refine X_copy (sp' := 0) (dp' := 0) (n' := 26) rfl rfl rfl ((congrFun F.1 240).trans s_240) ((congrFun F.1 95).trans s_95) (by decide) (by decide) (by decide) rfl rfl rfl (by decide) (by decide) (Nat.le_of_ble_eq_true rfl) ?_
  refine LW_return (st := []) rfl rfl ?_
  refine X_iinc (v := (20 : Int32)) (ls' := [some (.ref 14), some (.ref 159), some (.int (20 : Int32))]) rfl rfl rfl rfl rfl ?_
  refine LW_goto (tgt := 18) rfl rfl ?_
  refine X_iload_n rfl rfl rfl rfl ?_
  refine X_bipush (v := (30 : Int32)) rfl rfl rfl ?_
  refine X_icmp_ge (tgt := 45) rfl rfl rfl (fun q => absurd q (by decide)) (fun _ => ?_)
  refine X_aload_n rfl rfl rfl rfl ?_
  refine X_getR (a := 15) rfl rfl rfl ((congrFun F.1 14).trans s_14) rfl ((congrFun (F.2.1 14 (by decide)) 2).trans r_14_2) ?_
  refine X_iload_n rfl rfl rfl rfl ?_
  refine X_aald (a := 96) (t0 := 3) rfl rfl ((congrFun F.1 15).trans s_15) rfl (vp_in_d rfl) ((congrFun (F.2.1 15 (by decide)) 20).trans r_15_20) ?_
  refine X_aload_n rfl rfl rfl rfl ?_
  refine X_getR (a := 160) rfl rfl rfl ((congrFun F.1 159).trans s_159) rfl ((congrFun (F.2.1 159 (by decide)) 2).trans r_159_2) ?_
  refine X_iload_n rfl rfl rfl rfl ?_
  refine X_aald (a := 241) (t0 := 3) rfl rfl ((congrFun F.1 160).trans s_160) rfl (vp_in_d rfl) ((congrFun (F.2.1 160 (by decide)) 20).trans r_160_20) ?_
  refine X_callV (as := [.ref 241]) (st := []) rfl rfl rfl (by decide) rfl (Nat.le_of_ble_eq_true rfl) (by decide) (Nat.le_of_ble_eq_true rfl) rfl ((congrFun F.1 96).trans s_96) (by decide) ?_
  refine LW_ls (ls' := [some (.ref 96), some (.ref 241)]) rfl ?_
  refine X_aload_n rfl rfl rfl rfl ?_
  refine X_aload_n rfl rfl rfl rfl ?_
  refine X_getI (v := (0 : Int32)) rfl rfl rfl ((congrFun F.1 241).trans s_241) rfl ((congrFun (F.2.2 241 (by decide)).1 0).trans i_241_0) ?_
  refine X_putI rfl rfl rfl ((congrFun F.1 96).trans s_96) rfl rfl rfl rfl ?_
  refine X_aload_n rfl rfl rfl rfl ?_
  refine X_aload_n rfl rfl rfl rfl ?_
  refine X_getI (v := (0 : Int32)) rfl rfl rfl ((congrFun F.1 241).trans s_241) rfl ((congrFun (F.2.2 241 (by decide)).1 1).trans i_241_1) ?_
  refine X_putI rfl rfl rfl ((congrFun F.1 96).trans s_96) rfl rfl rfl rfl ?_
  refine X_aload_n rfl rfl rfl rfl ?_
  refine X_aload_n rfl rfl rfl rfl ?_
  refine X_getI (v := (17 : Int32)) rfl rfl rfl ((congrFun F.1 241).trans s_241) rfl ((congrFun (F.2.2 241 (by decide)).1 2).trans i_241_2) ?_
  refine X_putI rfl rfl rfl ((congrFun F.1 96).trans s_96) rfl rfl rfl rfl ?_
  refine X_aload_n rfl rfl rfl rfl ?_
  refine X_aload_n rfl rfl rfl rfl ?_
  refine X_getI (v := (0 : Int32)) rfl rfl rfl ((congrFun F.1 241).trans s_241) rfl ((congrFun (F.2.2 241 (by decide)).1 3).trans i_241_3) ?_
  refine X_putI rfl rfl rfl ((congrFun F.1 96).trans s_96) rfl rfl rfl rfl ?_
  refine X_aload_n rfl rfl rfl rfl ?_
  refine X_getR (a := 242) rfl rfl rfl ((congrFun F.1 241).trans s_241) rfl ((congrFun (F.2.1 241 (by decide)) 4).trans r_241_4) ?_
  refine X_iconst (v := (0 : Int32)) rfl rfl rfl ?_
  refine X_aload_n rfl rfl rfl rfl ?_
  refine X_getR (a := 97) rfl rfl rfl ((congrFun F.1 96).trans s_96) rfl ((congrFun (F.2.1 96 (by decide)) 4).trans r_96_4) ?_
  refine X_iconst (v := (0 : Int32)) rfl rfl rfl ?_
  refine X_bipush (v := (26 : Int32)) rfl rfl rfl ?_
  refine X_copy (sp' := 0) (dp' := 0) (n' := 26) rfl rfl rfl ((congrFun F.1 242).trans s_242) ((congrFun F.1 97).trans s_97) (by decide) (by decide) (by decide) rfl rfl rfl (by decide) (by decide) (Nat.le_of_ble_eq_true rfl) ?_
  refine X_aload_n rfl rfl rfl rfl ?_
  refine X_getR (a := 243) rfl rfl rfl ((congrFun F.1 241).trans s_241) rfl ((congrFun (F.2.1 241 (by decide)) 5).trans r_241_5) ?_
  refine X_iconst (v := (0 : Int32)) rfl rfl rfl ?_
  refine X_aload_n rfl rfl rfl rfl ?_
  refine X_getR (a := 98) rfl rfl rfl ((congrFun F.1 96).trans s_96) rfl ((congrFun (F.2.1 96 (by decide)) 5).trans r_96_5) ?_
  refine X_iconst (v := (0 : Int32)) rfl rfl rfl ?_
  refine X_bipush (v := (26 : Int32)) rfl rfl rfl ?_
  refine X_copy (sp' := 0) (dp' := 0) (n' := 26) rfl rfl rfl ((congrFun F.1 243).trans s_243) ((congrFun F.1 98).trans s_98) (by decide) (by decide) (by decide) rfl rfl rfl (by decide) (by decide) (Nat.le_of_ble_eq_true rfl) ?_
  refine X_aload_n rfl rfl rfl rfl ?_
  refine X_getR (a := 244) rfl rfl rfl ((congrFun F.1 241).trans s_241) rfl ((congrFun (F.2.1 241 (by decide)) 6).trans r_241_6) ?_
  refine X_iconst (v := (0 : Int32)) rfl rfl rfl ?_
  refine X_aload_n rfl rfl rfl rfl ?_
  refine X_getR (a := 99) rfl rfl rfl ((congrFun F.1 96).trans s_96) rfl ((congrFun (F.2.1 96 (by decide)) 6).trans r_96_6) ?_
  refine X_iconst (v := (0 : Int32)) rfl rfl rfl ?_
  refine X_bipush (v := (26 : Int32)) rfl rfl rfl ?_
  refine X_copy (sp' := 0) (dp' := 0) (n' := 26) rfl rfl rfl ((congrFun F.1 244).trans s_244) ((congrFun F.1 99).trans s_99) (by decide) (by decide) (by decide) rfl rfl rfl (by decide) (by decide) (Nat.le_of_ble_eq_true rfl) ?_
  refine LW_return (st := []) rfl rfl ?_
  refine X_iinc (v := (21 : Int32)) (ls' := [some (.ref 14), some (.ref 159), some (.int (21 : Int32))]) rfl rfl rfl rfl rfl ?_
  refine LW_goto (tgt := 18) rfl rfl ?_
  refine X_iload_n rfl rfl rfl rfl ?_
  refine X_bipush (v := (30 : Int32)) rfl rfl rfl ?_
  refine X_icmp_ge (tgt := 45) rfl rfl rfl (fun q => absurd q (by decide)) (fun _ => ?_)
  refine X_aload_n rfl rfl rfl rfl ?_
  refine X_getR (a := 15) rfl rfl rfl ((congrFun F.1 14).trans s_14) rfl ((congrFun (F.2.1 14 (by decide)) 2).trans r_14_2) ?_
  refine X_iload_n rfl rfl rfl rfl ?_
  refine X_aald (a := 100) (t0 := 3) rfl rfl ((congrFun F.1 15).trans s_15) rfl (vp_in_d rfl) ((congrFun (F.2.1 15 (by decide)) 21).trans r_15_21) ?_
  refine X_aload_n rfl rfl rfl rfl ?_
  refine X_getR (a := 160) rfl rfl rfl ((congrFun F.1 159).trans s_159) rfl ((congrFun (F.2.1 159 (by decide)) 2).trans r_159_2) ?_
  refine X_iload_n rfl rfl rfl rfl ?_
  refine X_aald (a := 245) (t0 := 3) rfl rfl ((congrFun F.1 160).trans s_160) rfl (vp_in_d rfl) ((congrFun (F.2.1 160 (by decide)) 21).trans r_160_21) ?_
  refine X_callV (as := [.ref 245]) (st := []) rfl rfl rfl (by decide) rfl (Nat.le_of_ble_eq_true rfl) (by decide) (Nat.le_of_ble_eq_true rfl) rfl ((congrFun F.1 100).trans s_100) (by decide) ?_
  refine LW_ls (ls' := [some (.ref 100), some (.ref 245)]) rfl ?_
  refine X_aload_n rfl rfl rfl rfl ?_
  refine X_aload_n rfl rfl rfl rfl ?_
  refine X_getI (v := (0 : Int32)) rfl rfl rfl ((congrFun F.1 245).trans s_245) rfl ((congrFun (F.2.2 245 (by decide)).1 0).trans i_245_0) ?_
  refine X_putI rfl rfl rfl ((congrFun F.1 100).trans s_100) rfl rfl rfl rfl ?_
  refine X_aload_n rfl rfl rfl rfl ?_
  refine X_aload_n rfl rfl rfl rfl ?_
  refine X_getI (v := (0 : Int32)) rfl rfl rfl ((congrFun F.1 245).trans s_245) rfl ((congrFun (F.2.2 245 (by decide)).1 1).trans i_245_1) ?_
  refine X_putI rfl rfl rfl ((congrFun F.1 100).trans s_100) rfl rfl rfl rfl ?_
  refine X_aload_n rfl rfl rfl rfl ?_
  refine X_aload_n rfl rfl rfl rfl ?_
  refine X_getI (v := (17 : Int32)) rfl rfl rfl ((congrFun F.1 245).trans s_245) rfl ((congrFun (F.2.2 245 (by decide)).1 2).trans i_245_2) ?_
  refine X_putI rfl rfl rfl ((congrFun F.1 100).trans s_100) rfl rfl rfl rfl ?_
  refine X_aload_n rfl rfl rfl rfl ?_
  refine X_aload_n rfl rfl rfl rfl ?_
  refine X_getI (v := (0 : Int32)) rfl rfl rfl ((congrFun F.1 245).trans s_245) rfl ((congrFun (F.2.2 245 (by decide)).1 3).trans i_245_3) ?_
  refine X_putI rfl rfl rfl ((congrFun F.1 100).trans s_100) rfl rfl rfl rfl ?_
  refine X_aload_n rfl rfl rfl rfl ?_
  refine X_getR (a := 246) rfl rfl rfl ((congrFun F.1 245).trans s_245) rfl ((congrFun (F.2.1 245 (by decide)) 4).trans r_245_4) ?_
  refine X_iconst (v := (0 : Int32)) rfl rfl rfl ?_
  refine X_aload_n rfl rfl rfl rfl ?_
  refine X_getR (a := 101) rfl rfl rfl ((congrFun F.1 100).trans s_100) rfl ((congrFun (F.2.1 100 (by decide)) 4).trans r_100_4) ?_
  refine X_iconst (v := (0 : Int32)) rfl rfl rfl ?_
  refine X_bipush (v := (26 : Int32)) rfl rfl rfl ?_
  refine X_copy (sp' := 0) (dp' := 0) (n' := 26) rfl rfl rfl ((congrFun F.1 246).trans s_246) ((congrFun F.1 101).trans s_101) (by decide) (by decide) (by decide) rfl rfl rfl (by decide) (by decide) (Nat.le_of_ble_eq_true rfl) ?_
  refine X_aload_n rfl rfl rfl rfl ?_
  refine X_getR (a := 247) rfl rfl rfl ((congrFun F.1 245).trans s_245) rfl ((congrFun (F.2.1 245 (by decide)) 5).trans r_245_5) ?_
  refine X_iconst (v := (0 : Int32)) rfl rfl rfl ?_
  refine X_aload_n rfl rfl rfl rfl ?_
  refine X_getR (a := 102) rfl rfl rfl ((congrFun F.1 100).trans s_100) rfl ((congrFun (F.2.1 100 (by decide)) 5).trans r_100_5) ?_
  refine X_iconst (v := (0 : Int32)) rfl rfl rfl ?_
  refine X_bipush (v := (26 : Int32)) rfl rfl rfl ?_
  refine X_copy (sp' := 0) (dp' := 0) (n' := 26) rfl rfl rfl ((congrFun F.1 247).trans s_247) ((congrFun F.1 102).trans s_102) (by decide) (by decide) (by decide) rfl rfl rfl (by decide) (by decide) (Nat.le_of_ble_eq_true rfl) ?_
  refine X_aload_n rfl rfl rfl rfl ?_
  refine X_getR (a := 248) rfl rfl rfl ((congrFun F.1 245).trans s_245) rfl ((congrFun (F.2.1 245 (by decide)) 6).trans r_245_6) ?_
  refine X_iconst (v := (0 : Int32)) rfl rfl rfl ?_
  refine X_aload_n rfl rfl rfl rfl ?_
  refine X_getR (a := 103) rfl rfl rfl ((congrFun F.1 100).trans s_100) rfl ((congrFun (F.2.1 100 (by decide)) 6).trans r_100_6) ?_
  refine X_iconst (v := (0 : Int32)) rfl rfl rfl ?_
  refine X_bipush (v := (26 : Int32)) rfl rfl rfl ?_
  refine X_copy (sp' := 0) (dp' := 0) (n' := 26) rfl rfl rfl ((congrFun F.1 248).trans s_248) ((congrFun F.1 103).trans s_103) (by decide) (by decide) (by decide) rfl rfl rfl (by decide) (by decide) (Nat.le_of_ble_eq_true rfl) ?_
  refine LW_return (st := []) rfl rfl ?_
  refine X_iinc (v := (22 : Int32)) (ls' := [some (.ref 14), some (.ref 159), some (.int (22 : Int32))]) rfl rfl rfl rfl rfl ?_
  refine LW_goto (tgt := 18) rfl rfl ?_
  refine X_iload_n rfl rfl rfl rfl ?_
  refine X_bipush (v := (30 : Int32)) rfl rfl rfl ?_
  refine X_icmp_ge (tgt := 45) rfl rfl rfl (fun q => absurd q (by decide)) (fun _ => ?_)
  refine X_aload_n rfl rfl rfl rfl ?_
  refine X_getR (a := 15) rfl rfl rfl ((congrFun F.1 14).trans s_14) rfl ((congrFun (F.2.1 14 (by decide)) 2).trans r_14_2) ?_
  refine X_iload_n rfl rfl rfl rfl ?_
  refine X_aald (a := 104) (t0 := 3) rfl rfl ((congrFun F.1 15).trans s_15) rfl (vp_in_d rfl) ((congrFun (F.2.1 15 (by decide)) 22).trans r_15_22) ?_
  refine X_aload_n rfl rfl rfl rfl ?_
  refine X_getR (a := 160) rfl rfl rfl ((congrFun F.1 159).trans s_159) rfl ((congrFun (F.2.1 159 (by decide)) 2).trans r_159_2) ?_
  refine X_iload_n rfl rfl rfl rfl ?_
  refine X_aald (a := 249) (t0 := 3) rfl rfl ((congrFun F.1 160).trans s_160) rfl (vp_in_d rfl) ((congrFun (F.2.1 160 (by decide)) 22).trans r_160_22) ?_
  refine X_callV (as := [.ref 249]) (st := []) rfl rfl rfl (by decide) rfl (Nat.le_of_ble_eq_true rfl) (by decide) (Nat.le_of_ble_eq_true rfl) rfl ((congrFun F.1 104).trans s_104) (by decide) ?_
  refine LW_ls (ls' := [some (.ref 104), some (.ref 249)]) rfl ?_
  refine X_aload_n rfl rfl rfl rfl ?_
  refine X_aload_n rfl rfl rfl rfl ?_
  refine X_getI (v := (0 : Int32)) rfl rfl rfl ((congrFun F.1 249).trans s_249) rfl ((congrFun (F.2.2 249 (by decide)).1 0).trans i_249_0) ?_
  refine X_putI rfl rfl rfl ((congrFun F.1 104).trans s_104) rfl rfl rfl rfl ?_
  refine X_aload_n rfl rfl rfl rfl ?_
  refine X_aload_n rfl rfl rfl rfl ?_
  refine X_getI (v := (0 : Int32)) rfl rfl rfl ((congrFun F.1 249).trans s_249) rfl ((congrFun (F.2.2 249 (by decide)).1 1).trans i_249_1) ?_
  refine X_putI rfl rfl rfl ((congrFun F.1 104).trans s_104) rfl rfl rfl rfl ?_
  refine X_aload_n rfl rfl rfl rfl ?_
  refine X_aload_n rfl rfl rfl rfl ?_
  refine X_getI (v := (17 : Int32)) rfl rfl rfl ((congrFun F.1 249).trans s_249) rfl ((congrFun (F.2.2 249 (by decide)).1 2).trans i_249_2) ?_
  refine X_putI rfl rfl rfl ((congrFun F.1 104).trans s_104) rfl rfl rfl rfl ?_
  refine X_aload_n rfl rfl rfl rfl ?_
  refine X_aload_n rfl rfl rfl rfl ?_
  refine X_getI (v := (0 : Int32)) rfl rfl rfl ((congrFun F.1 249).trans s_249) rfl ((congrFun (F.2.2 249 (by decide)).1 3).trans i_249_3) ?_
  refine X_putI rfl rfl rfl ((congrFun F.1 104).trans s_104) rfl rfl rfl rfl ?_
  refine X_aload_n rfl rfl rfl rfl ?_
  refine X_getR (a := 250) rfl rfl rfl ((congrFun F.1 249).trans s_249) rfl ((congrFun (F.2.1 249 (by decide)) 4).trans r_249_4) ?_
  refine X_iconst (v := (0 : Int32)) rfl rfl rfl ?_
  refine X_aload_n rfl rfl rfl rfl ?_
  refine X_getR (a := 105) rfl rfl rfl ((congrFun F.1 104).trans s_104) rfl ((congrFun (F.2.1 104 (by decide)) 4).trans r_104_4) ?_
  refine X_iconst (v := (0 : Int32)) rfl rfl rfl ?_
  refine X_bipush (v := (26 : Int32)) rfl rfl rfl ?_
  refine X_copy (sp' := 0) (dp' := 0) (n' := 26) rfl rfl rfl ((congrFun F.1 250).trans s_250) ((congrFun F.1 105).trans s_105) (by decide) (by decide) (by decide) rfl rfl rfl (by decide) (by decide) (Nat.le_of_ble_eq_true rfl) ?_
  refine X_aload_n rfl rfl rfl rfl ?_
  refine X_getR (a := 251) rfl rfl rfl ((congrFun F.1 249).trans s_249) rfl ((congrFun (F.2.1 249 (by decide)) 5).trans r_249_5) ?_
  refine X_iconst (v := (0 : Int32)) rfl rfl rfl ?_
  refine X_aload_n rfl rfl rfl rfl ?_
  refine X_getR (a := 106) rfl rfl rfl ((congrFun F.1 104).trans s_104) rfl ((congrFun (F.2.1 104 (by decide)) 5).trans r_104_5) ?_
  refine X_iconst (v := (0 : Int32)) rfl rfl rfl ?_
  refine X_bipush (v := (26 : Int32)) rfl rfl rfl ?_
  refine X_copy (sp' := 0) (dp' := 0) (n' := 26) rfl rfl rfl ((congrFun F.1 251).trans s_251) ((congrFun F.1 106).trans s_106) (by decide) (by decide) (by decide) rfl rfl rfl (by decide) (by decide) (Nat.le_of_ble_eq_true rfl) ?_
  refine X_aload_n rfl rfl rfl rfl ?_
  refine X_getR (a := 252) rfl rfl rfl ((congrFun F.1 249).trans s_249) rfl ((congrFun (F.2.1 249 (by decide)) 6).trans r_249_6) ?_
  refine X_iconst (v := (0 : Int32)) rfl rfl rfl ?_
  refine X_aload_n rfl rfl rfl rfl ?_
  refine X_getR (a := 107) rfl rfl rfl ((congrFun F.1 104).trans s_104) rfl ((congrFun (F.2.1 104 (by decide)) 6).trans r_104_6) ?_
  refine X_iconst (v := (0 : Int32)) rfl rfl rfl ?_
  refine X_bipush (v := (26 : Int32)) rfl rfl rfl ?_
  refine X_copy (sp' := 0) (dp' := 0) (n' := 26) rfl rfl rfl ((congrFun F.1 252).trans s_252) ((congrFun F.1 107).trans s_107) (by decide) (by decide) (by decide) rfl rfl rfl (by decide) (by decide) (Nat.le_of_ble_eq_true rfl) ?_
  refine LW_return (st := []) rfl rfl ?_
  refine X_iinc (v := (23 : Int32)) (ls' := [some (.ref 14), some (.ref 159), some (.int (23 : Int32))]) rfl rfl rfl rfl rfl ?_
  refine LW_goto (tgt := 18) rfl rfl ?_
  refine X_iload_n rfl rfl rfl rfl ?_
  refine X_bipush (v := (30 : Int32)) rfl rfl rfl ?_
  refine X_icmp_ge (tgt := 45) rfl rfl rfl (fun q => absurd q (by decide)) (fun _ => ?_)
  refine X_aload_n rfl rfl rfl rfl ?_
  refine X_getR (a := 15) rfl rfl rfl ((congrFun F.1 14).trans s_14) rfl ((congrFun (F.2.1 14 (by decide)) 2).trans r_14_2) ?_
  refine X_iload_n rfl rfl rfl rfl ?_
  refine X_aald (a := 108) (t0 := 3) rfl rfl ((congrFun F.1 15).trans s_15) rfl (vp_in_d rfl) ((congrFun (F.2.1 15 (by decide)) 23).trans r_15_23) ?_
  refine X_aload_n rfl rfl rfl rfl ?_
  refine X_getR (a := 160) rfl rfl rfl ((congrFun F.1 159).trans s_159) rfl ((congrFun (F.2.1 159 (by decide)) 2).trans r_159_2) ?_
  refine X_iload_n rfl rfl rfl rfl ?_
  refine X_aald (a := 253) (t0 := 3) rfl rfl ((congrFun F.1 160).trans s_160) rfl (vp_in_d rfl) ((congrFun (F.2.1 160 (by decide)) 23).trans r_160_23) ?_
  refine X_callV (as := [.ref 253]) (st := []) rfl rfl rfl (by decide) rfl (Nat.le_of_ble_eq_true rfl) (by decide) (Nat.le_of_ble_eq_true rfl) rfl ((congrFun F.1 108).trans s_108) (by decide) ?_
  refine LW_ls (ls' := [some (.ref 108), some (.ref 253)]) rfl ?_
  refine X_aload_n rfl rfl rfl rfl ?_
  refine X_aload_n rfl rfl rfl rfl ?_
  refine X_getI (v := (0 : Int32)) rfl rfl rfl ((congrFun F.1 253).trans s_253) rfl ((congrFun (F.2.2 253 (by decide)).1 0).trans i_253_0) ?_
  refine X_putI rfl rfl rfl ((congrFun F.1 108).trans s_108) rfl rfl rfl rfl ?_
  refine X_aload_n rfl rfl rfl rfl ?_
  refine X_aload_n rfl rfl rfl rfl ?_
  refine X_getI (v := (0 : Int32)) rfl rfl rfl ((congrFun F.1 253).trans s_253) rfl ((congrFun (F.2.2 253 (by decide)).1 1).trans i_253_1) ?_
  refine X_putI rfl rfl rfl ((congrFun F.1 108).trans s_108) rfl rfl rfl rfl ?_
  refine X_aload_n rfl rfl rfl rfl ?_
  refine X_aload_n rfl rfl rfl rfl ?_
  refine X_getI (v := (17 : Int32)) rfl rfl rfl ((congrFun F.1 253).trans s_253) rfl ((congrFun (F.2.2 253 (by decide)).1 2).trans i_253_2) ?_
  refine X_putI rfl rfl rfl ((congrFun F.1 108).trans s_108) rfl rfl rfl rfl ?_
  refine X_aload_n rfl rfl rfl rfl ?_
  refine X_aload_n rfl rfl rfl rfl ?_
  refine X_getI (v := (0 : Int32)) rfl rfl rfl ((congrFun F.1 253).trans s_253) rfl ((congrFun (F.2.2 253 (by decide)).1 3).trans i_253_3) ?_
  refine X_putI rfl rfl rfl ((congrFun F.1 108).trans s_108) rfl rfl rfl rfl ?_
  refine X_aload_n rfl rfl rfl rfl ?_
  refine X_getR (a := 254) rfl rfl rfl ((congrFun F.1 253).trans s_253) rfl ((congrFun (F.2.1 253 (by decide)) 4).trans r_253_4) ?_
  refine X_iconst (v := (0 : Int32)) rfl rfl rfl ?_
  refine X_aload_n rfl rfl rfl rfl ?_
  refine X_getR (a := 109) rfl rfl rfl ((congrFun F.1 108).trans s_108) rfl ((congrFun (F.2.1 108 (by decide)) 4).trans r_108_4) ?_
  refine X_iconst (v := (0 : Int32)) rfl rfl rfl ?_
  refine X_bipush (v := (26 : Int32)) rfl rfl rfl ?_
  refine X_copy (sp' := 0) (dp' := 0) (n' := 26) rfl rfl rfl ((congrFun F.1 254).trans s_254) ((congrFun F.1 109).trans s_109) (by decide) (by decide) (by decide) rfl rfl rfl (by decide) (by decide) (Nat.le_of_ble_eq_true rfl) ?_
  refine X_aload_n rfl rfl rfl rfl ?_
  refine X_getR (a := 255) rfl rfl rfl ((congrFun F.1 253).trans s_253) rfl ((congrFun (F.2.1 253 (by decide)) 5).trans r_253_5) ?_
  refine X_iconst (v := (0 : Int32)) rfl rfl rfl ?_
  refine X_aload_n rfl rfl rfl rfl ?_
  refine X_getR (a := 110) rfl rfl rfl ((congrFun F.1 108).trans s_108) rfl ((congrFun (F.2.1 108 (by decide)) 5).trans r_108_5) ?_
  refine X_iconst (v := (0 : Int32)) rfl rfl rfl ?_
  refine X_bipush (v := (26 : Int32)) rfl rfl rfl ?_
  refine X_copy (sp' := 0) (dp' := 0) (n' := 26) rfl rfl rfl ((congrFun F.1 255).trans s_255) ((congrFun F.1 110).trans s_110) (by decide) (by decide) (by decide) rfl rfl rfl (by decide) (by decide) (Nat.le_of_ble_eq_true rfl) ?_
  refine X_aload_n rfl rfl rfl rfl ?_
  refine X_getR (a := 256) rfl rfl rfl ((congrFun F.1 253).trans s_253) rfl ((congrFun (F.2.1 253 (by decide)) 6).trans r_253_6) ?_
  refine X_iconst (v := (0 : Int32)) rfl rfl rfl ?_
  refine X_aload_n rfl rfl rfl rfl ?_
  refine X_getR (a := 111) rfl rfl rfl ((congrFun F.1 108).trans s_108) rfl ((congrFun (F.2.1 108 (by decide)) 6).trans r_108_6) ?_
  refine X_iconst (v := (0 : Int32)) rfl rfl rfl ?_
  refine X_bipush (v := (26 : Int32)) rfl rfl rfl ?_
  refine X_copy (sp' := 0) (dp' := 0) (n' := 26) rfl rfl rfl ((congrFun F.1 256).trans s_256) ((congrFun F.1 111).trans s_111) (by decide) (by decide) (by decide) rfl rfl rfl (by decide) (by decide) (Nat.le_of_ble_eq_true rfl) ?_
  refine LW_return (st := []) rfl rfl ?_
  refine X_iinc (v := (24 : Int32)) (ls' := [some (.ref 14), some (.ref 159), some (.int (24 : Int32))]) rfl rfl rfl rfl rfl ?_
  refine LW_goto (tgt := 18) rfl rfl ?_
  refine X_iload_n rfl rfl rfl rfl ?_
  refine X_bipush (v := (30 : Int32)) rfl rfl rfl ?_
  refine X_icmp_ge (tgt := 45) rfl rfl rfl (fun q => absurd q (by decide)) (fun _ => ?_)
  refine X_aload_n rfl rfl rfl rfl ?_
  refine X_getR (a := 15) rfl rfl rfl ((congrFun F.1 14).trans s_14) rfl ((congrFun (F.2.1 14 (by decide)) 2).trans r_14_2) ?_
  refine X_iload_n rfl rfl rfl rfl ?_
  refine X_aald (a := 112) (t0 := 3) rfl rfl ((congrFun F.1 15).trans s_15) rfl (vp_in_d rfl) ((congrFun (F.2.1 15 (by decide)) 24).trans r_15_24) ?_
  refine X_aload_n rfl rfl rfl rfl ?_
  refine X_getR (a := 160) rfl rfl rfl ((congrFun F.1 159).trans s_159) rfl ((congrFun (F.2.1 159 (by decide)) 2).trans r_159_2) ?_
  refine X_iload_n rfl rfl rfl rfl ?_
  refine X_aald (a := 257) (t0 := 3) rfl rfl ((congrFun F.1 160).trans s_160) rfl (vp_in_d rfl) ((congrFun (F.2.1 160 (by decide)) 24).trans r_160_24) ?_
  refine X_callV (as := [.ref 257]) (st := []) rfl rfl rfl (by decide) rfl (Nat.le_of_ble_eq_true rfl) (by decide) (Nat.le_of_ble_eq_true rfl) rfl ((congrFun F.1 112).trans s_112) (by decide) ?_
  refine LW_ls (ls' := [some (.ref 112), some (.ref 257)]) rfl ?_
  refine X_aload_n rfl rfl rfl rfl ?_
  refine X_aload_n rfl rfl rfl rfl ?_
  refine X_getI (v := (0 : Int32)) rfl rfl rfl ((congrFun F.1 257).trans s_257) rfl ((congrFun (F.2.2 257 (by decide)).1 0).trans i_257_0) ?_
  refine X_putI rfl rfl rfl ((congrFun F.1 112).trans s_112) rfl rfl rfl rfl ?_
  refine X_aload_n rfl rfl rfl rfl ?_
  refine X_aload_n rfl rfl rfl rfl ?_
  refine X_getI (v := (0 : Int32)) rfl rfl rfl ((congrFun F.1 257).trans s_257) rfl ((congrFun (F.2.2 257 (by decide)).1 1).trans i_257_1) ?_
  refine X_putI rfl rfl rfl ((congrFun F.1 112).trans s_112) rfl rfl rfl rfl ?_
  refine X_aload_n rfl rfl rfl rfl ?_
  refine X_aload_n rfl rfl rfl rfl ?_
  refine X_getI (v := (17 : Int32)) rfl rfl rfl ((congrFun F.1 257).trans s_257) rfl ((congrFun (F.2.2 257 (by decide)).1 2).trans i_257_2) ?_
  refine X_putI rfl rfl rfl ((congrFun F.1 112).trans s_112) rfl rfl rfl rfl ?_
  refine X_aload_n rfl rfl rfl rfl ?_
  refine X_aload_n rfl rfl rfl rfl ?_
  refine X_getI (v := (0 : Int32)) rfl rfl rfl ((congrFun F.1 257).trans s_257) rfl ((congrFun (F.2.2 257 (by decide)).1 3).trans i_257_3) ?_
  refine X_putI rfl rfl rfl ((congrFun F.1 112).trans s_112) rfl rfl rfl rfl ?_
  refine X_aload_n rfl rfl rfl rfl ?_
  refine X_getR (a := 258) rfl rfl rfl ((congrFun F.1 257).trans s_257) rfl ((congrFun (F.2.1 257 (by decide)) 4).trans r_257_4) ?_
  refine X_iconst (v := (0 : Int32)) rfl rfl rfl ?_
  refine X_aload_n rfl rfl rfl rfl ?_
  refine X_getR (a := 113) rfl rfl rfl ((congrFun F.1 112).trans s_112) rfl ((congrFun (F.2.1 112 (by decide)) 4).trans r_112_4) ?_
  refine X_iconst (v := (0 : Int32)) rfl rfl rfl ?_
  refine X_bipush (v := (26 : Int32)) rfl rfl rfl ?_
  refine X_copy (sp' := 0) (dp' := 0) (n' := 26) rfl rfl rfl ((congrFun F.1 258).trans s_258) ((congrFun F.1 113).trans s_113) (by decide) (by decide) (by decide) rfl rfl rfl (by decide) (by decide) (Nat.le_of_ble_eq_true rfl) ?_
  refine X_aload_n rfl rfl rfl rfl ?_
  refine X_getR (a := 259) rfl rfl rfl ((congrFun F.1 257).trans s_257) rfl ((congrFun (F.2.1 257 (by decide)) 5).trans r_257_5) ?_
  refine X_iconst (v := (0 : Int32)) rfl rfl rfl ?_
  refine X_aload_n rfl rfl rfl rfl ?_
  refine X_getR (a := 114) rfl rfl rfl ((congrFun F.1 112).trans s_112) rfl ((congrFun (F.2.1 112 (by decide)) 5).trans r_112_5) ?_
  refine X_iconst (v := (0 : Int32)) rfl rfl rfl ?_
  refine X_bipush (v := (26 : Int32)) rfl rfl rfl ?_
  refine X_copy (sp' := 0) (dp' := 0) (n' := 26) rfl rfl rfl ((congrFun F.1 259).trans s_259) ((congrFun F.1 114).trans s_114) (by decide) (by decide) (by decide) rfl rfl rfl (by decide) (by decide) (Nat.le_of_ble_eq_true rfl) ?_
  refine X_aload_n rfl rfl rfl rfl ?_
  refine X_getR (a := 260) rfl rfl rfl ((congrFun F.1 257).trans s_257) rfl ((congrFun (F.2.1 257 (by decide)) 6).trans r_257_6) ?_
  refine X_iconst (v := (0 : Int32)) rfl rfl rfl ?_
  refine X_aload_n rfl rfl rfl rfl ?_
  refine X_getR (a := 115) rfl rfl rfl ((congrFun F.1 112).trans s_112) rfl ((congrFun (F.2.1 112 (by decide)) 6).trans r_112_6) ?_
  refine X_iconst (v := (0 : Int32)) rfl rfl rfl ?_
  refine X_bipush (v := (26 : Int32)) rfl rfl rfl ?_
  refine X_copy (sp' := 0) (dp' := 0) (n' := 26) rfl rfl rfl ((congrFun F.1 260).trans s_260) ((congrFun F.1 115).trans s_115) (by decide) (by decide) (by decide) rfl rfl rfl (by decide) (by decide) (Nat.le_of_ble_eq_true rfl) ?_
  refine LW_return (st := []) rfl rfl ?_
  refine X_iinc (v := (25 : Int32)) (ls' := [some (.ref 14), some (.ref 159), some (.int (25 : Int32))]) rfl rfl rfl rfl rfl ?_
  refine LW_goto (tgt := 18) rfl rfl ?_
  refine X_iload_n rfl rfl rfl rfl ?_
  refine X_bipush (v := (30 : Int32)) rfl rfl rfl ?_
  refine X_icmp_ge (tgt := 45) rfl rfl rfl (fun q => absurd q (by decide)) (fun _ => ?_)
  refine X_aload_n rfl rfl rfl rfl ?_
  refine X_getR (a := 15) rfl rfl rfl ((congrFun F.1 14).trans s_14) rfl ((congrFun (F.2.1 14 (by decide)) 2).trans r_14_2) ?_
  refine X_iload_n rfl rfl rfl rfl ?_
  refine X_aald (a := 116) (t0 := 3) rfl rfl ((congrFun F.1 15).trans s_15) rfl (vp_in_d rfl) ((congrFun (F.2.1 15 (by decide)) 25).trans r_15_25) ?_
  refine X_aload_n rfl rfl rfl rfl ?_
  refine X_getR (a := 160) rfl rfl rfl ((congrFun F.1 159).trans s_159) rfl ((congrFun (F.2.1 159 (by decide)) 2).trans r_159_2) ?_
  refine X_iload_n rfl rfl rfl rfl ?_
  refine X_aald (a := 261) (t0 := 3) rfl rfl ((congrFun F.1 160).trans s_160) rfl (vp_in_d rfl) ((congrFun (F.2.1 160 (by decide)) 25).trans r_160_25) ?_
  refine X_callV (as := [.ref 261]) (st := []) rfl rfl rfl (by decide) rfl (Nat.le_of_ble_eq_true rfl) (by decide) (Nat.le_of_ble_eq_true rfl) rfl ((congrFun F.1 116).trans s_116) (by decide) ?_
  refine LW_ls (ls' := [some (.ref 116), some (.ref 261)]) rfl ?_
  refine X_aload_n rfl rfl rfl rfl ?_
  refine X_aload_n rfl rfl rfl rfl ?_
  refine X_getI (v := (0 : Int32)) rfl rfl rfl ((congrFun F.1 261).trans s_261) rfl ((congrFun (F.2.2 261 (by decide)).1 0).trans i_261_0) ?_
  refine X_putI rfl rfl rfl ((congrFun F.1 116).trans s_116) rfl rfl rfl rfl ?_
  refine X_aload_n rfl rfl rfl rfl ?_
  refine X_aload_n rfl rfl rfl rfl ?_
  refine X_getI (v := (0 : Int32)) rfl rfl rfl ((congrFun F.1 261).trans s_261) rfl ((congrFun (F.2.2 261 (by decide)).1 1).trans i_261_1) ?_
  refine X_putI rfl rfl rfl ((congrFun F.1 116).trans s_116) rfl rfl rfl rfl ?_
  refine X_aload_n rfl rfl rfl rfl ?_
  refine X_aload_n rfl rfl rfl rfl ?_
  refine X_getI (v := (17 : Int32)) rfl rfl rfl ((congrFun F.1 261).trans s_261) rfl ((congrFun (F.2.2 261 (by decide)).1 2).trans i_261_2) ?_
  refine X_putI rfl rfl rfl ((congrFun F.1 116).trans s_116) rfl rfl rfl rfl ?_
  refine X_aload_n rfl rfl rfl rfl ?_
  refine X_aload_n rfl rfl rfl rfl ?_
  refine X_getI (v := (0 : Int32)) rfl rfl rfl ((congrFun F.1 261).trans s_261) rfl ((congrFun (F.2.2 261 (by decide)).1 3).trans i_261_3) ?_
  refine X_putI rfl rfl rfl ((congrFun F.1 116).trans s_116) rfl rfl rfl rfl ?_
  refine X_aload_n rfl rfl rfl rfl ?_
  refine X_getR (a := 262) rfl rfl rfl ((congrFun F.1 261).trans s_261) rfl ((congrFun (F.2.1 261 (by decide)) 4).trans r_261_4) ?_
  refine X_iconst (v := (0 : Int32)) rfl rfl rfl ?_
  refine X_aload_n rfl rfl rfl rfl ?_
  refine X_getR (a := 117) rfl rfl rfl ((congrFun F.1 116).trans s_116) rfl ((congrFun (F.2.1 116 (by decide)) 4).trans r_116_4) ?_
  refine X_iconst (v := (0 : Int32)) rfl rfl rfl ?_
  refine X_bipush (v := (26 : Int32)) rfl rfl rfl ?_
  refine X_copy (sp' := 0) (dp' := 0) (n' := 26) rfl rfl rfl ((congrFun F.1 262).trans s_262) ((congrFun F.1 117).trans s_117) (by decide) (by decide) (by decide) rfl rfl rfl (by decide) (by decide) (Nat.le_of_ble_eq_true rfl) ?_
  refine X_aload_n rfl rfl rfl rfl ?_
  refine X_getR (a := 263) rfl rfl rfl ((congrFun F.1 261).trans s_261) rfl ((congrFun (F.2.1 261 (by decide)) 5).trans r_261_5) ?_
  refine X_iconst (v := (0 : Int32)) rfl rfl rfl ?_
  refine X_aload_n rfl rfl rfl rfl ?_
  refine X_getR (a := 118) rfl rfl rfl ((congrFun F.1 116).trans s_116) rfl ((congrFun (F.2.1 116 (by decide)) 5).trans r_116_5) ?_
  refine X_iconst (v := (0 : Int32)) rfl rfl rfl ?_
  refine X_bipush (v := (26 : Int32)) rfl rfl rfl ?_
  refine X_copy (sp' := 0) (dp' := 0) (n' := 26) rfl rfl rfl ((congrFun F.1 263).trans s_263) ((congrFun F.1 118).trans s_118) (by decide) (by decide) (by decide) rfl rfl rfl (by decide) (by decide) (Nat.le_of_ble_eq_true rfl) ?_
  refine X_aload_n rfl rfl rfl rfl ?_
  refine X_getR (a := 264) rfl rfl rfl ((congrFun F.1 261).trans s_261) rfl ((congrFun (F.2.1 261 (by decide)) 6).trans r_261_6) ?_
  refine X_iconst (v := (0 : Int32)) rfl rfl rfl ?_
  refine X_aload_n rfl rfl rfl rfl ?_
  refine X_getR (a := 119) rfl rfl rfl ((congrFun F.1 116).trans s_116) rfl ((congrFun (F.2.1 116 (by decide)) 6).trans r_116_6) ?_
  refine X_iconst (v := (0 : Int32)) rfl rfl rfl ?_
  refine X_bipush (v := (26 : Int32)) rfl rfl rfl ?_
  refine X_copy (sp' := 0) (dp' := 0) (n' := 26) rfl rfl rfl ((congrFun F.1 264).trans s_264) ((congrFun F.1 119).trans s_119) (by decide) (by decide) (by decide) rfl rfl rfl (by decide) (by decide) (Nat.le_of_ble_eq_true rfl) ?_
  refine LW_return (st := []) rfl rfl ?_
  refine X_iinc (v := (26 : Int32)) (ls' := [some (.ref 14), some (.ref 159), some (.int (26 : Int32))]) rfl rfl rfl rfl rfl ?_
  refine LW_goto (tgt := 18) rfl rfl ?_
  refine X_iload_n rfl rfl rfl rfl ?_
  refine X_bipush (v := (30 : Int32)) rfl rfl rfl ?_
  refine X_icmp_ge (tgt := 45) rfl rfl rfl (fun q => absurd q (by decide)) (fun _ => ?_)
  refine X_aload_n rfl rfl rfl rfl ?_
  refine X_getR (a := 15) rfl rfl rfl ((congrFun F.1 14).trans s_14) rfl ((congrFun (F.2.1 14 (by decide)) 2).trans r_14_2) ?_
  refine X_iload_n rfl rfl rfl rfl ?_
  refine X_aald (a := 120) (t0 := 3) rfl rfl ((congrFun F.1 15).trans s_15) rfl (vp_in_d rfl) ((congrFun (F.2.1 15 (by decide)) 26).trans r_15_26) ?_
  refine X_aload_n rfl rfl rfl rfl ?_
  refine X_getR (a := 160) rfl rfl rfl ((congrFun F.1 159).trans s_159) rfl ((congrFun (F.2.1 159 (by decide)) 2).trans r_159_2) ?_
  refine X_iload_n rfl rfl rfl rfl ?_
  refine X_aald (a := 265) (t0 := 3) rfl rfl ((congrFun F.1 160).trans s_160) rfl (vp_in_d rfl) ((congrFun (F.2.1 160 (by decide)) 26).trans r_160_26) ?_
  refine X_callV (as := [.ref 265]) (st := []) rfl rfl rfl (by decide) rfl (Nat.le_of_ble_eq_true rfl) (by decide) (Nat.le_of_ble_eq_true rfl) rfl ((congrFun F.1 120).trans s_120) (by decide) ?_
  refine LW_ls (ls' := [some (.ref 120), some (.ref 265)]) rfl ?_
  refine X_aload_n rfl rfl rfl rfl ?_
  refine X_aload_n rfl rfl rfl rfl ?_
  refine X_getI (v := (0 : Int32)) rfl rfl rfl ((congrFun F.1 265).trans s_265) rfl ((congrFun (F.2.2 265 (by decide)).1 0).trans i_265_0) ?_
  refine X_putI rfl rfl rfl ((congrFun F.1 120).trans s_120) rfl rfl rfl rfl ?_
  refine X_aload_n rfl rfl rfl rfl ?_
  refine X_aload_n rfl rfl rfl rfl ?_
  refine X_getI (v := (0 : Int32)) rfl rfl rfl ((congrFun F.1 265).trans s_265) rfl ((congrFun (F.2.2 265 (by decide)).1 1).trans i_265_1) ?_
  refine X_putI rfl rfl rfl ((congrFun F.1 120).trans s_120) rfl rfl rfl rfl ?_
  refine X_aload_n rfl rfl rfl rfl ?_
  refine X_aload_n rfl rfl rfl rfl ?_
  refine X_getI (v := (17 : Int32)) rfl rfl rfl ((congrFun F.1 265).trans s_265) rfl ((congrFun (F.2.2 265 (by decide)).1 2).trans i_265_2) ?_
  refine X_putI rfl rfl rfl ((congrFun F.1 120).trans s_120) rfl rfl rfl rfl ?_
  refine X_aload_n rfl rfl rfl rfl ?_
  refine X_aload_n rfl rfl rfl rfl ?_
  refine X_getI (v := (0 : Int32)) rfl rfl rfl ((congrFun F.1 265).trans s_265) rfl ((congrFun (F.2.2 265 (by decide)).1 3).trans i_265_3) ?_
  refine X_putI rfl rfl rfl ((congrFun F.1 120).trans s_120) rfl rfl rfl rfl ?_
  refine X_aload_n rfl rfl rfl rfl ?_
  refine X_getR (a := 266) rfl rfl rfl ((congrFun F.1 265).trans s_265) rfl ((congrFun (F.2.1 265 (by decide)) 4).trans r_265_4) ?_
  refine X_iconst (v := (0 : Int32)) rfl rfl rfl ?_
  refine X_aload_n rfl rfl rfl rfl ?_
  refine X_getR (a := 121) rfl rfl rfl ((congrFun F.1 120).trans s_120) rfl ((congrFun (F.2.1 120 (by decide)) 4).trans r_120_4) ?_
  refine X_iconst (v := (0 : Int32)) rfl rfl rfl ?_
  refine X_bipush (v := (26 : Int32)) rfl rfl rfl ?_
  refine X_copy (sp' := 0) (dp' := 0) (n' := 26) rfl rfl rfl ((congrFun F.1 266).trans s_266) ((congrFun F.1 121).trans s_121) (by decide) (by decide) (by decide) rfl rfl rfl (by decide) (by decide) (Nat.le_of_ble_eq_true rfl) ?_
  refine X_aload_n rfl rfl rfl rfl ?_
  refine X_getR (a := 267) rfl rfl rfl ((congrFun F.1 265).trans s_265) rfl ((congrFun (F.2.1 265 (by decide)) 5).trans r_265_5) ?_
  refine X_iconst (v := (0 : Int32)) rfl rfl rfl ?_
  refine X_aload_n rfl rfl rfl rfl ?_
  refine X_getR (a := 122) rfl rfl rfl ((congrFun F.1 120).trans s_120) rfl ((congrFun (F.2.1 120 (by decide)) 5).trans r_120_5) ?_
  refine X_iconst (v := (0 : Int32)) rfl rfl rfl ?_
  refine X_bipush (v := (26 : Int32)) rfl rfl rfl ?_
  refine X_copy (sp' := 0) (dp' := 0) (n' := 26) rfl rfl rfl ((congrFun F.1 267).trans s_267) ((congrFun F.1 122).trans s_122) (by decide) (by decide) (by decide) rfl rfl rfl (by decide) (by decide) (Nat.le_of_ble_eq_true rfl) ?_
  refine X_aload_n rfl rfl rfl rfl ?_
  refine X_getR (a := 268) rfl rfl rfl ((congrFun F.1 265).trans s_265) rfl ((congrFun (F.2.1 265 (by decide)) 6).trans r_265_6) ?_
  refine X_iconst (v := (0 : Int32)) rfl rfl rfl ?_
  refine X_aload_n rfl rfl rfl rfl ?_
  refine X_getR (a := 123) rfl rfl rfl ((congrFun F.1 120).trans s_120) rfl ((congrFun (F.2.1 120 (by decide)) 6).trans r_120_6) ?_
  refine X_iconst (v := (0 : Int32)) rfl rfl rfl ?_
  refine X_bipush (v := (26 : Int32)) rfl rfl rfl ?_
  refine X_copy (sp' := 0) (dp' := 0) (n' := 26) rfl rfl rfl ((congrFun F.1 268).trans s_268) ((congrFun F.1 123).trans s_123) (by decide) (by decide) (by decide) rfl rfl rfl (by decide) (by decide) (Nat.le_of_ble_eq_true rfl) ?_
  refine LW_return (st := []) rfl rfl ?_
  refine X_iinc (v := (27 : Int32)) (ls' := [some (.ref 14), some (.ref 159), some (.int (27 : Int32))]) rfl rfl rfl rfl rfl ?_
  refine LW_goto (tgt := 18) rfl rfl ?_
  refine X_iload_n rfl rfl rfl rfl ?_
  refine X_bipush (v := (30 : Int32)) rfl rfl rfl ?_
  refine X_icmp_ge (tgt := 45) rfl rfl rfl (fun q => absurd q (by decide)) (fun _ => ?_)
  refine X_aload_n rfl rfl rfl rfl ?_
  refine X_getR (a := 15) rfl rfl rfl ((congrFun F.1 14).trans s_14) rfl ((congrFun (F.2.1 14 (by decide)) 2).trans r_14_2) ?_
  refine X_iload_n rfl rfl rfl rfl ?_
  refine X_aald (a := 124) (t0 := 3) rfl rfl ((congrFun F.1 15).trans s_15) rfl (vp_in_d rfl) ((congrFun (F.2.1 15 (by decide)) 27).trans r_15_27) ?_
  refine X_aload_n rfl rfl rfl rfl ?_
  refine X_getR (a := 160) rfl rfl rfl ((congrFun F.1 159).trans s_159) rfl ((congrFun (F.2.1 159 (by decide)) 2).trans r_159_2) ?_
  refine X_iload_n rfl rfl rfl rfl ?_
  refine X_aald (a := 269) (t0 := 3) rfl rfl ((congrFun F.1 160).trans s_160) rfl (vp_in_d rfl) ((congrFun (F.2.1 160 (by decide)) 27).trans r_160_27) ?_
  refine X_callV (as := [.ref 269]) (st := []) rfl rfl rfl (by decide) rfl (Nat.le_of_ble_eq_true rfl) (by decide) (Nat.le_of_ble_eq_true rfl) rfl ((congrFun F.1 124).trans s_124) (by decide) ?_
  refine LW_ls (ls' := [some (.ref 124), some (.ref 269)]) rfl ?_
  refine X_aload_n rfl rfl rfl rfl ?_
  refine X_aload_n rfl rfl rfl rfl ?_
  refine X_getI (v := (0 : Int32)) rfl rfl rfl ((congrFun F.1 269).trans s_269) rfl ((congrFun (F.2.2 269 (by decide)).1 0).trans i_269_0) ?_
  refine X_putI rfl rfl rfl ((congrFun F.1 124).trans s_124) rfl rfl rfl rfl ?_
  refine X_aload_n rfl rfl rfl rfl ?_
  refine X_aload_n rfl rfl rfl rfl ?_
  refine X_getI (v := (0 : Int32)) rfl rfl rfl ((congrFun F.1 269).trans s_269) rfl ((congrFun (F.2.2 269 (by decide)).1 1).trans i_269_1) ?_
  refine X_putI rfl rfl rfl ((congrFun F.1 124).trans s_124) rfl rfl rfl rfl ?_
  refine X_aload_n rfl rfl rfl rfl ?_
  refine X_aload_n rfl rfl rfl rfl ?_
  refine X_getI (v := (17 : Int32)) rfl rfl rfl ((congrFun F.1 269).trans s_269) rfl ((congrFun (F.2.2 269 (by decide)).1 2).trans i_269_2) ?_
  refine X_putI rfl rfl rfl ((congrFun F.1 124).trans s_124) rfl rfl rfl rfl ?_
  refine X_aload_n rfl rfl rfl rfl ?_
  refine X_aload_n rfl rfl rfl rfl ?_
  refine X_getI (v := (0 : Int32)) rfl rfl rfl ((congrFun F.1 269).trans s_269) rfl ((congrFun (F.2.2 269 (by decide)).1 3).trans i_269_3) ?_
  refine X_putI rfl rfl rfl ((congrFun F.1 124).trans s_124) rfl rfl rfl rfl ?_
  refine X_aload_n rfl rfl rfl rfl ?_
  refine X_getR (a := 270) rfl rfl rfl ((congrFun F.1 269).trans s_269) rfl ((congrFun (F.2.1 269 (by decide)) 4).trans r_269_4) ?_
  refine X_iconst (v := (0 : Int32)) rfl rfl rfl ?_
  refine X_aload_n rfl rfl rfl rfl ?_
  refine X_getR (a := 125) rfl rfl rfl ((congrFun F.1 124).trans s_124) rfl ((congrFun (F.2.1 124 (by decide)) 4).trans r_124_4) ?_
  refine X_iconst (v := (0 : Int32)) rfl rfl rfl ?_
  refine X_bipush (v := (26 : Int32)) rfl rfl rfl ?_
  refine X_copy (sp' := 0) (dp' := 0) (n' := 26) rfl rfl rfl ((congrFun F.1 270).trans s_270) ((congrFun F.1 125).trans s_125) (by decide) (by decide) (by decide) rfl rfl rfl (by decide) (by decide) (Nat.le_of_ble_eq_true rfl) ?_
  refine X_aload_n rfl rfl rfl rfl ?_
  refine X_getR (a := 271) rfl rfl rfl ((congrFun F.1 269).trans s_269) rfl ((congrFun (F.2.1 269 (by decide)) 5).trans r_269_5) ?_
  refine X_iconst (v := (0 : Int32)) rfl rfl rfl ?_
  refine X_aload_n rfl rfl rfl rfl ?_
  refine X_getR (a := 126) rfl rfl rfl ((congrFun F.1 124).trans s_124) rfl ((congrFun (F.2.1 124 (by decide)) 5).trans r_124_5) ?_
  refine X_iconst (v := (0 : Int32)) rfl rfl rfl ?_
  refine X_bipush (v := (26 : Int32)) rfl rfl rfl ?_
  refine X_copy (sp' := 0) (dp' := 0) (n' := 26) rfl rfl rfl ((congrFun F.1 271).trans s_271) ((congrFun F.1 126).trans s_126) (by decide) (by decide) (by decide) rfl rfl rfl (by decide) (by decide) (Nat.le_of_ble_eq_true rfl) ?_
  refine X_aload_n rfl rfl rfl rfl ?_
  refine X_getR (a := 272) rfl rfl rfl ((congrFun F.1 269).trans s_269) rfl ((congrFun (F.2.1 269 (by decide)) 6).trans r_269_6) ?_
  refine X_iconst (v := (0 : Int32)) rfl rfl rfl ?_
  refine X_aload_n rfl rfl rfl rfl ?_
  refine X_getR (a := 127) rfl rfl rfl ((congrFun F.1 124).trans s_124) rfl ((congrFun (F.2.1 124 (by decide)) 6).trans r_124_6) ?_
  refine X_iconst (v := (0 : Int32)) rfl rfl rfl ?_
  refine X_bipush (v := (26 : Int32)) rfl rfl rfl ?_
  refine X_copy (sp' := 0) (dp' := 0) (n' := 26) rfl rfl rfl ((congrFun F.1 272).trans s_272) ((congrFun F.1 127).trans s_127) (by decide) (by decide) (by decide) rfl rfl rfl (by decide) (by decide) (Nat.le_of_ble_eq_true rfl) ?_
  refine LW_return (st := []) rfl rfl ?_
  refine X_iinc (v := (28 : Int32)) (ls' := [some (.ref 14), some (.ref 159), some (.int (28 : Int32))]) rfl rfl rfl rfl rfl ?_
  refine LW_goto (tgt := 18) rfl rfl ?_
  refine X_iload_n rfl rfl rfl rfl ?_
  refine X_bipush (v := (30 : Int32)) rfl rfl rfl ?_
  refine X_icmp_ge (tgt := 45) rfl rfl rfl (fun q => absurd q (by decide)) (fun _ => ?_)
  refine X_aload_n rfl rfl rfl rfl ?_
  refine X_getR (a := 15) rfl rfl rfl ((congrFun F.1 14).trans s_14) rfl ((congrFun (F.2.1 14 (by decide)) 2).trans r_14_2) ?_
  refine X_iload_n rfl rfl rfl rfl ?_
  refine X_aald (a := 128) (t0 := 3) rfl rfl ((congrFun F.1 15).trans s_15) rfl (vp_in_d rfl) ((congrFun (F.2.1 15 (by decide)) 28).trans r_15_28) ?_
  refine X_aload_n rfl rfl rfl rfl ?_
  refine X_getR (a := 160) rfl rfl rfl ((congrFun F.1 159).trans s_159) rfl ((congrFun (F.2.1 159 (by decide)) 2).trans r_159_2) ?_
  refine X_iload_n rfl rfl rfl rfl ?_
  refine X_aald (a := 273) (t0 := 3) rfl rfl ((congrFun F.1 160).trans s_160) rfl (vp_in_d rfl) ((congrFun (F.2.1 160 (by decide)) 28).trans r_160_28) ?_
  refine X_callV (as := [.ref 273]) (st := []) rfl rfl rfl (by decide) rfl (Nat.le_of_ble_eq_true rfl) (by decide) (Nat.le_of_ble_eq_true rfl) rfl ((congrFun F.1 128).trans s_128) (by decide) ?_
  refine LW_ls (ls' := [some (.ref 128), some (.ref 273)]) rfl ?_
  refine X_aload_n rfl rfl rfl rfl ?_
  refine X_aload_n rfl rfl rfl rfl ?_
  refine X_getI (v := (0 : Int32)) rfl rfl rfl ((congrFun F.1 273).trans s_273) rfl ((congrFun (F.2.2 273 (by decide)).1 0).trans i_273_0) ?_
  refine X_putI rfl rfl rfl ((congrFun F.1 128).trans s_128) rfl rfl rfl rfl ?_
  refine X_aload_n rfl rfl rfl rfl ?_
  refine X_aload_n rfl rfl rfl rfl ?_
  refine X_getI (v := (0 : Int32)) rfl rfl rfl ((congrFun F.1 273).trans s_273) rfl ((congrFun (F.2.2 273 (by decide)).1 1).trans i_273_1) ?_
  refine X_putI rfl rfl rfl ((congrFun F.1 128).trans s_128) rfl rfl rfl rfl ?_
  refine X_aload_n rfl rfl rfl rfl ?_
  refine X_aload_n rfl rfl rfl rfl ?_
  refine X_getI (v := (17 : Int32)) rfl rfl rfl ((congrFun F.1 273).trans s_273) rfl ((congrFun (F.2.2 273 (by decide)).1 2).trans i_273_2) ?_
  refine X_putI rfl rfl rfl ((congrFun F.1 128).trans s_128) rfl rfl rfl rfl ?_
  refine X_aload_n rfl rfl rfl rfl ?_
  refine X_aload_n rfl rfl rfl rfl ?_
  refine X_getI (v := (0 : Int32)) rfl rfl rfl ((congrFun F.1 273).trans s_273) rfl ((congrFun (F.2.2 273 (by decide)).1 3).trans i_273_3) ?_
  refine X_putI rfl rfl rfl ((congrFun F.1 128).trans s_128) rfl rfl rfl rfl ?_
  refine X_aload_n rfl rfl rfl rfl ?_
  refine X_getR (a := 274) rfl rfl rfl ((congrFun F.1 273).trans s_273) rfl ((congrFun (F.2.1 273 (by decide)) 4).trans r_273_4) ?_
  refine X_iconst (v := (0 : Int32)) rfl rfl rfl ?_
  refine X_aload_n rfl rfl rfl rfl ?_
  refine X_getR (a := 129) rfl rfl rfl ((congrFun F.1 128).trans s_128) rfl ((congrFun (F.2.1 128 (by decide)) 4).trans r_128_4) ?_
  refine X_iconst (v := (0 : Int32)) rfl rfl rfl ?_
  refine X_bipush (v := (26 : Int32)) rfl rfl rfl ?_
  refine X_copy (sp' := 0) (dp' := 0) (n' := 26) rfl rfl rfl ((congrFun F.1 274).trans s_274) ((congrFun F.1 129).trans s_129) (by decide) (by decide) (by decide) rfl rfl rfl (by decide) (by decide) (Nat.le_of_ble_eq_true rfl) ?_
  refine X_aload_n rfl rfl rfl rfl ?_
  refine X_getR (a := 275) rfl rfl rfl ((congrFun F.1 273).trans s_273) rfl ((congrFun (F.2.1 273 (by decide)) 5).trans r_273_5) ?_
  refine X_iconst (v := (0 : Int32)) rfl rfl rfl ?_
  refine X_aload_n rfl rfl rfl rfl ?_
  refine X_getR (a := 130) rfl rfl rfl ((congrFun F.1 128).trans s_128) rfl ((congrFun (F.2.1 128 (by decide)) 5).trans r_128_5) ?_
  refine X_iconst (v := (0 : Int32)) rfl rfl rfl ?_
  refine X_bipush (v := (26 : Int32)) rfl rfl rfl ?_
  refine X_copy (sp' := 0) (dp' := 0) (n' := 26) rfl rfl rfl ((congrFun F.1 275).trans s_275) ((congrFun F.1 130).trans s_130) (by decide) (by decide) (by decide) rfl rfl rfl (by decide) (by decide) (Nat.le_of_ble_eq_true rfl) ?_
  refine X_aload_n rfl rfl rfl rfl ?_
  refine X_getR (a := 276) rfl rfl rfl ((congrFun F.1 273).trans s_273) rfl ((congrFun (F.2.1 273 (by decide)) 6).trans r_273_6) ?_
  refine X_iconst (v := (0 : Int32)) rfl rfl rfl ?_
  refine X_aload_n rfl rfl rfl rfl ?_
  refine X_getR (a := 131) rfl rfl rfl ((congrFun F.1 128).trans s_128) rfl ((congrFun (F.2.1 128 (by decide)) 6).trans r_128_6) ?_
  refine X_iconst (v := (0 : Int32)) rfl rfl rfl ?_
  refine X_bipush (v := (26 : Int32)) rfl rfl rfl ?_
  refine X_copy (sp' := 0) (dp' := 0) (n' := 26) rfl rfl rfl ((congrFun F.1 276).trans s_276) ((congrFun F.1 131).trans s_131) (by decide) (by decide) (by decide) rfl rfl rfl (by decide) (by decide) (Nat.le_of_ble_eq_true rfl) ?_
  refine LW_return (st := []) rfl rfl ?_
  refine X_iinc (v := (29 : Int32)) (ls' := [some (.ref 14), some (.ref 159), some (.int (29 : Int32))]) rfl rfl rfl rfl rfl ?_
  refine LW_goto (tgt := 18) rfl rfl ?_
  refine X_iload_n rfl rfl rfl rfl ?_
  refine X_bipush (v := (30 : Int32)) rfl rfl rfl ?_
  refine X_icmp_ge (tgt := 45) rfl rfl rfl (fun q => absurd q (by decide)) (fun _ => ?_)
  refine X_aload_n rfl rfl rfl rfl ?_
  refine X_getR (a := 15) rfl rfl rfl ((congrFun F.1 14).trans s_14) rfl ((congrFun (F.2.1 14 (by decide)) 2).trans r_14_2) ?_
  refine X_iload_n rfl rfl rfl rfl ?_
  refine X_aald (a := 132) (t0 := 3) rfl rfl ((congrFun F.1 15).trans s_15) rfl (vp_in_d rfl) ((congrFun (F.2.1 15 (by decide)) 29).trans r_15_29) ?_
  refine X_aload_n rfl rfl rfl rfl ?_
  refine X_getR (a := 160) rfl rfl rfl ((congrFun F.1 159).trans s_159) rfl ((congrFun (F.2.1 159 (by decide)) 2).trans r_159_2) ?_
  refine X_iload_n rfl rfl rfl rfl ?_
  refine X_aald (a := 277) (t0 := 3) rfl rfl ((congrFun F.1 160).trans s_160) rfl (vp_in_d rfl) ((congrFun (F.2.1 160 (by decide)) 29).trans r_160_29) ?_
  refine X_callV (as := [.ref 277]) (st := []) rfl rfl rfl (by decide) rfl (Nat.le_of_ble_eq_true rfl) (by decide) (Nat.le_of_ble_eq_true rfl) rfl ((congrFun F.1 132).trans s_132) (by decide) ?_
  refine LW_ls (ls' := [some (.ref 132), some (.ref 277)]) rfl ?_
  refine X_aload_n rfl rfl rfl rfl ?_
  refine X_aload_n rfl rfl rfl rfl ?_
  refine X_getI (v := (0 : Int32)) rfl rfl rfl ((congrFun F.1 277).trans s_277) rfl ((congrFun (F.2.2 277 (by decide)).1 0).trans i_277_0) ?_
  refine X_putI rfl rfl rfl ((congrFun F.1 132).trans s_132) rfl rfl rfl rfl ?_
  refine X_aload_n rfl rfl rfl rfl ?_
  refine X_aload_n rfl rfl rfl rfl ?_
  refine X_getI (v := (0 : Int32)) rfl rfl rfl ((congrFun F.1 277).trans s_277) rfl ((congrFun (F.2.2 277 (by decide)).1 1).trans i_277_1) ?_
  refine X_putI rfl rfl rfl ((congrFun F.1 132).trans s_132) rfl rfl rfl rfl ?_
  refine X_aload_n rfl rfl rfl rfl ?_
  refine X_aload_n rfl rfl rfl rfl ?_
  refine X_getI (v := (17 : Int32)) rfl rfl rfl ((congrFun F.1 277).trans s_277) rfl ((congrFun (F.2.2 277 (by decide)).1 2).trans i_277_2) ?_
  refine X_putI rfl rfl rfl ((congrFun F.1 132).trans s_132) rfl rfl rfl rfl ?_
  refine X_aload_n rfl rfl rfl rfl ?_
  refine X_aload_n rfl rfl rfl rfl ?_
  refine X_getI (v := (0 : Int32)) rfl rfl rfl ((congrFun F.1 277).trans s_277) rfl ((congrFun (F.2.2 277 (by decide)).1 3).trans i_277_3) ?_
  refine X_putI rfl rfl rfl ((congrFun F.1 132).trans s_132) rfl rfl rfl rfl ?_
  refine X_aload_n rfl rfl rfl rfl ?_
  refine X_getR (a := 278) rfl rfl rfl ((congrFun F.1 277).trans s_277) rfl ((congrFun (F.2.1 277 (by decide)) 4).trans r_277_4) ?_
  refine X_iconst (v := (0 : Int32)) rfl rfl rfl ?_
  refine X_aload_n rfl rfl rfl rfl ?_
  refine X_getR (a := 133) rfl rfl rfl ((congrFun F.1 132).trans s_132) rfl ((congrFun (F.2.1 132 (by decide)) 4).trans r_132_4) ?_
  refine X_iconst (v := (0 : Int32)) rfl rfl rfl ?_
  refine X_bipush (v := (26 : Int32)) rfl rfl rfl ?_
  refine X_copy (sp' := 0) (dp' := 0) (n' := 26) rfl rfl rfl ((congrFun F.1 278).trans s_278) ((congrFun F.1 133).trans s_133) (by decide) (by decide) (by decide) rfl rfl rfl (by decide) (by decide) (Nat.le_of_ble_eq_true rfl) ?_
  refine X_aload_n rfl rfl rfl rfl ?_
  refine X_getR (a := 279) rfl rfl rfl ((congrFun F.1 277).trans s_277) rfl ((congrFun (F.2.1 277 (by decide)) 5).trans r_277_5) ?_
  refine X_iconst (v := (0 : Int32)) rfl rfl rfl ?_
  refine X_aload_n rfl rfl rfl rfl ?_
  refine X_getR (a := 134) rfl rfl rfl ((congrFun F.1 132).trans s_132) rfl ((congrFun (F.2.1 132 (by decide)) 5).trans r_132_5) ?_
  refine X_iconst (v := (0 : Int32)) rfl rfl rfl ?_
  refine X_bipush (v := (26 : Int32)) rfl rfl rfl ?_
  refine X_copy (sp' := 0) (dp' := 0) (n' := 26) rfl rfl rfl ((congrFun F.1 279).trans s_279) ((congrFun F.1 134).trans s_134) (by decide) (by decide) (by decide) rfl rfl rfl (by decide) (by decide) (Nat.le_of_ble_eq_true rfl) ?_
  refine X_aload_n rfl rfl rfl rfl ?_
  refine X_getR (a := 280) rfl rfl rfl ((congrFun F.1 277).trans s_277) rfl ((congrFun (F.2.1 277 (by decide)) 6).trans r_277_6) ?_
  refine X_iconst (v := (0 : Int32)) rfl rfl rfl ?_
  refine X_aload_n rfl rfl rfl rfl ?_
  refine X_getR (a := 135) rfl rfl rfl ((congrFun F.1 132).trans s_132) rfl ((congrFun (F.2.1 132 (by decide)) 6).trans r_132_6) ?_
  refine X_iconst (v := (0 : Int32)) rfl rfl rfl ?_
  refine X_bipush (v := (26 : Int32)) rfl rfl rfl ?_
  refine X_copy (sp' := 0) (dp' := 0) (n' := 26) rfl rfl rfl ((congrFun F.1 280).trans s_280) ((congrFun F.1 135).trans s_135) (by decide) (by decide) (by decide) rfl rfl rfl (by decide) (by decide) (Nat.le_of_ble_eq_true rfl) ?_
  refine LW_return (st := []) rfl rfl ?_
  refine X_iinc (v := (30 : Int32)) (ls' := [some (.ref 14), some (.ref 159), some (.int (30 : Int32))]) rfl rfl rfl rfl rfl ?_
  refine LW_goto (tgt := 18) rfl rfl ?_
  refine X_iload_n rfl rfl rfl rfl ?_
  refine X_bipush (v := (30 : Int32)) rfl rfl rfl ?_
  refine X_icmp_ge (tgt := 45) rfl rfl rfl (fun _ => ?_) (fun q => absurd q (by decide))
  refine LW_return (st := []) rfl rfl ?_
  refine X_aload_n rfl rfl rfl rfl ?_
  refine X_getR (a := 136) rfl rfl rfl ((congrFun F.1 1).trans s_1) rfl ((congrFun (F.2.1 1 (by decide)) 3).trans r_1_3) ?_
  refine X_aload_n rfl rfl rfl rfl ?_
  refine X_getR (a := 281) rfl rfl rfl ((congrFun F.1 146).trans s_146) rfl ((congrFun (F.2.1 146 (by decide)) 3).trans r_146_3) ?_
  refine X_callV (as := [.ref 281]) (st := []) rfl rfl rfl (by decide) rfl (Nat.le_of_ble_eq_true rfl) (by decide) (Nat.le_of_ble_eq_true rfl) rfl ((congrFun F.1 136).trans s_136) (by decide) ?_
  refine LW_ls (ls' := [some (.ref 136), some (.ref 281)]) rfl ?_
  refine X_aload_n rfl rfl rfl rfl ?_
  refine X_getR (a := 282) rfl rfl rfl ((congrFun F.1 281).trans s_281) rfl ((congrFun (F.2.1 281 (by decide)) 0).trans r_281_0) ?_
  refine X_iconst (v := (0 : Int32)) rfl rfl rfl ?_
  refine X_aload_n rfl rfl rfl rfl ?_
  refine X_getR (a := 137) rfl rfl rfl ((congrFun F.1 136).trans s_136) rfl ((congrFun (F.2.1 136 (by decide)) 0).trans r_136_0) ?_
  refine X_iconst (v := (0 : Int32)) rfl rfl rfl ?_
  refine X_bipush (v := (10 : Int32)) rfl rfl rfl ?_
  refine X_copy (sp' := 0) (dp' := 0) (n' := 10) rfl rfl rfl ((congrFun F.1 282).trans s_282) ((congrFun F.1 137).trans s_137) (by decide) (by decide) (by decide) rfl rfl rfl (by decide) (by decide) (Nat.le_of_ble_eq_true rfl) ?_
  refine X_aload_n rfl rfl rfl rfl ?_
  refine X_getR (a := 283) rfl rfl rfl ((congrFun F.1 281).trans s_281) rfl ((congrFun (F.2.1 281 (by decide)) 1).trans r_281_1) ?_
  refine X_iconst (v := (0 : Int32)) rfl rfl rfl ?_
  refine X_aload_n rfl rfl rfl rfl ?_
  refine X_getR (a := 138) rfl rfl rfl ((congrFun F.1 136).trans s_136) rfl ((congrFun (F.2.1 136 (by decide)) 1).trans r_136_1) ?_
  refine X_iconst (v := (0 : Int32)) rfl rfl rfl ?_
  refine X_bipush (v := (10 : Int32)) rfl rfl rfl ?_
  refine X_copy (sp' := 0) (dp' := 0) (n' := 10) rfl rfl rfl ((congrFun F.1 283).trans s_283) ((congrFun F.1 138).trans s_138) (by decide) (by decide) (by decide) rfl rfl rfl (by decide) (by decide) (Nat.le_of_ble_eq_true rfl) ?_
  refine X_aload_n rfl rfl rfl rfl ?_
  refine X_getR (a := 284) rfl rfl rfl ((congrFun F.1 281).trans s_281) rfl ((congrFun (F.2.1 281 (by decide)) 2).trans r_281_2) ?_
  refine X_iconst (v := (0 : Int32)) rfl rfl rfl ?_
  refine X_aload_n rfl rfl rfl rfl ?_
  refine X_getR (a := 139) rfl rfl rfl ((congrFun F.1 136).trans s_136) rfl ((congrFun (F.2.1 136 (by decide)) 2).trans r_136_2) ?_
  refine X_iconst (v := (0 : Int32)) rfl rfl rfl ?_
  refine X_bipush (v := (10 : Int32)) rfl rfl rfl ?_
  refine X_copy (sp' := 0) (dp' := 0) (n' := 10) rfl rfl rfl ((congrFun F.1 284).trans s_284) ((congrFun F.1 139).trans s_139) (by decide) (by decide) (by decide) rfl rfl rfl (by decide) (by decide) (Nat.le_of_ble_eq_true rfl) ?_
  refine X_aload_n rfl rfl rfl rfl ?_
  refine X_getR (a := 285) rfl rfl rfl ((congrFun F.1 281).trans s_281) rfl ((congrFun (F.2.1 281 (by decide)) 3).trans r_281_3) ?_
  refine X_iconst (v := (0 : Int32)) rfl rfl rfl ?_
  refine X_aload_n rfl rfl rfl rfl ?_
  refine X_getR (a := 140) rfl rfl rfl ((congrFun F.1 136).trans s_136) rfl ((congrFun (F.2.1 136 (by decide)) 3).trans r_136_3) ?_
  refine X_iconst (v := (0 : Int32)) rfl rfl rfl ?_
  refine X_bipush (v := (80 : Int32)) rfl rfl rfl ?_
  refine X_copy (sp' := 0) (dp' := 0) (n' := 80) rfl rfl rfl ((congrFun F.1 285).trans s_285) ((congrFun F.1 140).trans s_140) (by decide) (by decide) (by decide) rfl rfl rfl (by decide) (by decide) (Nat.le_of_ble_eq_true rfl) ?_
  refine LW_return (st := []) rfl rfl ?_
  refine X_aload_n rfl rfl rfl rfl ?_
  refine X_getR (a := 286) rfl rfl rfl ((congrFun F.1 146).trans s_146) rfl ((congrFun (F.2.1 146 (by decide)) 4).trans r_146_4) ?_
  refine X_iconst (v := (0 : Int32)) rfl rfl rfl ?_
  refine X_aload_n rfl rfl rfl rfl ?_
  refine X_getR (a := 141) rfl rfl rfl ((congrFun F.1 1).trans s_1) rfl ((congrFun (F.2.1 1 (by decide)) 4).trans r_1_4) ?_
  refine X_iconst (v := (0 : Int32)) rfl rfl rfl ?_
  refine X_bipush (v := (26 : Int32)) rfl rfl rfl ?_
  refine X_copy (sp' := 0) (dp' := 0) (n' := 26) rfl rfl rfl ((congrFun F.1 286).trans s_286) ((congrFun F.1 141).trans s_141) (by decide) (by decide) (by decide) rfl rfl rfl (by decide) (by decide) (Nat.le_of_ble_eq_true rfl) ?_
  refine X_aload_n rfl rfl rfl rfl ?_
  refine X_aload_n rfl rfl rfl rfl ?_
  refine X_getI (v := (0 : Int32)) rfl rfl rfl ((congrFun F.1 146).trans s_146) rfl ((congrFun (F.2.2 146 (by decide)).1 5).trans i_146_5) ?_
  refine X_putI rfl rfl rfl ((congrFun F.1 1).trans s_1) rfl rfl rfl rfl ?_
  refine X_aload_n rfl rfl rfl rfl ?_
  refine X_aload_n rfl rfl rfl rfl ?_
  refine X_getI (v := (-1 : Int32)) rfl rfl rfl ((congrFun F.1 146).trans s_146) rfl ((congrFun (F.2.2 146 (by decide)).1 6).trans i_146_6) ?_
  refine X_putI rfl rfl rfl ((congrFun F.1 1).trans s_1) rfl rfl rfl rfl ?_
  refine X_aload_n rfl rfl rfl rfl ?_
  refine X_aload_n rfl rfl rfl rfl ?_
  refine X_getI (v := (0 : Int32)) rfl rfl rfl ((congrFun F.1 146).trans s_146) rfl ((congrFun (F.2.2 146 (by decide)).1 7).trans i_146_7) ?_
  refine X_putI rfl rfl rfl ((congrFun F.1 1).trans s_1) rfl rfl rfl rfl ?_
  refine X_aload_n rfl rfl rfl rfl ?_
  refine X_getR (a := 287) rfl rfl rfl ((congrFun F.1 146).trans s_146) rfl ((congrFun (F.2.1 146 (by decide)) 8).trans r_146_8) ?_
  refine X_iconst (v := (0 : Int32)) rfl rfl rfl ?_
  refine X_aload_n rfl rfl rfl rfl ?_
  refine X_getR (a := 142) rfl rfl rfl ((congrFun F.1 1).trans s_1) rfl ((congrFun (F.2.1 1 (by decide)) 8).trans r_1_8) ?_
  refine X_iconst (v := (0 : Int32)) rfl rfl rfl ?_
  refine X_iconst (v := (4 : Int32)) rfl rfl rfl ?_
  refine X_copy (sp' := 0) (dp' := 0) (n' := 4) rfl rfl rfl ((congrFun F.1 287).trans s_287) ((congrFun F.1 142).trans s_142) (by decide) (by decide) (by decide) rfl rfl rfl (by decide) (by decide) (Nat.le_of_ble_eq_true rfl) ?_
  refine X_aload_n rfl rfl rfl rfl ?_
  refine X_aload_n rfl rfl rfl rfl ?_
  refine X_getI (v := (0 : Int32)) rfl rfl rfl ((congrFun F.1 146).trans s_146) rfl ((congrFun (F.2.2 146 (by decide)).1 9).trans i_146_9) ?_
  refine X_putI rfl rfl rfl ((congrFun F.1 1).trans s_1) rfl rfl rfl rfl ?_
  refine X_aload_n rfl rfl rfl rfl ?_
  refine X_getR (a := 288) rfl rfl rfl ((congrFun F.1 146).trans s_146) rfl ((congrFun (F.2.1 146 (by decide)) 10).trans r_146_10) ?_
  refine X_iconst (v := (0 : Int32)) rfl rfl rfl ?_
  refine X_aload_n rfl rfl rfl rfl ?_
  refine X_getR (a := 143) rfl rfl rfl ((congrFun F.1 1).trans s_1) rfl ((congrFun (F.2.1 1 (by decide)) 10).trans r_1_10) ?_
  refine X_iconst (v := (0 : Int32)) rfl rfl rfl ?_
  refine X_bipush (v := (12 : Int32)) rfl rfl rfl ?_
  refine X_copy (sp' := 0) (dp' := 0) (n' := 12) rfl rfl rfl ((congrFun F.1 288).trans s_288) ((congrFun F.1 143).trans s_143) (by decide) (by decide) (by decide) rfl rfl rfl (by decide) (by decide) (Nat.le_of_ble_eq_true rfl) ?_
  refine X_aload_n rfl rfl rfl rfl ?_
  refine X_getR (a := 289) rfl rfl rfl ((congrFun F.1 146).trans s_146) rfl ((congrFun (F.2.1 146 (by decide)) 11).trans r_146_11) ?_
  refine X_iconst (v := (0 : Int32)) rfl rfl rfl ?_
  refine X_aload_n rfl rfl rfl rfl ?_
  refine X_getR (a := 144) rfl rfl rfl ((congrFun F.1 1).trans s_1) rfl ((congrFun (F.2.1 1 (by decide)) 11).trans r_1_11) ?_
  refine X_iconst (v := (0 : Int32)) rfl rfl rfl ?_
  refine X_bipush (v := (12 : Int32)) rfl rfl rfl ?_
  refine X_copy (sp' := 0) (dp' := 0) (n' := 12) rfl rfl rfl ((congrFun F.1 289).trans s_289) ((congrFun F.1 144).trans s_144) (by decide) (by decide) (by decide) rfl rfl rfl (by decide) (by decide) (Nat.le_of_ble_eq_true rfl) ?_
  refine X_aload_n rfl rfl rfl rfl ?_
  refine X_getR (a := 290) rfl rfl rfl ((congrFun F.1 146).trans s_146) rfl ((congrFun (F.2.1 146 (by decide)) 12).trans r_146_12) ?_
  refine X_iconst (v := (0 : Int32)) rfl rfl rfl ?_
  refine X_aload_n rfl rfl rfl rfl ?_
  refine X_getR (a := 145) rfl rfl rfl ((congrFun F.1 1).trans s_1) rfl ((congrFun (F.2.1 1 (by decide)) 12).trans r_1_12) ?_
  refine X_iconst (v := (0 : Int32)) rfl rfl rfl ?_
  refine X_bipush (v := (12 : Int32)) rfl rfl rfl ?_
  refine X_copy (sp' := 0) (dp' := 0) (n' := 12) rfl rfl rfl ((congrFun F.1 290).trans s_290) ((congrFun F.1 145).trans s_145) (by decide) (by decide) (by decide) rfl rfl rfl (by decide) (by decide) (Nat.le_of_ble_eq_true rfl) ?_
  refine LW_return (st := []) rfl rfl ?_
  refine X_aload_n rfl rfl rfl rfl ?_
  refine X_getR (a := 1) rfl rfl rfl ((congrFun F.1 0).trans s_0) rfl ((congrFun (F.2.1 0 (by decide)) 0).trans r_0_0) ?_
  refine X_getR (a := 10) rfl rfl rfl ((congrFun F.1 1).trans s_1) rfl ((congrFun (F.2.1 1 (by decide)) 1).trans r_1_1) ?_
  refine X_getI (v := (0 : Int32)) rfl rfl rfl ((congrFun F.1 10).trans s_10) rfl rfl ?_
  refine LW_ireturn (st := []) rfl rfl rfl ⟨congrArg (fun z => some (Value.int z)) ?_, (Fr_cpyI (Fr_cpyI (Fr_cpyI (Fr_putI (Fr_cpyI (Fr_putI (Fr_putI (Fr_putI (Fr_cpyI (Fr_cpyI (Fr_cpyI (Fr_cpyI (Fr_cpyI (Fr_cpyI (Fr_cpyI (Fr_cpyI (Fr_putI (Fr_putI (Fr_putI (Fr_putI (Fr_cpyI (Fr_cpyI (Fr_cpyI (Fr_putI (Fr_putI (Fr_putI (Fr_putI (Fr_cpyI (Fr_cpyI (Fr_cpyI (Fr_putI (Fr_putI (Fr_putI (Fr_putI (Fr_cpyI (Fr_cpyI (Fr_cpyI (Fr_putI (Fr_putI (Fr_putI (Fr_putI (Fr_cpyI (Fr_cpyI (Fr_cpyI (Fr_putI (Fr_putI (Fr_putI (Fr_putI (Fr_cpyI (Fr_cpyI (Fr_cpyI (Fr_putI (Fr_putI (Fr_putI (Fr_putI (Fr_cpyI (Fr_cpyI (Fr_cpyI (Fr_putI (Fr_putI (Fr_putI (Fr_putI (Fr_cpyI (Fr_cpyI (Fr_cpyI (Fr_putI (Fr_putI (Fr_putI (Fr_putI (Fr_cpyI (Fr_cpyI (Fr_cpyI (Fr_putI (Fr_putI (Fr_putI (Fr_putI (Fr_cpyI (Fr_cpyI (Fr_cpyI (Fr_putI (Fr_putI (Fr_putI (Fr_putI (Fr_cpyI (Fr_cpyI (Fr_cpyI (Fr_putI (Fr_putI (Fr_putI (Fr_putI (Fr_cpyI (Fr_cpyI (Fr_cpyI (Fr_putI (Fr_putI (Fr_putI (Fr_putI (Fr_cpyI (Fr_cpyI (Fr_cpyI (Fr_putI (Fr_putI (Fr_putI (Fr_putI (Fr_cpyI (Fr_cpyI (Fr_cpyI (Fr_putI (Fr_putI (Fr_putI (Fr_putI (Fr_cpyI (Fr_cpyI (Fr_cpyI (Fr_putI (Fr_putI (Fr_putI (Fr_putI (Fr_cpyI (Fr_cpyI (Fr_cpyI (Fr_putI (Fr_putI (Fr_putI (Fr_putI (Fr_cpyI (Fr_cpyI (Fr_cpyI (Fr_putI (Fr_putI (Fr_putI (Fr_putI (Fr_cpyI (Fr_cpyI (Fr_cpyI (Fr_putI (Fr_putI (Fr_putI (Fr_putI (Fr_cpyI (Fr_cpyI (Fr_cpyI (Fr_putI (Fr_putI (Fr_putI (Fr_putI (Fr_cpyI (Fr_cpyI (Fr_cpyI (Fr_putI (Fr_putI (Fr_putI (Fr_putI (Fr_cpyI (Fr_cpyI (Fr_cpyI (Fr_putI (Fr_putI (Fr_putI (Fr_putI (Fr_cpyI (Fr_cpyI (Fr_cpyI (Fr_putI (Fr_putI (Fr_putI (Fr_putI (Fr_cpyI (Fr_cpyI (Fr_cpyI (Fr_putI (Fr_putI (Fr_putI (Fr_putI (Fr_cpyI (Fr_cpyI (Fr_cpyI (Fr_putI (Fr_putI (Fr_putI (Fr_putI (Fr_cpyI (Fr_cpyI (Fr_cpyI (Fr_putI (Fr_putI (Fr_putI (Fr_putI (Fr_cpyI (Fr_cpyI (Fr_cpyI (Fr_putI (Fr_putI (Fr_putI (Fr_putI (Fr_cpyI (Fr_cpyI (Fr_cpyI (Fr_putI (Fr_putI (Fr_putI (Fr_putI (Fr_cpyI (Fr_cpyI (Fr_cpyI (Fr_putI (Fr_putI (Fr_putI (Fr_putI (Fr_cpyI (Fr_cpyI (Fr_cpyI (Fr_putI (Fr_putI (Fr_putI (Fr_putI (Fr_cpyI (Fr_cpyI (Fr_cpyI (Fr_putI (Fr_putI (Fr_putI (Fr_putI (Fr_putI (Fr_putI (Fr_cpyI (Fr_cpyI (Fr_cpyI (Fr_putI (Fr_putI (Fr_putI (Fr_putI (Fr_cpyI (Fr_cpyI (Fr_cpyI (Fr_cpyI (Fr_cpyI (Fr_cpyI (Fr_cpyI (Fr_putI (Fr_putI E (by decide)) (by decide)) (by decide)) (by decide)) (by decide)) (by decide)) (by decide)) (by decide)) (by decide)) (by decide)) (by decide)) (by decide)) (by decide)) (by decide)) (by decide)) (by decide)) (by decide)) (by decide)) (by decide)) (by decide)) (by decide)) (by decide)) (by decide)) (by decide)) (by decide)) (by decide)) (by decide)) (by decide)) (by decide)) (by decide)) (by decide)) (by decide)) (by decide)) (by decide)) (by decide)) (by decide)) (by decide)) (by decide)) (by decide)) (by decide)) (by decide)) (by decide)) (by decide)) (by decide)) (by decide)) (by decide)) (by decide)) (by decide)) (by decide)) (by decide)) (by decide)) (by decide)) (by decide)) (by decide)) (by decide)) (by decide)) (by decide)) (by decide)) (by decide)) (by decide)) (by decide)) (by decide)) (by decide)) (by decide)) (by decide)) (by decide)) (by decide)) (by decide)) (by decide)) (by decide)) (by decide)) (by decide)) (by decide)) (by decide)) (by decide)) (by decide)) (by decide)) (by decide)) (by decide)) (by decide)) (by decide)) (by decide)) (by decide)) (by decide)) (by decide)) (by decide)) (by decide)) (by decide)) (by decide)) (by decide)) (by decide)) (by decide)) (by decide)) (by decide)) (by decide)) (by decide)) (by decide)) (by decide)) (by decide)) (by decide)) (by decide)) (by decide)) (by decide)) (by decide)) (by decide)) (by decide)) (by decide)) (by decide)) (by decide)) (by decide)) (by decide)) (by decide)) (by decide)) (by decide)) (by decide)) (by decide)) (by decide)) (by decide)) (by decide)) (by decide)) (by decide)) (by decide)) (by decide)) (by decide)) (by decide)) (by decide)) (by decide)) (by decide)) (by decide)) (by decide)) (by decide)) (by decide)) (by decide)) (by decide)) (by decide)) (by decide)) (by decide)) (by decide)) (by decide)) (by decide)) (by decide)) (by decide)) (by decide)) (by decide)) (by decide)) (by decide)) (by decide)) (by decide)) (by decide)) (by decide)) (by decide)) (by decide)) (by decide)) (by decide)) (by decide)) (by decide)) (by decide)) (by decide)) (by decide)) (by decide)) (by decide)) (by decide)) (by decide)) (by decide)) (by decide)) (by decide)) (by decide)) (by decide)) (by decide)) (by decide)) (by decide)) (by decide)) (by decide)) (by decide)) (by decide)) (by decide)) (by decide)) (by decide)) (by decide)) (by decide)) (by decide)) (by decide)) (by decide)) (by decide)) (by decide)) (by decide)) (by decide)) (by decide)) (by decide)) (by decide)) (by decide)) (by decide)) (by decide)) (by decide)) (by decide)) (by decide)) (by decide)) (by decide)) (by decide)) (by decide)) (by decide)) (by decide)) (by decide)) (by decide)) (by decide)) (by decide)) (by decide)) (by decide)) (by decide)) (by decide)) (by decide)) (by decide)) (by decide)) (by decide)) (by decide)) (by decide)) (by decide)) (by decide)) (by decide)) (by decide)) (by decide)) (by decide)) (by decide)) (by decide)) (by decide)) (by decide)) (by decide)) (by decide)) (by decide)) (by decide)) (by decide)) (by decide)) (by decide)) (by decide)) (by decide)) (by decide)) (by decide)) (by decide)) (by decide)) (by decide)) (by decide))⟩
  unfold f_back
  repeat' split
  all_goals first | rfl | (exfalso; omega) | (refine Int32.toInt_inj.mp ?_; rw [show (0 : Int32).toInt = 0 from rfl]; omega)
