/-! the class's methods: each returns and keeps what every state keeps -/
set_option maxRecDepth 10000 in
set_option maxHeartbeats 40000000 in
theorem C_X10_cut_9 {P : Par} {g g0 : LH} {d n : Nat}  (V : Inv P g) (hG : Gr g = Gr g0) (hK : Gi g 1 5 = Gi g0 1 5) (x1 : Int32) (y1 : Int) (hx1 : x1.toInt = y1) (hf1 : 0 ≤ y1 ∧ y1 ≤ 300) (x2 : Int32) (y2 : Int) (hx2 : x2.toInt = y2) (hf2 : 0 ≤ y2 ∧ y2 ≤ 300)  (hmu : (300 - y2) * 1 + 0 < (n : Int) + 1) (ih9 : ∀ (g : LH) (V : Inv P g) (hG : Gr g = Gr g0) (hK : Gi g 1 5 = Gi g0 1 5) (x1 : Int32) (y1 : Int) (hx1 : x1.toInt = y1) (hf1 : 0 ≤ y1 ∧ y1 ≤ 300) (x2 : Int32) (y2 : Int) (hx2 : x2.toInt = y2) (hf2 : 0 ≤ y2 ∧ y2 ≤ 300) , (300 - y2) * 1 + 0 < (n : Int) → LW 113 (d + 16) 0 0 9 [some (.ref 332), some (.int x1), some (.int x2)] [] g (fun v g' => v = none ∧ Inv P g' ∧ Gr g' = Gr g0 ∧ Gi g' 1 5 = Gi g0 1 5)) : LW 113 (d + 16) 0 0 9 [some (.ref 332), some (.int x1), some (.int x2)] [] g (fun v g' => v = none ∧ Inv P g' ∧ Gr g' = Gr g0 ∧ Gi g' 1 5 = Gi g0 1 5) := by
  refine X_iload_n rfl rfl rfl rfl ?_
  refine X_aload_n rfl rfl rfl rfl ?_
  refine S_getI rfl rfl rfl ((congrFun V.1 332).trans s_332) rfl (fun vz1 evz1 => ?_)
  have vf2 := K_16_0 (V.2.2.2.2.1 (332) (0) (Nat.le_of_ble_eq_true rfl)) rk_332
  rw [evz1] at vf2
  refine S_icmp_ge (tgt := 56) rfl rfl rfl hx2 rfl (fun vh3 => ?_) (fun vh3 => ?_)
  · refine X_aload_n rfl rfl rfl rfl ?_
    refine X_iconst (v := (0 : Int32)) rfl rfl rfl ?_
    refine X_aload_n rfl rfl rfl rfl ?_
    refine X_getI (v := vz1) rfl rfl rfl ((congrFun V.1 332).trans s_332) rfl evz1 ?_
    refine X_aload_n rfl rfl rfl rfl ?_
    refine X_getI (v := vz1) rfl rfl rfl ((congrFun V.1 332).trans s_332) rfl evz1 ?_
    refine X_iconst (v := (0 : Int32)) rfl rfl rfl ?_
    refine Y_callV (as := [.int (0 : Int32), .int vz1, .int vz1, .int (0 : Int32)]) (st := []) rfl rfl rfl (by decide) rfl (Nat.le_of_ble_eq_true rfl) (by decide) (Nat.le_of_ble_eq_true rfl) rfl ((congrFun V.1 332).trans s_332) (by decide) (C_X10_add V (0 : Int32) 0 (show (0 : Int32).toInt = 0 from rfl) (by omega) vz1 vz1.toInt rfl (by omega) vz1 vz1.toInt rfl (by omega) (0 : Int32) 0 (show (0 : Int32).toInt = 0 from rfl) ) ?_
    rintro _ g ⟨rfl, V, hq, hk⟩
    have hG := hq.trans hG
    have hK := hk.trans hK
    exact LW_return (st := []) rfl rfl ⟨rfl, V, hG, hK⟩
  · refine X_iload_n rfl rfl rfl rfl ?_
    refine X_iload_n rfl rfl rfl rfl ?_
    refine S_icmp_lt (tgt := 50) rfl rfl rfl hx2 hx1 (fun vh5 => ?_) (fun vh5 => ?_)
    · refine S_iinc (c := 1) rfl rfl rfl hx2 rfl (by omega) (fun vz6 hvz6 => ?_)
      refine LW_ls (ls' := [some (.ref 332), some (.int x1), some (.int vz6)]) rfl ?_
      refine LW_goto (tgt := 9) rfl rfl ?_
      exact ih9 _ V hG hK x1 y1 hx1 (by omega) vz6 vz6.toInt rfl (by omega)    (by omega)
    · refine X_aload_n rfl rfl rfl rfl ?_
      refine X_getR (a := 333) rfl rfl rfl ((congrFun V.1 332).trans s_332) rfl ((congrFun (V.2.1 332 (by decide)) 1).trans r_332_1) ?_
      refine X_iload_n rfl rfl rfl rfl ?_
      refine S_iald rfl rfl ((congrFun V.1 333).trans s_333) hx2 (by omega) (fun vz7 evz7 => ?_)
      have vf8 := K_7 (V.2.2.2.2.1 (333) ((y2 : Int).toNat) (Nat.le_of_ble_eq_true rfl)) rk_333
      rw [evz7] at vf8
      refine X_bipush (v := (32 : Int32)) rfl rfl rfl ?_
      refine S_icmp_eq (tgt := 50) rfl rfl rfl rfl (show (32 : Int32).toInt = 32 from rfl) (fun vh9 => ?_) (fun vh9 => ?_)
      · refine S_iinc (c := 1) rfl rfl rfl hx2 rfl (by omega) (fun vz10 hvz10 => ?_)
        refine LW_ls (ls' := [some (.ref 332), some (.int x1), some (.int vz10)]) rfl ?_
        refine LW_goto (tgt := 9) rfl rfl ?_
        exact ih9 _ V hG hK x1 y1 hx1 (by omega) vz10 vz10.toInt rfl (by omega)    (by omega)
      · refine X_aload_n rfl rfl rfl rfl ?_
        refine X_getR (a := 333) rfl rfl rfl ((congrFun V.1 332).trans s_332) rfl ((congrFun (V.2.1 332 (by decide)) 1).trans r_332_1) ?_
        refine X_iload_n rfl rfl rfl rfl ?_
        refine S_iald_v rfl rfl ((congrFun V.1 333).trans s_333) hx2 (by omega) evz7 ?_
        refine X_bipush (v := (10 : Int32)) rfl rfl rfl ?_
        refine S_icmp_eq (tgt := 50) rfl rfl rfl rfl (show (10 : Int32).toInt = 10 from rfl) (fun vh12 => ?_) (fun vh12 => ?_)
        · refine S_iinc (c := 1) rfl rfl rfl hx2 rfl (by omega) (fun vz13 hvz13 => ?_)
          refine LW_ls (ls' := [some (.ref 332), some (.int x1), some (.int vz13)]) rfl ?_
          refine LW_goto (tgt := 9) rfl rfl ?_
          exact ih9 _ V hG hK x1 y1 hx1 (by omega) vz13 vz13.toInt rfl (by omega)    (by omega)
        · refine X_aload_n rfl rfl rfl rfl ?_
          refine X_iload_n rfl rfl rfl rfl ?_
          refine Y_callV (as := [.int x2]) (st := []) rfl rfl rfl (by decide) rfl (Nat.le_of_ble_eq_true rfl) (by decide) (Nat.le_of_ble_eq_true rfl) rfl ((congrFun V.1 332).trans s_332) (by decide) (C_X10_cutOne V x2 y2 hx2 (by omega) ) ?_
          rintro _ g ⟨vr14, rfl, hrvr140, hrvr141, V, hq, hk⟩
          have hG := hq.trans hG
          have hK := hk.trans hK
          refine X_istore_n (i := 1) (ls' := [some (.ref 332), some (.int vr14), some (.int x2)]) rfl rfl rfl (Nat.le_of_ble_eq_true rfl) rfl ?_
          refine S_iinc (c := 1) rfl rfl rfl hx2 rfl (by omega) (fun vz15 hvz15 => ?_)
          refine LW_ls (ls' := [some (.ref 332), some (.int vr14), some (.int vz15)]) rfl ?_
          refine LW_goto (tgt := 9) rfl rfl ?_
          exact ih9 _ V hG hK vr14 vr14.toInt rfl (by omega) vz15 vz15.toInt rfl (by omega)    (by omega)
theorem C_X10_cut_all {P : Par} {g0 : LH} {d : Nat}  : ∀ n : Nat, (∀ (g : LH) (V : Inv P g) (hG : Gr g = Gr g0) (hK : Gi g 1 5 = Gi g0 1 5) (x1 : Int32) (y1 : Int) (hx1 : x1.toInt = y1) (hf1 : 0 ≤ y1 ∧ y1 ≤ 300) (x2 : Int32) (y2 : Int) (hx2 : x2.toInt = y2) (hf2 : 0 ≤ y2 ∧ y2 ≤ 300) , (300 - y2) * 1 + 0 < (n : Int) → LW 113 (d + 16) 0 0 9 [some (.ref 332), some (.int x1), some (.int x2)] [] g (fun v g' => v = none ∧ Inv P g' ∧ Gr g' = Gr g0 ∧ Gi g' 1 5 = Gi g0 1 5)) := by
  intro n
  induction n with
  | zero => exact fun g V hG hK x1 y1 hx1 hf1 x2 y2 hx2 hf2 hmu => absurd hmu (by omega)
  | succ n ih => exact fun g V hG hK x1 y1 hx1 hf1 x2 y2 hx2 hf2 hmu => C_X10_cut_9  V hG hK x1 y1 hx1 hf1 x2 y2 hx2 hf2 (by omega) ih
set_option maxRecDepth 10000 in
set_option maxHeartbeats 40000000 in
theorem C_X10_cut {P : Par} {g : LH} {d : Nat}  (V : Inv P g)    : LW 113 (d + 16) 0 0 0 (lEnt (mL 113) [.ref 332]) [] g (fun v g' => v = none ∧ Inv P g' ∧ Gr g' = Gr g ∧ Gi g' 1 5 = Gi g 1 5) := by
  refine LW_ls (ls' := [some (.ref 332), none, none]) rfl ?_
  have hG : Gr g = Gr g := rfl
  have hK : Gi g 1 5 = Gi g 1 5 := rfl
  refine X_aload_n rfl rfl rfl rfl ?_
  refine X_iconst (v := (0 : Int32)) rfl rfl rfl ?_
  refine S_putI (I := Inv _) rfl rfl rfl ((congrFun V.1 332).trans s_332) rfl rfl rfl rfl (Inv_putI V (Nat.le_of_ble_eq_true rfl) (Or.inl (by decide)) (Q_16_2 rk_332 (by decide))) (fun g V ve1 vn2 hq => ?_)
  have hG := hq.trans hG
  have hK := (vn2 1 5 (Or.inl (by decide))).trans hK
  refine X_iconst (v := (0 : Int32)) rfl rfl rfl ?_
  refine X_istore_n (i := 1) (ls' := [some (.ref 332), some (.int (0 : Int32)), none]) rfl rfl rfl (Nat.le_of_ble_eq_true rfl) rfl ?_
  refine X_iconst (v := (0 : Int32)) rfl rfl rfl ?_
  refine X_istore_n (i := 2) (ls' := [some (.ref 332), some (.int (0 : Int32)), some (.int (0 : Int32))]) rfl rfl rfl (Nat.le_of_ble_eq_true rfl) rfl ?_
  exact (C_X10_cut_all (((300 - 0) * 1 + 0) + 1 : Int).toNat) _ V hG hK (0 : Int32) 0 (show (0 : Int32).toInt = 0 from rfl) (by omega) (0 : Int32) 0 (show (0 : Int32).toInt = 0 from rfl) (by omega)    (by omega)
set_option maxRecDepth 10000 in
set_option maxHeartbeats 40000000 in
theorem C_X11_clear_T_12 {P : Par} {g g0 : LH} {d n : Nat}  {u : Nat} (hu : u < 4) (V : Inv P g) (hG : Gr g = Gr g0) (hK : Gi g 1 5 = Gi g0 1 5) (x1 : Int32) (y1 : Int) (hx1 : x1.toInt = y1) (hf1 : 0 ≤ y1 ∧ y1 ≤ 4)  (hmu : (4 - y1) * 1 + 0 < (n : Int) + 1) (ih12 : ∀ (g : LH) {u : Nat} (hu : u < 4) (V : Inv P g) (hG : Gr g = Gr g0) (hK : Gi g 1 5 = Gi g0 1 5) (x1 : Int32) (y1 : Int) (hx1 : x1.toInt = y1) (hf1 : 0 ≤ y1 ∧ y1 ≤ 4) , (4 - y1) * 1 + 0 < (n : Int) → LW 120 (d + 3) 0 0 12 [some (.ref (292 + 10 * u)), some (.int x1)] [] g (fun v g' => v = none ∧ Inv P g' ∧ Gr g' = Gr g0 ∧ Gi g' 1 5 = Gi g0 1 5)) : LW 120 (d + 3) 0 0 12 [some (.ref (292 + 10 * u)), some (.int x1)] [] g (fun v g' => v = none ∧ Inv P g' ∧ Gr g' = Gr g0 ∧ Gi g' 1 5 = Gi g0 1 5) := by
  refine X_iload_n rfl rfl rfl rfl ?_
  refine X_iconst (v := (4 : Int32)) rfl rfl rfl ?_
  refine S_icmp_ge (tgt := 37) rfl rfl rfl hx1 (show (4 : Int32).toInt = 4 from rfl) (fun vh1 => ?_) (fun vh1 => ?_)
  · exact LW_return (st := []) rfl rfl ⟨rfl, V, hG, hK⟩
  · refine X_aload_n rfl rfl rfl rfl ?_
    refine X_getR (a := 299 + 10 * u) rfl rfl rfl ((congrFun V.1 _).trans (tx_s u hu)) rfl ((congrFun (V.2.1 (292 + 10 * u) (by omega)) 7).trans (tx_r7 u hu)) ?_
    refine X_iload_n rfl rfl rfl rfl ?_
    refine X_iconst (v := (-1 : Int32)) rfl rfl rfl ?_
    refine S_iast (I := Inv _) rfl rfl ((congrFun V.1 _).trans (tx_s7 u hu)) hx1 (by omega) (Inv_putI V (by omega) (Or.inl (by omega)) (Q_6 (tx_k7 u hu) (by decide))) (fun g V ve2 vn3 hq => ?_)
    have hG := hq.trans hG
    have hK := (vn3 1 5 (Or.inl (by omega))).trans hK
    refine X_aload_n rfl rfl rfl rfl ?_
    refine X_getR (a := 300 + 10 * u) rfl rfl rfl ((congrFun V.1 _).trans (tx_s u hu)) rfl ((congrFun (V.2.1 (292 + 10 * u) (by omega)) 8).trans (tx_r8 u hu)) ?_
    refine X_iload_n rfl rfl rfl rfl ?_
    refine X_iconst (v := (-1 : Int32)) rfl rfl rfl ?_
    refine S_iast (I := Inv _) rfl rfl ((congrFun V.1 _).trans (tx_s8 u hu)) hx1 (by omega) (Inv_putI V (by omega) (Or.inl (by omega)) (Q_6 (tx_k8 u hu) (by decide))) (fun g V ve4 vn5 hq => ?_)
    have hG := hq.trans hG
    have hK := (vn5 1 5 (Or.inl (by omega))).trans hK
    refine S_iinc (c := 1) rfl rfl rfl hx1 rfl (by omega) (fun vz6 hvz6 => ?_)
    refine LW_ls (ls' := [some (.ref (292 + 10 * u)), some (.int vz6)]) rfl ?_
    refine LW_goto (tgt := 12) rfl rfl ?_
    exact ih12 _ hu V hG hK vz6 vz6.toInt rfl (by omega)    (by omega)
theorem C_X11_clear_T_all {P : Par} {g0 : LH} {d : Nat}  : ∀ n : Nat, (∀ (g : LH) {u : Nat} (hu : u < 4) (V : Inv P g) (hG : Gr g = Gr g0) (hK : Gi g 1 5 = Gi g0 1 5) (x1 : Int32) (y1 : Int) (hx1 : x1.toInt = y1) (hf1 : 0 ≤ y1 ∧ y1 ≤ 4) , (4 - y1) * 1 + 0 < (n : Int) → LW 120 (d + 3) 0 0 12 [some (.ref (292 + 10 * u)), some (.int x1)] [] g (fun v g' => v = none ∧ Inv P g' ∧ Gr g' = Gr g0 ∧ Gi g' 1 5 = Gi g0 1 5)) := by
  intro n
  induction n with
  | zero => exact fun g u hu V hG hK x1 y1 hx1 hf1 hmu => absurd hmu (by omega)
  | succ n ih => exact fun g u hu V hG hK x1 y1 hx1 hf1 hmu => C_X11_clear_T_12  hu V hG hK x1 y1 hx1 hf1 (by omega) ih
set_option maxRecDepth 10000 in
set_option maxHeartbeats 40000000 in
theorem C_X11_clear_T {P : Par} {g : LH} {d : Nat}  {u : Nat} (hu : u < 4) (V : Inv P g)    : LW 120 (d + 3) 0 0 0 (lEnt (mL 120) [.ref (292 + 10 * u)]) [] g (fun v g' => v = none ∧ Inv P g' ∧ Gr g' = Gr g ∧ Gi g' 1 5 = Gi g 1 5) := by
  refine LW_ls (ls' := [some (.ref (292 + 10 * u)), none]) rfl ?_
  have hG : Gr g = Gr g := rfl
  have hK : Gi g 1 5 = Gi g 1 5 := rfl
  refine X_aload_n rfl rfl rfl rfl ?_
  refine X_iconst (v := (0 : Int32)) rfl rfl rfl ?_
  refine S_putI (I := Inv _) rfl rfl rfl ((congrFun V.1 _).trans (tx_s u hu)) rfl rfl rfl rfl (Inv_putI V (by omega) (Or.inl (by omega)) (Q_15_0 (tx_k u hu) (by decide))) (fun g V ve1 vn2 hq => ?_)
  have hG := hq.trans hG
  have hK := (vn2 1 5 (Or.inl (by omega))).trans hK
  refine X_aload_n rfl rfl rfl rfl ?_
  refine X_iconst (v := (0 : Int32)) rfl rfl rfl ?_
  refine S_putI (I := Inv _) rfl rfl rfl ((congrFun V.1 _).trans (tx_s u hu)) rfl rfl rfl rfl (Inv_putI V (by omega) (Or.inl (by omega)) (Q_15_9 (tx_k u hu) (by decide))) (fun g V ve3 vn4 hq => ?_)
  have hG := hq.trans hG
  have hK := (vn4 1 5 (Or.inl (by omega))).trans hK
  have ve1 := (vn4 (292 + 10 * u) 0 (Or.inr (by decide))).trans ve1
  refine X_iconst (v := (0 : Int32)) rfl rfl rfl ?_
  refine X_istore_n (i := 1) (ls' := [some (.ref (292 + 10 * u)), some (.int (0 : Int32))]) rfl rfl rfl (Nat.le_of_ble_eq_true rfl) rfl ?_
  exact (C_X11_clear_T_all (((4 - 0) * 1 + 0) + 1 : Int).toNat) _ hu V hG hK (0 : Int32) 0 (show (0 : Int32).toInt = 0 from rfl) (by omega)    (by omega)
set_option maxRecDepth 10000 in
set_option maxHeartbeats 40000000 in
theorem C_X11_begin_T {P : Par} {g : LH} {d : Nat}  {u : Nat} (hu : u < 4) (V : Inv P g) (x1 : Int32) (y1 : Int) (hx1 : x1.toInt = y1) (hf1 : 0 ≤ y1 ∧ y1 ≤ 12)   : LW 122 (d + 3) 0 0 0 (lEnt (mL 122) [.ref (292 + 10 * u), .int x1]) [] g (fun v g' => v = none ∧ Inv P g' ∧ Gr g' = Gr g ∧ Gi g' 1 5 = Gi g 1 5) := by
  refine LW_ls (ls' := [some (.ref (292 + 10 * u)), some (.int x1)]) rfl ?_
  have hG : Gr g = Gr g := rfl
  have hK : Gi g 1 5 = Gi g 1 5 := rfl
  refine X_aload_n rfl rfl rfl rfl ?_
  refine S_getI rfl rfl rfl ((congrFun V.1 _).trans (tx_s u hu)) rfl (fun vz1 evz1 => ?_)
  have vf2 := K_15_0 (V.2.2.2.2.1 (292 + 10 * u) (0) (by omega)) (tx_k u hu)
  rw [evz1] at vf2
  refine X_bipush (v := (24 : Int32)) rfl rfl rfl ?_
  refine S_icmp_ge (tgt := 39) rfl rfl rfl rfl (show (24 : Int32).toInt = 24 from rfl) (fun vh3 => ?_) (fun vh3 => ?_)
  · exact LW_return (st := []) rfl rfl ⟨rfl, V, hG, hK⟩
  · refine X_aload_n rfl rfl rfl rfl ?_
    refine X_getR (a := 293 + 10 * u) rfl rfl rfl ((congrFun V.1 _).trans (tx_s u hu)) rfl ((congrFun (V.2.1 (292 + 10 * u) (by omega)) 1).trans (tx_r1 u hu)) ?_
    refine X_aload_n rfl rfl rfl rfl ?_
    refine X_getI (v := vz1) rfl rfl rfl ((congrFun V.1 _).trans (tx_s u hu)) rfl evz1 ?_
    refine X_iload_n rfl rfl rfl rfl ?_
    refine S_iast (I := Inv _) rfl rfl ((congrFun V.1 _).trans (tx_s1 u hu)) rfl (by omega) (Inv_putI V (by omega) (Or.inl (by omega)) (Q_0 (tx_k1 u hu))) (fun g V ve4 vn5 hq => ?_)
    have hG := hq.trans hG
    have hK := (vn5 1 5 (Or.inl (by omega))).trans hK
    have evz1 := (vn5 (292 + 10 * u) 0 (Or.inl (by omega))).trans evz1
    refine X_aload_n rfl rfl rfl rfl ?_
    refine X_getR (a := 297 + 10 * u) rfl rfl rfl ((congrFun V.1 _).trans (tx_s u hu)) rfl ((congrFun (V.2.1 (292 + 10 * u) (by omega)) 5).trans (tx_r5 u hu)) ?_
    refine X_aload_n rfl rfl rfl rfl ?_
    refine X_getI (v := vz1) rfl rfl rfl ((congrFun V.1 _).trans (tx_s u hu)) rfl evz1 ?_
    refine X_iconst (v := (0 : Int32)) rfl rfl rfl ?_
    refine S_iast (I := Inv _) rfl rfl ((congrFun V.1 _).trans (tx_s5 u hu)) rfl (by omega) (Inv_putI V (by omega) (Or.inl (by omega)) (Q_1 (tx_k5 u hu) (by decide))) (fun g V ve6 vn7 hq => ?_)
    have hG := hq.trans hG
    have hK := (vn7 1 5 (Or.inl (by omega))).trans hK
    have evz1 := (vn7 (292 + 10 * u) 0 (Or.inl (by omega))).trans evz1
    refine X_aload_n rfl rfl rfl rfl ?_
    refine X_dup rfl rfl rfl ?_
    refine X_getI (v := vz1) rfl rfl rfl ((congrFun V.1 _).trans (tx_s u hu)) rfl evz1 ?_
    refine X_iconst (v := (1 : Int32)) rfl rfl rfl ?_
    refine S_iadd rfl rfl rfl (show (1 : Int32).toInt = 1 from rfl) (by omega) (fun vz8 hvz8 => ?_)
    refine S_putI (I := Inv _) rfl rfl rfl ((congrFun V.1 _).trans (tx_s u hu)) rfl rfl rfl rfl (Inv_putI V (by omega) (Or.inl (by omega)) (Q_15_0 (tx_k u hu) (by omega))) (fun g V ve9 vn10 hq => ?_)
    have hG := hq.trans hG
    have hK := (vn10 1 5 (Or.inl (by omega))).trans hK
    exact LW_return (st := []) rfl rfl ⟨rfl, V, hG, hK⟩
set_option maxRecDepth 10000 in
set_option maxHeartbeats 40000000 in
theorem C_X8_takeKey {P : Par} {g : LH} {d : Nat}  (V : Inv P g) {u : Nat} (hu : u < 4) (hTt : Gr g 338 1 = some (292 + 10 * u)) (x1 : Int32) (y1 : Int) (hx1 : x1.toInt = y1) (hf1 : 13 ≤ y1 ∧ y1 ≤ 16)   : LW 88 (d + 8) 0 0 0 (lEnt (mL 88) [.ref 338, .int x1]) [] g (fun v g' => v = none ∧ Inv P g' ∧ Gr g' = Gr g ∧ Gi g' 1 5 = Gi g 1 5) := by
  refine LW_ls (ls' := [some (.ref 338), some (.int x1)]) rfl ?_
  have hG : Gr g = Gr g := rfl
  have hK : Gi g 1 5 = Gi g 1 5 := rfl
  refine X_aload_n rfl rfl rfl rfl ?_
  refine X_iload_n rfl rfl rfl rfl ?_
  refine X_callV (as := [.int x1]) (st := []) rfl rfl rfl (by decide) rfl (Nat.le_of_ble_eq_true rfl) (by decide) (Nat.le_of_ble_eq_true rfl) rfl ((congrFun V.1 338).trans s_338) (by decide) ?_
  refine LW_ls (ls' := [some (.ref 338), some (.int x1)]) rfl ?_
  refine X_aload_n rfl rfl rfl rfl ?_
  refine S_getI rfl rfl rfl ((congrFun V.1 338).trans s_338) rfl (fun vz1 evz1 => ?_)
  refine X_iconst (v := (1 : Int32)) rfl rfl rfl ?_
  refine S_icmp_ne (tgt := 20) rfl rfl rfl rfl (show (1 : Int32).toInt = 1 from rfl) (fun vh2 => ?_) (fun vh2 => ?_)
  · refine X_iconst (v := (0 : Int32)) rfl rfl rfl ?_
    refine LW_ireturn (st := []) rfl rfl rfl ?_
    refine S_if_ne (tgt := 14) rfl rfl rfl (show (0 : Int32).toInt = 0 from rfl) (fun q => absurd q (by omega)) (fun vh3 => ?_)
    refine X_aload_n rfl rfl rfl rfl ?_
    refine X_iconst (v := (1 : Int32)) rfl rfl rfl ?_
    refine Y_callV (as := [.int (1 : Int32)]) (st := []) rfl rfl rfl (by decide) rfl (Nat.le_of_ble_eq_true rfl) (by decide) (Nat.le_of_ble_eq_true rfl) rfl ((congrFun V.1 338).trans s_338) (by decide) (C_X8_fail V hu ((congrFun (congrFun hG 338) 1).trans hTt) (1 : Int32) 1 (show (1 : Int32).toInt = 1 from rfl) (by omega) ) ?_
    rintro _ g ⟨vr4, rfl, hrvr40, hrvr41, V, hq, hk⟩
    have hG := hq.trans hG
    have hK := hk.trans hK
    refine X_pop rfl rfl rfl ?_
    refine X_aload_n rfl rfl rfl rfl ?_
    refine Y_callV (as := []) (st := []) rfl rfl rfl (by decide) rfl (Nat.le_of_ble_eq_true rfl) (by decide) (Nat.le_of_ble_eq_true rfl) rfl ((congrFun V.1 338).trans s_338) (by decide) (C_X8_next V hu ((congrFun (congrFun hG 338) 1).trans hTt)  ) ?_
    rintro _ g ⟨rfl, V, hq, hk⟩
    have hG := hq.trans hG
    have hK := hk.trans hK
    exact LW_return (st := []) rfl rfl ⟨rfl, V, hG, hK⟩
  · refine X_aload_n rfl rfl rfl rfl ?_
    refine S_getI rfl rfl rfl ((congrFun V.1 338).trans s_338) rfl (fun vz6 evz6 => ?_)
    refine X_iload_n rfl rfl rfl rfl ?_
    refine S_icmp_ne (tgt := 20) rfl rfl rfl rfl hx1 (fun vh7 => ?_) (fun vh7 => ?_)
    · refine X_iconst (v := (0 : Int32)) rfl rfl rfl ?_
      refine LW_ireturn (st := []) rfl rfl rfl ?_
      refine S_if_ne (tgt := 14) rfl rfl rfl (show (0 : Int32).toInt = 0 from rfl) (fun q => absurd q (by omega)) (fun vh8 => ?_)
      refine X_aload_n rfl rfl rfl rfl ?_
      refine X_iconst (v := (1 : Int32)) rfl rfl rfl ?_
      refine Y_callV (as := [.int (1 : Int32)]) (st := []) rfl rfl rfl (by decide) rfl (Nat.le_of_ble_eq_true rfl) (by decide) (Nat.le_of_ble_eq_true rfl) rfl ((congrFun V.1 338).trans s_338) (by decide) (C_X8_fail V hu ((congrFun (congrFun hG 338) 1).trans hTt) (1 : Int32) 1 (show (1 : Int32).toInt = 1 from rfl) (by omega) ) ?_
      rintro _ g ⟨vr9, rfl, hrvr90, hrvr91, V, hq, hk⟩
      have hG := hq.trans hG
      have hK := hk.trans hK
      refine X_pop rfl rfl rfl ?_
      refine X_aload_n rfl rfl rfl rfl ?_
      refine Y_callV (as := []) (st := []) rfl rfl rfl (by decide) rfl (Nat.le_of_ble_eq_true rfl) (by decide) (Nat.le_of_ble_eq_true rfl) rfl ((congrFun V.1 338).trans s_338) (by decide) (C_X8_next V hu ((congrFun (congrFun hG 338) 1).trans hTt)  ) ?_
      rintro _ g ⟨rfl, V, hq, hk⟩
      have hG := hq.trans hG
      have hK := hk.trans hK
      exact LW_return (st := []) rfl rfl ⟨rfl, V, hG, hK⟩
    · refine X_iconst (v := (1 : Int32)) rfl rfl rfl ?_
      refine LW_goto (tgt := 21) rfl rfl ?_
      refine LW_ireturn (st := []) rfl rfl rfl ?_
      refine S_if_ne (tgt := 14) rfl rfl rfl (show (1 : Int32).toInt = 1 from rfl) (fun vh11 => ?_) (fun q => absurd q (by omega))
      refine X_aload_n rfl rfl rfl rfl ?_
      refine Y_callV (as := []) (st := []) rfl rfl rfl (by decide) rfl (Nat.le_of_ble_eq_true rfl) (by decide) (Nat.le_of_ble_eq_true rfl) rfl ((congrFun V.1 338).trans s_338) (by decide) (C_X8_next V hu ((congrFun (congrFun hG 338) 1).trans hTt)  ) ?_
      rintro _ g ⟨rfl, V, hq, hk⟩
      have hG := hq.trans hG
      have hK := hk.trans hK
      exact LW_return (st := []) rfl rfl ⟨rfl, V, hG, hK⟩
set_option maxRecDepth 10000 in
set_option maxHeartbeats 40000000 in
theorem C_X11_addToRow_T {P : Par} {g : LH} {d : Nat}  {u : Nat} (hu : u < 4) (V : Inv P g) (x1 : Int32) (y1 : Int) (hx1 : x1.toInt = y1) (hf1 : 0 ≤ y1 ∧ y1 ≤ 23) (x2 : Int32) (y2 : Int) (hx2 : x2.toInt = y2) (hf2 : 0 ≤ y2 ∧ y2 ≤ 25)   : LW 124 (d + 3) 0 0 0 (lEnt (mL 124) [.ref (292 + 10 * u), .int x1, .int x2]) [] g (fun v g' => v = none ∧ Inv P g' ∧ Gr g' = Gr g ∧ Gi g' 1 5 = Gi g 1 5) := by
  refine LW_ls (ls' := [some (.ref (292 + 10 * u)), some (.int x1), some (.int x2)]) rfl ?_
  have hG : Gr g = Gr g := rfl
  have hK : Gi g 1 5 = Gi g 1 5 := rfl
  refine X_iload_n rfl rfl rfl rfl ?_
  refine S_if_lt (tgt := 50) rfl rfl rfl hx1 (fun q => absurd q (by omega)) (fun vh1 => ?_)
  refine X_iload_n rfl rfl rfl rfl ?_
  refine X_aload_n rfl rfl rfl rfl ?_
  refine S_getI rfl rfl rfl ((congrFun V.1 _).trans (tx_s u hu)) rfl (fun vz2 evz2 => ?_)
  have vf3 := K_15_0 (V.2.2.2.2.1 (292 + 10 * u) (0) (by omega)) (tx_k u hu)
  rw [evz2] at vf3
  refine S_icmp_ge (tgt := 50) rfl rfl rfl hx1 rfl (fun vh4 => ?_) (fun vh4 => ?_)
  · exact LW_return (st := []) rfl rfl ⟨rfl, V, hG, hK⟩
  · refine X_aload_n rfl rfl rfl rfl ?_
    refine X_getR (a := 297 + 10 * u) rfl rfl rfl ((congrFun V.1 _).trans (tx_s u hu)) rfl ((congrFun (V.2.1 (292 + 10 * u) (by omega)) 5).trans (tx_r5 u hu)) ?_
    refine X_iload_n rfl rfl rfl rfl ?_
    refine S_iald rfl rfl ((congrFun V.1 _).trans (tx_s5 u hu)) hx1 (by omega) (fun vz5 evz5 => ?_)
    have vf6 := K_1 (V.2.2.2.2.1 (297 + 10 * u) ((y1 : Int).toNat) (by omega)) (tx_k5 u hu)
    rw [evz5] at vf6
    refine X_bipush (v := (8 : Int32)) rfl rfl rfl ?_
    refine S_icmp_ge (tgt := 50) rfl rfl rfl rfl (show (8 : Int32).toInt = 8 from rfl) (fun vh7 => ?_) (fun vh7 => ?_)
    · exact LW_return (st := []) rfl rfl ⟨rfl, V, hG, hK⟩
    · refine X_aload_n rfl rfl rfl rfl ?_
      refine X_getR (a := 298 + 10 * u) rfl rfl rfl ((congrFun V.1 _).trans (tx_s u hu)) rfl ((congrFun (V.2.1 (292 + 10 * u) (by omega)) 6).trans (tx_r6 u hu)) ?_
      refine X_iload_n rfl rfl rfl rfl ?_
      refine X_bipush (v := (8 : Int32)) rfl rfl rfl ?_
      refine S_imul rfl rfl hx1 (show (8 : Int32).toInt = 8 from rfl) (by omega) (fun vz8 hvz8 => ?_)
      refine X_aload_n rfl rfl rfl rfl ?_
      refine X_getR (a := 297 + 10 * u) rfl rfl rfl ((congrFun V.1 _).trans (tx_s u hu)) rfl ((congrFun (V.2.1 (292 + 10 * u) (by omega)) 5).trans (tx_r5 u hu)) ?_
      refine X_iload_n rfl rfl rfl rfl ?_
      refine S_iald_v rfl rfl ((congrFun V.1 _).trans (tx_s5 u hu)) hx1 (by omega) evz5 ?_
      refine S_iadd rfl rfl rfl rfl (by omega) (fun vz10 hvz10 => ?_)
      refine X_iload_n rfl rfl rfl rfl ?_
      refine S_iast (I := Inv _) rfl rfl ((congrFun V.1 _).trans (tx_s6 u hu)) rfl (by omega) (Inv_putI V (by omega) (Or.inl (by omega)) (Q_3 (tx_k6 u hu) (by omega))) (fun g V ve11 vn12 hq => ?_)
      have hG := hq.trans hG
      have hK := (vn12 1 5 (Or.inl (by omega))).trans hK
      have evz2 := (vn12 (292 + 10 * u) 0 (Or.inl (by omega))).trans evz2
      have evz5 := (vn12 (297 + 10 * u) ((y1 : Int).toNat) (Or.inl (by omega))).trans evz5
      refine X_aload_n rfl rfl rfl rfl ?_
      refine X_getR (a := 297 + 10 * u) rfl rfl rfl ((congrFun V.1 _).trans (tx_s u hu)) rfl ((congrFun (V.2.1 (292 + 10 * u) (by omega)) 5).trans (tx_r5 u hu)) ?_
      refine X_iload_n rfl rfl rfl rfl ?_
      refine X_dup2 rfl rfl rfl rfl ?_
      refine S_iald_v rfl rfl ((congrFun V.1 _).trans (tx_s5 u hu)) hx1 (by omega) evz5 ?_
      refine X_iconst (v := (1 : Int32)) rfl rfl rfl ?_
      refine S_iadd rfl rfl rfl (show (1 : Int32).toInt = 1 from rfl) (by omega) (fun vz14 hvz14 => ?_)
      refine S_iast (I := Inv _) rfl rfl ((congrFun V.1 _).trans (tx_s5 u hu)) hx1 (by omega) (Inv_putI V (by omega) (Or.inl (by omega)) (Q_1 (tx_k5 u hu) (by omega))) (fun g V ve15 vn16 hq => ?_)
      have hG := hq.trans hG
      have hK := (vn16 1 5 (Or.inl (by omega))).trans hK
      have evz2 := (vn16 (292 + 10 * u) 0 (Or.inl (by omega))).trans evz2
      exact LW_return (st := []) rfl rfl ⟨rfl, V, hG, hK⟩
set_option maxRecDepth 10000 in
set_option maxHeartbeats 40000000 in
theorem C_J6_bitCount_0f7a4 {P : Par} {g : LH} {d : Nat}  (V : Inv P g) (x0 : Int32) (y0 : Int) (hx0 : x0.toInt = y0)   : LW 319 (d + 3) 0 0 0 (lEnt (mL 319) [.int x0]) [] g (fun v g' => ∃ r : Int32, v = some (.int r) ∧ 0 ≤ r.toInt ∧ r.toInt ≤ 63 ∧ g = g') := by
  refine LW_ls (ls' := [some (.int x0)]) rfl ?_
  refine X_iload_n rfl rfl rfl rfl ?_
  refine X_iload_n rfl rfl rfl rfl ?_
  refine X_iconst (v := (1 : Int32)) rfl rfl rfl ?_
  refine S_iushrT rfl rfl (fun vz1 => ?_)
  refine X_ldcw (v := (1431655765 : Int32)) rfl rfl rfl ?_
  refine S_iandT rfl rfl (fun vz2 => ?_)
  refine S_isubT rfl rfl (fun vz3 => ?_)
  refine X_istore_n (i := 0) (ls' := [some (.int vz3)]) rfl rfl rfl (Nat.le_of_ble_eq_true rfl) rfl ?_
  refine X_iload_n rfl rfl rfl rfl ?_
  refine X_ldcw (v := (858993459 : Int32)) rfl rfl rfl ?_
  refine S_iandT rfl rfl (fun vz4 => ?_)
  refine X_iload_n rfl rfl rfl rfl ?_
  refine X_iconst (v := (2 : Int32)) rfl rfl rfl ?_
  refine S_iushrT rfl rfl (fun vz5 => ?_)
  refine X_ldcw (v := (858993459 : Int32)) rfl rfl rfl ?_
  refine S_iandT rfl rfl (fun vz6 => ?_)
  refine S_iaddT rfl rfl (fun vz7 => ?_)
  refine X_istore_n (i := 0) (ls' := [some (.int vz7)]) rfl rfl rfl (Nat.le_of_ble_eq_true rfl) rfl ?_
  refine X_iload_n rfl rfl rfl rfl ?_
  refine X_iload_n rfl rfl rfl rfl ?_
  refine X_iconst (v := (4 : Int32)) rfl rfl rfl ?_
  refine S_iushrT rfl rfl (fun vz8 => ?_)
  refine S_iaddT rfl rfl (fun vz9 => ?_)
  refine X_ldcw (v := (252645135 : Int32)) rfl rfl rfl ?_
  refine S_iandT rfl rfl (fun vz10 => ?_)
  refine X_istore_n (i := 0) (ls' := [some (.int vz10)]) rfl rfl rfl (Nat.le_of_ble_eq_true rfl) rfl ?_
  refine X_iload_n rfl rfl rfl rfl ?_
  refine X_iload_n rfl rfl rfl rfl ?_
  refine X_bipush (v := (8 : Int32)) rfl rfl rfl ?_
  refine S_iushrT rfl rfl (fun vz11 => ?_)
  refine S_iaddT rfl rfl (fun vz12 => ?_)
  refine X_istore_n (i := 0) (ls' := [some (.int vz12)]) rfl rfl rfl (Nat.le_of_ble_eq_true rfl) rfl ?_
  refine X_iload_n rfl rfl rfl rfl ?_
  refine X_iload_n rfl rfl rfl rfl ?_
  refine X_bipush (v := (16 : Int32)) rfl rfl rfl ?_
  refine S_iushrT rfl rfl (fun vz13 => ?_)
  refine S_iaddT rfl rfl (fun vz14 => ?_)
  refine X_istore_n (i := 0) (ls' := [some (.int vz14)]) rfl rfl rfl (Nat.le_of_ble_eq_true rfl) rfl ?_
  refine X_iload_n rfl rfl rfl rfl ?_
  refine X_bipush (v := (63 : Int32)) rfl rfl rfl ?_
  refine S_iandR (k := 6) rfl rfl rfl (fun vz15 hvz15 => ?_)
  have hr := (rfl : vz15.toInt = vz15.toInt)
  exact LW_ireturn (st := []) rfl rfl rfl ⟨_, rfl, by omega, by omega, rfl⟩
set_option maxRecDepth 10000 in
set_option maxHeartbeats 40000000 in
theorem C_X8_takeLetters_53 {P : Par} {g g0 : LH} {d n : Nat}  (V : Inv P g) (hG : Gr g = Gr g0) (hK : Gi g 1 5 = Gi g0 1 5) {u : Nat} (hu : u < 4) (hTt : Gr g0 338 1 = some (292 + 10 * u)) (x1 : Int32) (y1 : Int) (hx1 : x1.toInt = y1) (hf1 : 0 ≤ y1 ∧ y1 ≤ 1) (x2 : Int32) (y2 : Int) (hx2 : x2.toInt = y2) (x3 : Int32) (y3 : Int) (hx3 : x3.toInt = y3) (x4 : Int32) (y4 : Int) (hx4 : x4.toInt = y4) (hf4 : 0 ≤ y4 ∧ y4 ≤ 300) (o5 : Option Value)  (hmu : (300 - y4) * 1 + 0 < (n : Int) + 1) (ih53 : ∀ (g : LH) (V : Inv P g) (hG : Gr g = Gr g0) (hK : Gi g 1 5 = Gi g0 1 5) {u : Nat} (hu : u < 4) (hTt : Gr g0 338 1 = some (292 + 10 * u)) (x1 : Int32) (y1 : Int) (hx1 : x1.toInt = y1) (hf1 : 0 ≤ y1 ∧ y1 ≤ 1) (x2 : Int32) (y2 : Int) (hx2 : x2.toInt = y2) (x3 : Int32) (y3 : Int) (hx3 : x3.toInt = y3) (x4 : Int32) (y4 : Int) (hx4 : x4.toInt = y4) (hf4 : 0 ≤ y4 ∧ y4 ≤ 300) (o5 : Option Value) , (300 - y4) * 1 + 0 < (n : Int) → LW 96 (d + 8) 0 0 53 [some (.ref 338), some (.int x1), some (.int x2), some (.int x3), some (.int x4), o5] [] g (fun v g' => ∃ r : Int32, v = some (.int r) ∧ Inv P g' ∧ Gr g' = Gr g0 ∧ Gi g' 1 5 = Gi g0 1 5)) : LW 96 (d + 8) 0 0 53 [some (.ref 338), some (.int x1), some (.int x2), some (.int x3), some (.int x4), o5] [] g (fun v g' => ∃ r : Int32, v = some (.int r) ∧ Inv P g' ∧ Gr g' = Gr g0 ∧ Gi g' 1 5 = Gi g0 1 5) := by
  refine X_iload rfl rfl rfl ?_
  refine X_iload_n rfl rfl rfl rfl ?_
  refine S_icmp_ge (tgt := 141) rfl rfl rfl hx4 hx3 (fun vh1 => ?_) (fun vh1 => ?_)
  · refine X_iload_n rfl rfl rfl rfl ?_
    refine S_if_eq (tgt := 149) rfl rfl rfl hx1 (fun vh2 => ?_) (fun vh2 => ?_)
    · refine X_iload_n rfl rfl rfl rfl ?_
      refine Y_callS (as := [.int x2]) (st := []) rfl rfl rfl (by decide) rfl (Nat.le_of_ble_eq_true rfl) (by decide) (Nat.le_of_ble_eq_true rfl) rfl (C_J6_bitCount_0f7a4 V x2 y2 hx2 ) ?_
      rintro _ g' ⟨vr3, rfl, hrvr30, hrvr31, hgg⟩
      subst hgg
      refine X_bipush (v := (8 : Int32)) rfl rfl rfl ?_
      refine S_icmp_le (tgt := 165) rfl rfl rfl rfl (show (8 : Int32).toInt = 8 from rfl) (fun vh4 => ?_) (fun vh4 => ?_)
      · refine X_aload_n rfl rfl rfl rfl ?_
        refine Y_callV (as := []) (st := []) rfl rfl rfl (by decide) rfl (Nat.le_of_ble_eq_true rfl) (by decide) (Nat.le_of_ble_eq_true rfl) rfl ((congrFun V.1 338).trans s_338) (by decide) (C_X8_next V hu ((congrFun (congrFun hG 338) 1).trans hTt)  ) ?_
        rintro _ g ⟨rfl, V, hq, hk⟩
        have hG := hq.trans hG
        have hK := hk.trans hK
        refine X_iload_n rfl rfl rfl rfl ?_
        exact LW_ireturn (st := []) rfl rfl rfl ⟨_, rfl, V, hG, hK⟩
      · refine X_aload_n rfl rfl rfl rfl ?_
        refine X_bipush (v := (7 : Int32)) rfl rfl rfl ?_
        refine Y_callV (as := [.int (7 : Int32)]) (st := []) rfl rfl rfl (by decide) rfl (Nat.le_of_ble_eq_true rfl) (by decide) (Nat.le_of_ble_eq_true rfl) rfl ((congrFun V.1 338).trans s_338) (by decide) (C_X8_fail V hu ((congrFun (congrFun hG 338) 1).trans hTt) (7 : Int32) 7 (show (7 : Int32).toInt = 7 from rfl) (by omega) ) ?_
        rintro _ g ⟨vr6, rfl, hrvr60, hrvr61, V, hq, hk⟩
        have hG := hq.trans hG
        have hK := hk.trans hK
        exact LW_ireturn (st := []) rfl rfl rfl ⟨_, rfl, V, hG, hK⟩
    · refine X_iload_n rfl rfl rfl rfl ?_
      refine LW_goto (tgt := 153) rfl rfl ?_
      refine X_bipush (v := (8 : Int32)) rfl rfl rfl ?_
      refine S_icmp_le (tgt := 165) rfl rfl rfl hx3 (show (8 : Int32).toInt = 8 from rfl) (fun vh7 => ?_) (fun vh7 => ?_)
      · refine X_aload_n rfl rfl rfl rfl ?_
        refine Y_callV (as := []) (st := []) rfl rfl rfl (by decide) rfl (Nat.le_of_ble_eq_true rfl) (by decide) (Nat.le_of_ble_eq_true rfl) rfl ((congrFun V.1 338).trans s_338) (by decide) (C_X8_next V hu ((congrFun (congrFun hG 338) 1).trans hTt)  ) ?_
        rintro _ g ⟨rfl, V, hq, hk⟩
        have hG := hq.trans hG
        have hK := hk.trans hK
        refine X_iload_n rfl rfl rfl rfl ?_
        exact LW_ireturn (st := []) rfl rfl rfl ⟨_, rfl, V, hG, hK⟩
      · refine X_aload_n rfl rfl rfl rfl ?_
        refine X_bipush (v := (7 : Int32)) rfl rfl rfl ?_
        refine Y_callV (as := [.int (7 : Int32)]) (st := []) rfl rfl rfl (by decide) rfl (Nat.le_of_ble_eq_true rfl) (by decide) (Nat.le_of_ble_eq_true rfl) rfl ((congrFun V.1 338).trans s_338) (by decide) (C_X8_fail V hu ((congrFun (congrFun hG 338) 1).trans hTt) (7 : Int32) 7 (show (7 : Int32).toInt = 7 from rfl) (by omega) ) ?_
        rintro _ g ⟨vr9, rfl, hrvr90, hrvr91, V, hq, hk⟩
        have hG := hq.trans hG
        have hK := hk.trans hK
        exact LW_ireturn (st := []) rfl rfl rfl ⟨_, rfl, V, hG, hK⟩
  · refine X_aload_n rfl rfl rfl rfl ?_
    refine S_getI rfl rfl rfl ((congrFun V.1 338).trans s_338) rfl (fun vz10 evz10 => ?_)
    have vf11 := K_17_5 (V.2.2.2.2.1 (338) (5) (Nat.le_of_ble_eq_true rfl)) rk_338
    rw [evz10] at vf11
    refine X_iload rfl rfl rfl ?_
    refine S_iadd rfl rfl rfl hx4 (by omega) (fun vz12 hvz12 => ?_)
    refine X_aload_n rfl rfl rfl rfl ?_
    refine X_getR (a := 332) rfl rfl rfl ((congrFun V.1 338).trans s_338) rfl ((V.2.2.1 0 (by decide)).trans r_338_0) ?_
    refine S_getI rfl rfl rfl ((congrFun V.1 332).trans s_332) rfl (fun vz13 evz13 => ?_)
    have vf14 := K_16_0 (V.2.2.2.2.1 (332) (0) (Nat.le_of_ble_eq_true rfl)) rk_332
    rw [evz13] at vf14
    refine S_icmp_ge (tgt := 141) rfl rfl rfl rfl rfl (fun vh15 => ?_) (fun vh15 => ?_)
    · refine X_iload_n rfl rfl rfl rfl ?_
      refine S_if_eq (tgt := 149) rfl rfl rfl hx1 (fun vh16 => ?_) (fun vh16 => ?_)
      · refine X_iload_n rfl rfl rfl rfl ?_
        refine Y_callS (as := [.int x2]) (st := []) rfl rfl rfl (by decide) rfl (Nat.le_of_ble_eq_true rfl) (by decide) (Nat.le_of_ble_eq_true rfl) rfl (C_J6_bitCount_0f7a4 V x2 y2 hx2 ) ?_
        rintro _ g' ⟨vr17, rfl, hrvr170, hrvr171, hgg⟩
        subst hgg
        refine X_bipush (v := (8 : Int32)) rfl rfl rfl ?_
        refine S_icmp_le (tgt := 165) rfl rfl rfl rfl (show (8 : Int32).toInt = 8 from rfl) (fun vh18 => ?_) (fun vh18 => ?_)
        · refine X_aload_n rfl rfl rfl rfl ?_
          refine Y_callV (as := []) (st := []) rfl rfl rfl (by decide) rfl (Nat.le_of_ble_eq_true rfl) (by decide) (Nat.le_of_ble_eq_true rfl) rfl ((congrFun V.1 338).trans s_338) (by decide) (C_X8_next V hu ((congrFun (congrFun hG 338) 1).trans hTt)  ) ?_
          rintro _ g ⟨rfl, V, hq, hk⟩
          have hG := hq.trans hG
          have hK := hk.trans hK
          refine X_iload_n rfl rfl rfl rfl ?_
          exact LW_ireturn (st := []) rfl rfl rfl ⟨_, rfl, V, hG, hK⟩
        · refine X_aload_n rfl rfl rfl rfl ?_
          refine X_bipush (v := (7 : Int32)) rfl rfl rfl ?_
          refine Y_callV (as := [.int (7 : Int32)]) (st := []) rfl rfl rfl (by decide) rfl (Nat.le_of_ble_eq_true rfl) (by decide) (Nat.le_of_ble_eq_true rfl) rfl ((congrFun V.1 338).trans s_338) (by decide) (C_X8_fail V hu ((congrFun (congrFun hG 338) 1).trans hTt) (7 : Int32) 7 (show (7 : Int32).toInt = 7 from rfl) (by omega) ) ?_
          rintro _ g ⟨vr20, rfl, hrvr200, hrvr201, V, hq, hk⟩
          have hG := hq.trans hG
          have hK := hk.trans hK
          exact LW_ireturn (st := []) rfl rfl rfl ⟨_, rfl, V, hG, hK⟩
      · refine X_iload_n rfl rfl rfl rfl ?_
        refine LW_goto (tgt := 153) rfl rfl ?_
        refine X_bipush (v := (8 : Int32)) rfl rfl rfl ?_
        refine S_icmp_le (tgt := 165) rfl rfl rfl hx3 (show (8 : Int32).toInt = 8 from rfl) (fun vh21 => ?_) (fun vh21 => ?_)
        · refine X_aload_n rfl rfl rfl rfl ?_
          refine Y_callV (as := []) (st := []) rfl rfl rfl (by decide) rfl (Nat.le_of_ble_eq_true rfl) (by decide) (Nat.le_of_ble_eq_true rfl) rfl ((congrFun V.1 338).trans s_338) (by decide) (C_X8_next V hu ((congrFun (congrFun hG 338) 1).trans hTt)  ) ?_
          rintro _ g ⟨rfl, V, hq, hk⟩
          have hG := hq.trans hG
          have hK := hk.trans hK
          refine X_iload_n rfl rfl rfl rfl ?_
          exact LW_ireturn (st := []) rfl rfl rfl ⟨_, rfl, V, hG, hK⟩
        · refine X_aload_n rfl rfl rfl rfl ?_
          refine X_bipush (v := (7 : Int32)) rfl rfl rfl ?_
          refine Y_callV (as := [.int (7 : Int32)]) (st := []) rfl rfl rfl (by decide) rfl (Nat.le_of_ble_eq_true rfl) (by decide) (Nat.le_of_ble_eq_true rfl) rfl ((congrFun V.1 338).trans s_338) (by decide) (C_X8_fail V hu ((congrFun (congrFun hG 338) 1).trans hTt) (7 : Int32) 7 (show (7 : Int32).toInt = 7 from rfl) (by omega) ) ?_
          rintro _ g ⟨vr23, rfl, hrvr230, hrvr231, V, hq, hk⟩
          have hG := hq.trans hG
          have hK := hk.trans hK
          exact LW_ireturn (st := []) rfl rfl rfl ⟨_, rfl, V, hG, hK⟩
    · refine X_aload_n rfl rfl rfl rfl ?_
      refine X_getR (a := 332) rfl rfl rfl ((congrFun V.1 338).trans s_338) rfl ((V.2.2.1 0 (by decide)).trans r_338_0) ?_
      refine X_getR (a := 333) rfl rfl rfl ((congrFun V.1 332).trans s_332) rfl ((congrFun (V.2.1 332 (by decide)) 1).trans r_332_1) ?_
      refine X_aload_n rfl rfl rfl rfl ?_
      refine X_getI (v := vz10) rfl rfl rfl ((congrFun V.1 338).trans s_338) rfl evz10 ?_
      refine X_iload rfl rfl rfl ?_
      refine S_iadd rfl rfl rfl hx4 (by omega) (fun vz24 hvz24 => ?_)
      refine S_iald rfl rfl ((congrFun V.1 333).trans s_333) rfl (by omega) (fun vz25 evz25 => ?_)
      have vf26 := K_7 (V.2.2.2.2.1 (333) ((vz24.toInt : Int).toNat) (Nat.le_of_ble_eq_true rfl)) rk_333
      rw [evz25] at vf26
      refine X_bipush (v := (97 : Int32)) rfl rfl rfl ?_
      refine S_isub rfl rfl rfl (show (97 : Int32).toInt = 97 from rfl) (by omega) (fun vz27 hvz27 => ?_)
      refine X_istore (i := 5) (ls' := [some (.ref 338), some (.int x1), some (.int x2), some (.int x3), some (.int x4), some (.int vz27)]) rfl rfl (Nat.le_of_ble_eq_true rfl) rfl ?_
      refine X_iload rfl rfl rfl ?_
      refine X_callN (as := [.int vz27]) (st := []) rfl rfl rfl (by decide) rfl (Nat.le_of_ble_eq_true rfl) (by decide) (Nat.le_of_ble_eq_true rfl) rfl ?_
      refine LW_ls (ls' := [some (.int vz27)]) rfl ?_
      refine X_iload_n rfl rfl rfl rfl ?_
      refine S_if_lt (tgt := 14) rfl rfl rfl rfl (fun vh28 => ?_) (fun vh28 => ?_)
      · refine X_iconst (v := (0 : Int32)) rfl rfl rfl ?_
        refine LW_ireturn (st := []) rfl rfl rfl ?_
        refine S_if_ne (tgt := 111) rfl rfl rfl (show (0 : Int32).toInt = 0 from rfl) (fun q => absurd q (by omega)) (fun vh29 => ?_)
        refine X_aload_n rfl rfl rfl rfl ?_
        refine X_bipush (v := (7 : Int32)) rfl rfl rfl ?_
        refine Y_callV (as := [.int (7 : Int32)]) (st := []) rfl rfl rfl (by decide) rfl (Nat.le_of_ble_eq_true rfl) (by decide) (Nat.le_of_ble_eq_true rfl) rfl ((congrFun V.1 338).trans s_338) (by decide) (C_X8_fail V hu ((congrFun (congrFun hG 338) 1).trans hTt) (7 : Int32) 7 (show (7 : Int32).toInt = 7 from rfl) (by omega) ) ?_
        rintro _ g ⟨vr30, rfl, hrvr300, hrvr301, V, hq, hk⟩
        have hG := hq.trans hG
        have hK := hk.trans hK
        exact LW_ireturn (st := []) rfl rfl rfl ⟨_, rfl, V, hG, hK⟩
      · refine X_iload_n rfl rfl rfl rfl ?_
        refine X_bipush (v := (26 : Int32)) rfl rfl rfl ?_
        refine S_icmp_ge (tgt := 14) rfl rfl rfl rfl (show (26 : Int32).toInt = 26 from rfl) (fun vh31 => ?_) (fun vh31 => ?_)
        · refine X_iconst (v := (0 : Int32)) rfl rfl rfl ?_
          refine LW_ireturn (st := []) rfl rfl rfl ?_
          refine S_if_ne (tgt := 111) rfl rfl rfl (show (0 : Int32).toInt = 0 from rfl) (fun q => absurd q (by omega)) (fun vh32 => ?_)
          refine X_aload_n rfl rfl rfl rfl ?_
          refine X_bipush (v := (7 : Int32)) rfl rfl rfl ?_
          refine Y_callV (as := [.int (7 : Int32)]) (st := []) rfl rfl rfl (by decide) rfl (Nat.le_of_ble_eq_true rfl) (by decide) (Nat.le_of_ble_eq_true rfl) rfl ((congrFun V.1 338).trans s_338) (by decide) (C_X8_fail V hu ((congrFun (congrFun hG 338) 1).trans hTt) (7 : Int32) 7 (show (7 : Int32).toInt = 7 from rfl) (by omega) ) ?_
          rintro _ g ⟨vr33, rfl, hrvr330, hrvr331, V, hq, hk⟩
          have hG := hq.trans hG
          have hK := hk.trans hK
          exact LW_ireturn (st := []) rfl rfl rfl ⟨_, rfl, V, hG, hK⟩
        · refine X_iconst (v := (1 : Int32)) rfl rfl rfl ?_
          refine LW_goto (tgt := 15) rfl rfl ?_
          refine LW_ireturn (st := []) rfl rfl rfl ?_
          refine S_if_ne (tgt := 111) rfl rfl rfl (show (1 : Int32).toInt = 1 from rfl) (fun vh34 => ?_) (fun q => absurd q (by omega))
          refine X_iload_n rfl rfl rfl rfl ?_
          refine X_iconst (v := (1 : Int32)) rfl rfl rfl ?_
          refine X_iload rfl rfl rfl ?_
          refine S_ishlT rfl rfl (fun vz35 => ?_)
          refine S_iorT rfl rfl (fun vz36 => ?_)
          refine X_istore_n (i := 2) (ls' := [some (.ref 338), some (.int x1), some (.int vz36), some (.int x3), some (.int x4), some (.int vz27)]) rfl rfl rfl (Nat.le_of_ble_eq_true rfl) rfl ?_
          refine X_iload_n rfl rfl rfl rfl ?_
          refine S_if_eq (tgt := 135) rfl rfl rfl hx1 (fun vh37 => ?_) (fun vh37 => ?_)
          · refine S_iinc (c := 1) rfl rfl rfl hx4 rfl (by omega) (fun vz38 hvz38 => ?_)
            refine LW_ls (ls' := [some (.ref 338), some (.int x1), some (.int vz36), some (.int x3), some (.int vz38), some (.int vz27)]) rfl ?_
            refine LW_goto (tgt := 53) rfl rfl ?_
            exact ih53 _ V hG hK hu hTt x1 y1 hx1 (by omega) vz36 vz36.toInt rfl x3 y3 hx3 vz38 vz38.toInt rfl (by omega) (some (.int vz27))    (by omega)
          · refine X_aload_n rfl rfl rfl rfl ?_
            refine X_getR (a := 292 + 10 * u) rfl rfl rfl ((congrFun V.1 338).trans s_338) rfl ((congrFun (congrFun hG 338) 1).trans hTt) ?_
            refine X_aload_n rfl rfl rfl rfl ?_
            refine S_getI rfl rfl rfl ((congrFun V.1 338).trans s_338) rfl (fun vz39 evz39 => ?_)
            have vf40 := K_17_6 (V.2.2.2.2.1 (338) (6) (Nat.le_of_ble_eq_true rfl)) rk_338
            rw [evz39] at vf40
            refine X_iload rfl rfl rfl ?_
            refine Y_callV (as := [.int vz39, .int vz27]) (st := []) rfl rfl rfl (by decide) rfl (Nat.le_of_ble_eq_true rfl) (by decide) (Nat.le_of_ble_eq_true rfl) rfl ((congrFun V.1 _).trans (tx_s u hu)) (by decide) (C_X11_addToRow_T hu V vz39 vz39.toInt rfl (by omega) vz27 vz27.toInt rfl (by omega) ) ?_
            rintro _ g ⟨rfl, V, hq, hk⟩
            have hG := hq.trans hG
            have hK := hk.trans hK
            refine S_iinc (c := 1) rfl rfl rfl hx4 rfl (by omega) (fun vz42 hvz42 => ?_)
            refine LW_ls (ls' := [some (.ref 338), some (.int x1), some (.int vz36), some (.int x3), some (.int vz42), some (.int vz27)]) rfl ?_
            refine LW_goto (tgt := 53) rfl rfl ?_
            exact ih53 _ V hG hK hu hTt x1 y1 hx1 (by omega) vz36 vz36.toInt rfl x3 y3 hx3 vz42 vz42.toInt rfl (by omega) (some (.int vz27))    (by omega)
theorem C_X8_takeLetters_all {P : Par} {g0 : LH} {d : Nat}  : ∀ n : Nat, (∀ (g : LH) (V : Inv P g) (hG : Gr g = Gr g0) (hK : Gi g 1 5 = Gi g0 1 5) {u : Nat} (hu : u < 4) (hTt : Gr g0 338 1 = some (292 + 10 * u)) (x1 : Int32) (y1 : Int) (hx1 : x1.toInt = y1) (hf1 : 0 ≤ y1 ∧ y1 ≤ 1) (x2 : Int32) (y2 : Int) (hx2 : x2.toInt = y2) (x3 : Int32) (y3 : Int) (hx3 : x3.toInt = y3) (x4 : Int32) (y4 : Int) (hx4 : x4.toInt = y4) (hf4 : 0 ≤ y4 ∧ y4 ≤ 300) (o5 : Option Value) , (300 - y4) * 1 + 0 < (n : Int) → LW 96 (d + 8) 0 0 53 [some (.ref 338), some (.int x1), some (.int x2), some (.int x3), some (.int x4), o5] [] g (fun v g' => ∃ r : Int32, v = some (.int r) ∧ Inv P g' ∧ Gr g' = Gr g0 ∧ Gi g' 1 5 = Gi g0 1 5)) := by
  intro n
  induction n with
  | zero => exact fun g V hG hK u hu hTt x1 y1 hx1 hf1 x2 y2 hx2 x3 y3 hx3 x4 y4 hx4 hf4 o5 hmu => absurd hmu (by omega)
  | succ n ih => exact fun g V hG hK u hu hTt x1 y1 hx1 hf1 x2 y2 hx2 x3 y3 hx3 x4 y4 hx4 hf4 o5 hmu => C_X8_takeLetters_53  V hG hK hu hTt x1 y1 hx1 hf1 x2 y2 hx2 x3 y3 hx3 x4 y4 hx4 hf4 o5 (by omega) ih
set_option maxRecDepth 10000 in
set_option maxHeartbeats 40000000 in
theorem C_X8_takeLetters {P : Par} {g : LH} {d : Nat}  (V : Inv P g) {u : Nat} (hu : u < 4) (hTt : Gr g 338 1 = some (292 + 10 * u)) (x1 : Int32) (y1 : Int) (hx1 : x1.toInt = y1) (hf1 : 0 ≤ y1 ∧ y1 ≤ 1)   : LW 96 (d + 8) 0 0 0 (lEnt (mL 96) [.ref 338, .int x1]) [] g (fun v g' => ∃ r : Int32, v = some (.int r) ∧ Inv P g' ∧ Gr g' = Gr g ∧ Gi g' 1 5 = Gi g 1 5) := by
  refine LW_ls (ls' := [some (.ref 338), some (.int x1), none, none, none, none]) rfl ?_
  have hG : Gr g = Gr g := rfl
  have hK : Gi g 1 5 = Gi g 1 5 := rfl
  refine X_aload_n rfl rfl rfl rfl ?_
  refine S_getI rfl rfl rfl ((congrFun V.1 338).trans s_338) rfl (fun vz1 evz1 => ?_)
  refine X_iconst (v := (1 : Int32)) rfl rfl rfl ?_
  refine S_icmp_eq (tgt := 14) rfl rfl rfl rfl (show (1 : Int32).toInt = 1 from rfl) (fun vh2 => ?_) (fun vh2 => ?_)
  · refine X_iconst (v := (0 : Int32)) rfl rfl rfl ?_
    refine X_istore_n (i := 2) (ls' := [some (.ref 338), some (.int x1), some (.int (0 : Int32)), none, none, none]) rfl rfl rfl (Nat.le_of_ble_eq_true rfl) rfl ?_
    refine X_aload_n rfl rfl rfl rfl ?_
    refine S_getI rfl rfl rfl ((congrFun V.1 338).trans s_338) rfl (fun vz3 evz3 => ?_)
    have vf4 := K_17_2 (V.2.2.2.2.1 (338) (2) (Nat.le_of_ble_eq_true rfl)) rk_338
    rw [evz3] at vf4
    refine S_if_lt (tgt := 48) rfl rfl rfl rfl (fun vh5 => ?_) (fun vh5 => ?_)
    · refine X_iconst (v := (0 : Int32)) rfl rfl rfl ?_
      refine X_istore_n (i := 3) (ls' := [some (.ref 338), some (.int x1), some (.int (0 : Int32)), some (.int (0 : Int32)), none, none]) rfl rfl rfl (Nat.le_of_ble_eq_true rfl) rfl ?_
      refine X_iconst (v := (0 : Int32)) rfl rfl rfl ?_
      refine X_istore (i := 4) (ls' := [some (.ref 338), some (.int x1), some (.int (0 : Int32)), some (.int (0 : Int32)), some (.int (0 : Int32)), none]) rfl rfl (Nat.le_of_ble_eq_true rfl) rfl ?_
      exact (C_X8_takeLetters_all (((300 - 0) * 1 + 0) + 1 : Int).toNat) _ V hG hK hu hTt x1 y1 hx1 (by omega) (0 : Int32) 0 (show (0 : Int32).toInt = 0 from rfl) (0 : Int32) 0 (show (0 : Int32).toInt = 0 from rfl) (0 : Int32) 0 (show (0 : Int32).toInt = 0 from rfl) (by omega) none    (by omega)
    · refine X_aload_n rfl rfl rfl rfl ?_
      refine X_getI (v := vz3) rfl rfl rfl ((congrFun V.1 338).trans s_338) rfl evz3 ?_
      refine X_sipush (v := (300 : Int32)) rfl rfl rfl ?_
      refine S_icmp_gt (tgt := 48) rfl rfl rfl rfl (show (300 : Int32).toInt = 300 from rfl) (fun q => absurd q (by omega)) (fun vh6 => ?_)
      refine X_aload_n rfl rfl rfl rfl ?_
      refine X_getR (a := 332) rfl rfl rfl ((congrFun V.1 338).trans s_338) rfl ((V.2.2.1 0 (by decide)).trans r_338_0) ?_
      refine X_getR (a := 336) rfl rfl rfl ((congrFun V.1 332).trans s_332) rfl ((congrFun (V.2.1 332 (by decide)) 5).trans r_332_5) ?_
      refine X_aload_n rfl rfl rfl rfl ?_
      refine X_getI (v := vz3) rfl rfl rfl ((congrFun V.1 338).trans s_338) rfl evz3 ?_
      refine S_iald rfl rfl ((congrFun V.1 336).trans s_336) rfl (by omega) (fun vz7 evz7 => ?_)
      refine LW_goto (tgt := 49) rfl rfl ?_
      refine X_istore_n (i := 3) (ls' := [some (.ref 338), some (.int x1), some (.int (0 : Int32)), some (.int vz7), none, none]) rfl rfl rfl (Nat.le_of_ble_eq_true rfl) rfl ?_
      refine X_iconst (v := (0 : Int32)) rfl rfl rfl ?_
      refine X_istore (i := 4) (ls' := [some (.ref 338), some (.int x1), some (.int (0 : Int32)), some (.int vz7), some (.int (0 : Int32)), none]) rfl rfl (Nat.le_of_ble_eq_true rfl) rfl ?_
      exact (C_X8_takeLetters_all (((300 - 0) * 1 + 0) + 1 : Int).toNat) _ V hG hK hu hTt x1 y1 hx1 (by omega) (0 : Int32) 0 (show (0 : Int32).toInt = 0 from rfl) vz7 vz7.toInt rfl (0 : Int32) 0 (show (0 : Int32).toInt = 0 from rfl) (by omega) none    (by omega)
  · refine X_aload_n rfl rfl rfl rfl ?_
    refine X_iconst (v := (1 : Int32)) rfl rfl rfl ?_
    refine Y_callV (as := [.int (1 : Int32)]) (st := []) rfl rfl rfl (by decide) rfl (Nat.le_of_ble_eq_true rfl) (by decide) (Nat.le_of_ble_eq_true rfl) rfl ((congrFun V.1 338).trans s_338) (by decide) (C_X8_fail V hu ((congrFun (congrFun hG 338) 1).trans hTt) (1 : Int32) 1 (show (1 : Int32).toInt = 1 from rfl) (by omega) ) ?_
    rintro _ g ⟨vr8, rfl, hrvr80, hrvr81, V, hq, hk⟩
    have hG := hq.trans hG
    have hK := hk.trans hK
    exact LW_ireturn (st := []) rfl rfl rfl ⟨_, rfl, V, hG, hK⟩
set_option maxRecDepth 10000 in
set_option maxHeartbeats 40000000 in
theorem C_X8_readBehindLetters {P : Par} {g : LH} {d : Nat}  (V : Inv P g) {u : Nat} (hu : u < 4) (hTt : Gr g 338 1 = some (292 + 10 * u)) (x1 : Int32) (y1 : Int) (hx1 : x1.toInt = y1) (hf1 : 4 ≤ y1 ∧ y1 ≤ 12)   : LW 92 (d + 13) 0 0 0 (lEnt (mL 92) [.ref 338, .int x1]) [] g (fun v g' => v = none ∧ Inv P g' ∧ Gr g' = Gr g ∧ Gi g' 1 5 = Gi g 1 5) := by
  refine LW_ls (ls' := [some (.ref 338), some (.int x1)]) rfl ?_
  have hG : Gr g = Gr g := rfl
  have hK : Gi g 1 5 = Gi g 1 5 := rfl
  refine X_iload_n rfl rfl rfl rfl ?_
  by_cases vh1 : y1 = 4
  · refine S_tableIn (tgt := 44) (c := 4) rfl (hx1.trans vh1) (by decide) (by decide) rfl rfl ?_
    refine X_aload_n rfl rfl rfl rfl ?_
    refine X_bipush (v := (13 : Int32)) rfl rfl rfl ?_
    refine Y_callV (as := [.int (13 : Int32)]) (st := []) rfl rfl rfl (by decide) rfl (Nat.le_of_ble_eq_true rfl) (by decide) (Nat.le_of_ble_eq_true rfl) rfl ((congrFun V.1 338).trans s_338) (by decide) (C_X8_takeKey V hu ((congrFun (congrFun hG 338) 1).trans hTt) (13 : Int32) 13 (show (13 : Int32).toInt = 13 from rfl) (by omega) ) ?_
    rintro _ g ⟨rfl, V, hq, hk⟩
    have hG := hq.trans hG
    have hK := hk.trans hK
    refine X_aload_n rfl rfl rfl rfl ?_
    refine X_getR (a := 292 + 10 * u) rfl rfl rfl ((congrFun V.1 338).trans s_338) rfl ((congrFun (congrFun hG 338) 1).trans hTt) ?_
    refine X_getR (a := 296 + 10 * u) rfl rfl rfl ((congrFun V.1 _).trans (tx_s u hu)) rfl ((congrFun (V.2.1 (292 + 10 * u) (by omega)) 4).trans (tx_r4 u hu)) ?_
    refine X_aload_n rfl rfl rfl rfl ?_
    refine S_getI rfl rfl rfl ((congrFun V.1 338).trans s_338) rfl (fun vz3 evz3 => ?_)
    have vf4 := K_17_6 (V.2.2.2.2.1 (338) (6) (Nat.le_of_ble_eq_true rfl)) rk_338
    rw [evz3] at vf4
    refine X_aload_n rfl rfl rfl rfl ?_
    refine X_iconst (v := (0 : Int32)) rfl rfl rfl ?_
    refine X_bipush (v := (9 : Int32)) rfl rfl rfl ?_
    refine X_callV (as := [.int (0 : Int32), .int (9 : Int32)]) (st := [.int vz3, .ref (296 + 10 * u)]) rfl rfl rfl (by decide) rfl (Nat.le_of_ble_eq_true rfl) (by decide) (Nat.le_of_ble_eq_true rfl) rfl ((congrFun V.1 338).trans s_338) (by decide) ?_
    refine LW_ls (ls' := [some (.ref 338), some (.int (0 : Int32)), some (.int (9 : Int32)), none]) rfl ?_
    refine X_aload_n rfl rfl rfl rfl ?_
    refine S_getI rfl rfl rfl ((congrFun V.1 338).trans s_338) rfl (fun vz5 evz5 => ?_)
    refine X_iconst (v := (2 : Int32)) rfl rfl rfl ?_
    refine S_icmp_eq (tgt := 14) rfl rfl rfl rfl (show (2 : Int32).toInt = 2 from rfl) (fun vh6 => ?_) (fun vh6 => ?_)
    · refine X_aload_n rfl rfl rfl rfl ?_
      refine S_getI rfl rfl rfl ((congrFun V.1 338).trans s_338) rfl (fun vz7 evz7 => ?_)
      refine X_istore_n (i := 3) (ls' := [some (.ref 338), some (.int (0 : Int32)), some (.int (9 : Int32)), some (.int vz7)]) rfl rfl rfl (Nat.le_of_ble_eq_true rfl) rfl ?_
      refine X_iload_n rfl rfl rfl rfl ?_
      refine X_iload_n rfl rfl rfl rfl ?_
      refine S_icmp_lt (tgt := 29) rfl rfl rfl rfl (show (0 : Int32).toInt = 0 from rfl) (fun vh8 => ?_) (fun vh8 => ?_)
      · refine X_aload_n rfl rfl rfl rfl ?_
        refine X_iconst (v := (2 : Int32)) rfl rfl rfl ?_
        refine Y_callV (as := [.int (2 : Int32)]) (st := []) rfl rfl rfl (by decide) rfl (Nat.le_of_ble_eq_true rfl) (by decide) (Nat.le_of_ble_eq_true rfl) rfl ((congrFun V.1 338).trans s_338) (by decide) (C_X8_fail V hu ((congrFun (congrFun hG 338) 1).trans hTt) (2 : Int32) 2 (show (2 : Int32).toInt = 2 from rfl) (by omega) ) ?_
        rintro _ g ⟨vr9, rfl, hrvr90, hrvr91, V, hq, hk⟩
        have hG := hq.trans hG
        have hK := hk.trans hK
        refine LW_ireturn (st := []) rfl rfl rfl ?_
        refine S_iast (I := Inv _) rfl rfl ((congrFun V.1 _).trans (tx_s4 u hu)) rfl (by omega) (Inv_putI V (by omega) (Or.inl (by omega)) (Q_0 (tx_k4 u hu))) (fun g V ve10 vn11 hq => ?_)
        have hG := hq.trans hG
        have hK := (vn11 1 5 (Or.inl (by omega))).trans hK
        refine LW_goto (tgt := 183) rfl rfl ?_
        exact LW_return (st := []) rfl rfl ⟨rfl, V, hG, hK⟩
      · refine X_iload_n rfl rfl rfl rfl ?_
        refine X_iload_n rfl rfl rfl rfl ?_
        refine S_icmp_le (tgt := 35) rfl rfl rfl rfl (show (9 : Int32).toInt = 9 from rfl) (fun vh12 => ?_) (fun vh12 => ?_)
        · refine X_aload_n rfl rfl rfl rfl ?_
          refine Y_callV (as := []) (st := []) rfl rfl rfl (by decide) rfl (Nat.le_of_ble_eq_true rfl) (by decide) (Nat.le_of_ble_eq_true rfl) rfl ((congrFun V.1 338).trans s_338) (by decide) (C_X8_next V hu ((congrFun (congrFun hG 338) 1).trans hTt)  ) ?_
          rintro _ g ⟨rfl, V, hq, hk⟩
          have hG := hq.trans hG
          have hK := hk.trans hK
          refine X_iload_n rfl rfl rfl rfl ?_
          refine LW_ireturn (st := []) rfl rfl rfl ?_
          refine S_iast (I := Inv _) rfl rfl ((congrFun V.1 _).trans (tx_s4 u hu)) rfl (by omega) (Inv_putI V (by omega) (Or.inl (by omega)) (Q_0 (tx_k4 u hu))) (fun g V ve14 vn15 hq => ?_)
          have hG := hq.trans hG
          have hK := (vn15 1 5 (Or.inl (by omega))).trans hK
          refine LW_goto (tgt := 183) rfl rfl ?_
          exact LW_return (st := []) rfl rfl ⟨rfl, V, hG, hK⟩
        · refine X_aload_n rfl rfl rfl rfl ?_
          refine X_iconst (v := (2 : Int32)) rfl rfl rfl ?_
          refine Y_callV (as := [.int (2 : Int32)]) (st := []) rfl rfl rfl (by decide) rfl (Nat.le_of_ble_eq_true rfl) (by decide) (Nat.le_of_ble_eq_true rfl) rfl ((congrFun V.1 338).trans s_338) (by decide) (C_X8_fail V hu ((congrFun (congrFun hG 338) 1).trans hTt) (2 : Int32) 2 (show (2 : Int32).toInt = 2 from rfl) (by omega) ) ?_
          rintro _ g ⟨vr16, rfl, hrvr160, hrvr161, V, hq, hk⟩
          have hG := hq.trans hG
          have hK := hk.trans hK
          refine LW_ireturn (st := []) rfl rfl rfl ?_
          refine S_iast (I := Inv _) rfl rfl ((congrFun V.1 _).trans (tx_s4 u hu)) rfl (by omega) (Inv_putI V (by omega) (Or.inl (by omega)) (Q_0 (tx_k4 u hu))) (fun g V ve17 vn18 hq => ?_)
          have hG := hq.trans hG
          have hK := (vn18 1 5 (Or.inl (by omega))).trans hK
          refine LW_goto (tgt := 183) rfl rfl ?_
          exact LW_return (st := []) rfl rfl ⟨rfl, V, hG, hK⟩
    · refine X_aload_n rfl rfl rfl rfl ?_
      refine X_iconst (v := (1 : Int32)) rfl rfl rfl ?_
      refine Y_callV (as := [.int (1 : Int32)]) (st := []) rfl rfl rfl (by decide) rfl (Nat.le_of_ble_eq_true rfl) (by decide) (Nat.le_of_ble_eq_true rfl) rfl ((congrFun V.1 338).trans s_338) (by decide) (C_X8_fail V hu ((congrFun (congrFun hG 338) 1).trans hTt) (1 : Int32) 1 (show (1 : Int32).toInt = 1 from rfl) (by omega) ) ?_
      rintro _ g ⟨vr19, rfl, hrvr190, hrvr191, V, hq, hk⟩
      have hG := hq.trans hG
      have hK := hk.trans hK
      refine LW_ireturn (st := []) rfl rfl rfl ?_
      refine S_iast (I := Inv _) rfl rfl ((congrFun V.1 _).trans (tx_s4 u hu)) rfl (by omega) (Inv_putI V (by omega) (Or.inl (by omega)) (Q_0 (tx_k4 u hu))) (fun g V ve20 vn21 hq => ?_)
      have hG := hq.trans hG
      have hK := (vn21 1 5 (Or.inl (by omega))).trans hK
      refine LW_goto (tgt := 183) rfl rfl ?_
      exact LW_return (st := []) rfl rfl ⟨rfl, V, hG, hK⟩
  by_cases vh22 : y1 = 5
  · refine S_tableIn (tgt := 183) (c := 5) rfl (hx1.trans vh22) (by decide) (by decide) rfl rfl ?_
    exact LW_return (st := []) rfl rfl ⟨rfl, V, hG, hK⟩
  by_cases vh23 : y1 = 6
  · refine S_tableIn (tgt := 72) (c := 6) rfl (hx1.trans vh23) (by decide) (by decide) rfl rfl ?_
    refine X_aload_n rfl rfl rfl rfl ?_
    refine X_bipush (v := (14 : Int32)) rfl rfl rfl ?_
    refine Y_callV (as := [.int (14 : Int32)]) (st := []) rfl rfl rfl (by decide) rfl (Nat.le_of_ble_eq_true rfl) (by decide) (Nat.le_of_ble_eq_true rfl) rfl ((congrFun V.1 338).trans s_338) (by decide) (C_X8_takeKey V hu ((congrFun (congrFun hG 338) 1).trans hTt) (14 : Int32) 14 (show (14 : Int32).toInt = 14 from rfl) (by omega) ) ?_
    rintro _ g ⟨rfl, V, hq, hk⟩
    have hG := hq.trans hG
    have hK := hk.trans hK
    refine X_aload_n rfl rfl rfl rfl ?_
    refine X_getR (a := 292 + 10 * u) rfl rfl rfl ((congrFun V.1 338).trans s_338) rfl ((congrFun (congrFun hG 338) 1).trans hTt) ?_
    refine X_getR (a := 295 + 10 * u) rfl rfl rfl ((congrFun V.1 _).trans (tx_s u hu)) rfl ((congrFun (V.2.1 (292 + 10 * u) (by omega)) 3).trans (tx_r3 u hu)) ?_
    refine X_aload_n rfl rfl rfl rfl ?_
    refine S_getI rfl rfl rfl ((congrFun V.1 338).trans s_338) rfl (fun vz25 evz25 => ?_)
    have vf26 := K_17_6 (V.2.2.2.2.1 (338) (6) (Nat.le_of_ble_eq_true rfl)) rk_338
    rw [evz25] at vf26
    refine X_aload_n rfl rfl rfl rfl ?_
    refine X_iconst (v := (0 : Int32)) rfl rfl rfl ?_
    refine Y_callV (as := [.int (0 : Int32)]) (st := [.int vz25, .ref (295 + 10 * u)]) rfl rfl rfl (by decide) rfl (Nat.le_of_ble_eq_true rfl) (by decide) (Nat.le_of_ble_eq_true rfl) rfl ((congrFun V.1 338).trans s_338) (by decide) (C_X8_takeLetters V hu ((congrFun (congrFun hG 338) 1).trans hTt) (0 : Int32) 0 (show (0 : Int32).toInt = 0 from rfl) (by omega) ) ?_
    rintro _ g ⟨vr27, rfl, V, hq, hk⟩
    have hG := hq.trans hG
    have hK := hk.trans hK
    refine S_iast (I := Inv _) rfl rfl ((congrFun V.1 _).trans (tx_s3 u hu)) rfl (by omega) (Inv_putI V (by omega) (Or.inl (by omega)) (Q_0 (tx_k3 u hu))) (fun g V ve28 vn29 hq => ?_)
    have hG := hq.trans hG
    have hK := (vn29 1 5 (Or.inl (by omega))).trans hK
    refine LW_goto (tgt := 183) rfl rfl ?_
    exact LW_return (st := []) rfl rfl ⟨rfl, V, hG, hK⟩
  by_cases vh30 : y1 = 7
  · refine S_tableIn (tgt := 183) (c := 7) rfl (hx1.trans vh30) (by decide) (by decide) rfl rfl ?_
    exact LW_return (st := []) rfl rfl ⟨rfl, V, hG, hK⟩
  by_cases vh31 : y1 = 8
  · refine S_tableIn (tgt := 183) (c := 8) rfl (hx1.trans vh31) (by decide) (by decide) rfl rfl ?_
    exact LW_return (st := []) rfl rfl ⟨rfl, V, hG, hK⟩
  by_cases vh32 : y1 = 9
  · refine S_tableIn (tgt := 98) (c := 9) rfl (hx1.trans vh32) (by decide) (by decide) rfl rfl ?_
    refine X_aload_n rfl rfl rfl rfl ?_
    refine X_bipush (v := (15 : Int32)) rfl rfl rfl ?_
    refine Y_callV (as := [.int (15 : Int32)]) (st := []) rfl rfl rfl (by decide) rfl (Nat.le_of_ble_eq_true rfl) (by decide) (Nat.le_of_ble_eq_true rfl) rfl ((congrFun V.1 338).trans s_338) (by decide) (C_X8_takeKey V hu ((congrFun (congrFun hG 338) 1).trans hTt) (15 : Int32) 15 (show (15 : Int32).toInt = 15 from rfl) (by omega) ) ?_
    rintro _ g ⟨rfl, V, hq, hk⟩
    have hG := hq.trans hG
    have hK := hk.trans hK
    refine X_aload_n rfl rfl rfl rfl ?_
    refine X_getR (a := 292 + 10 * u) rfl rfl rfl ((congrFun V.1 338).trans s_338) rfl ((congrFun (congrFun hG 338) 1).trans hTt) ?_
    refine X_getR (a := 296 + 10 * u) rfl rfl rfl ((congrFun V.1 _).trans (tx_s u hu)) rfl ((congrFun (V.2.1 (292 + 10 * u) (by omega)) 4).trans (tx_r4 u hu)) ?_
    refine X_aload_n rfl rfl rfl rfl ?_
    refine S_getI rfl rfl rfl ((congrFun V.1 338).trans s_338) rfl (fun vz34 evz34 => ?_)
    have vf35 := K_17_6 (V.2.2.2.2.1 (338) (6) (Nat.le_of_ble_eq_true rfl)) rk_338
    rw [evz34] at vf35
    refine X_aload_n rfl rfl rfl rfl ?_
    refine X_iconst (v := (1 : Int32)) rfl rfl rfl ?_
    refine X_bipush (v := (99 : Int32)) rfl rfl rfl ?_
    refine X_callV (as := [.int (1 : Int32), .int (99 : Int32)]) (st := [.int vz34, .ref (296 + 10 * u)]) rfl rfl rfl (by decide) rfl (Nat.le_of_ble_eq_true rfl) (by decide) (Nat.le_of_ble_eq_true rfl) rfl ((congrFun V.1 338).trans s_338) (by decide) ?_
    refine LW_ls (ls' := [some (.ref 338), some (.int (1 : Int32)), some (.int (99 : Int32)), none]) rfl ?_
    refine X_aload_n rfl rfl rfl rfl ?_
    refine S_getI rfl rfl rfl ((congrFun V.1 338).trans s_338) rfl (fun vz36 evz36 => ?_)
    refine X_iconst (v := (2 : Int32)) rfl rfl rfl ?_
    refine S_icmp_eq (tgt := 14) rfl rfl rfl rfl (show (2 : Int32).toInt = 2 from rfl) (fun vh37 => ?_) (fun vh37 => ?_)
    · refine X_aload_n rfl rfl rfl rfl ?_
      refine S_getI rfl rfl rfl ((congrFun V.1 338).trans s_338) rfl (fun vz38 evz38 => ?_)
      refine X_istore_n (i := 3) (ls' := [some (.ref 338), some (.int (1 : Int32)), some (.int (99 : Int32)), some (.int vz38)]) rfl rfl rfl (Nat.le_of_ble_eq_true rfl) rfl ?_
      refine X_iload_n rfl rfl rfl rfl ?_
      refine X_iload_n rfl rfl rfl rfl ?_
      refine S_icmp_lt (tgt := 29) rfl rfl rfl rfl (show (1 : Int32).toInt = 1 from rfl) (fun vh39 => ?_) (fun vh39 => ?_)
      · refine X_aload_n rfl rfl rfl rfl ?_
        refine X_iconst (v := (2 : Int32)) rfl rfl rfl ?_
        refine Y_callV (as := [.int (2 : Int32)]) (st := []) rfl rfl rfl (by decide) rfl (Nat.le_of_ble_eq_true rfl) (by decide) (Nat.le_of_ble_eq_true rfl) rfl ((congrFun V.1 338).trans s_338) (by decide) (C_X8_fail V hu ((congrFun (congrFun hG 338) 1).trans hTt) (2 : Int32) 2 (show (2 : Int32).toInt = 2 from rfl) (by omega) ) ?_
        rintro _ g ⟨vr40, rfl, hrvr400, hrvr401, V, hq, hk⟩
        have hG := hq.trans hG
        have hK := hk.trans hK
        refine LW_ireturn (st := []) rfl rfl rfl ?_
        refine S_iast (I := Inv _) rfl rfl ((congrFun V.1 _).trans (tx_s4 u hu)) rfl (by omega) (Inv_putI V (by omega) (Or.inl (by omega)) (Q_0 (tx_k4 u hu))) (fun g V ve41 vn42 hq => ?_)
        have hG := hq.trans hG
        have hK := (vn42 1 5 (Or.inl (by omega))).trans hK
        refine LW_goto (tgt := 183) rfl rfl ?_
        exact LW_return (st := []) rfl rfl ⟨rfl, V, hG, hK⟩
      · refine X_iload_n rfl rfl rfl rfl ?_
        refine X_iload_n rfl rfl rfl rfl ?_
        refine S_icmp_le (tgt := 35) rfl rfl rfl rfl (show (99 : Int32).toInt = 99 from rfl) (fun vh43 => ?_) (fun vh43 => ?_)
        · refine X_aload_n rfl rfl rfl rfl ?_
          refine Y_callV (as := []) (st := []) rfl rfl rfl (by decide) rfl (Nat.le_of_ble_eq_true rfl) (by decide) (Nat.le_of_ble_eq_true rfl) rfl ((congrFun V.1 338).trans s_338) (by decide) (C_X8_next V hu ((congrFun (congrFun hG 338) 1).trans hTt)  ) ?_
          rintro _ g ⟨rfl, V, hq, hk⟩
          have hG := hq.trans hG
          have hK := hk.trans hK
          refine X_iload_n rfl rfl rfl rfl ?_
          refine LW_ireturn (st := []) rfl rfl rfl ?_
          refine S_iast (I := Inv _) rfl rfl ((congrFun V.1 _).trans (tx_s4 u hu)) rfl (by omega) (Inv_putI V (by omega) (Or.inl (by omega)) (Q_0 (tx_k4 u hu))) (fun g V ve45 vn46 hq => ?_)
          have hG := hq.trans hG
          have hK := (vn46 1 5 (Or.inl (by omega))).trans hK
          refine LW_goto (tgt := 183) rfl rfl ?_
          exact LW_return (st := []) rfl rfl ⟨rfl, V, hG, hK⟩
        · refine X_aload_n rfl rfl rfl rfl ?_
          refine X_iconst (v := (2 : Int32)) rfl rfl rfl ?_
          refine Y_callV (as := [.int (2 : Int32)]) (st := []) rfl rfl rfl (by decide) rfl (Nat.le_of_ble_eq_true rfl) (by decide) (Nat.le_of_ble_eq_true rfl) rfl ((congrFun V.1 338).trans s_338) (by decide) (C_X8_fail V hu ((congrFun (congrFun hG 338) 1).trans hTt) (2 : Int32) 2 (show (2 : Int32).toInt = 2 from rfl) (by omega) ) ?_
          rintro _ g ⟨vr47, rfl, hrvr470, hrvr471, V, hq, hk⟩
          have hG := hq.trans hG
          have hK := hk.trans hK
          refine LW_ireturn (st := []) rfl rfl rfl ?_
          refine S_iast (I := Inv _) rfl rfl ((congrFun V.1 _).trans (tx_s4 u hu)) rfl (by omega) (Inv_putI V (by omega) (Or.inl (by omega)) (Q_0 (tx_k4 u hu))) (fun g V ve48 vn49 hq => ?_)
          have hG := hq.trans hG
          have hK := (vn49 1 5 (Or.inl (by omega))).trans hK
          refine LW_goto (tgt := 183) rfl rfl ?_
          exact LW_return (st := []) rfl rfl ⟨rfl, V, hG, hK⟩
    · refine X_aload_n rfl rfl rfl rfl ?_
      refine X_iconst (v := (1 : Int32)) rfl rfl rfl ?_
      refine Y_callV (as := [.int (1 : Int32)]) (st := []) rfl rfl rfl (by decide) rfl (Nat.le_of_ble_eq_true rfl) (by decide) (Nat.le_of_ble_eq_true rfl) rfl ((congrFun V.1 338).trans s_338) (by decide) (C_X8_fail V hu ((congrFun (congrFun hG 338) 1).trans hTt) (1 : Int32) 1 (show (1 : Int32).toInt = 1 from rfl) (by omega) ) ?_
      rintro _ g ⟨vr50, rfl, hrvr500, hrvr501, V, hq, hk⟩
      have hG := hq.trans hG
      have hK := hk.trans hK
      refine LW_ireturn (st := []) rfl rfl rfl ?_
      refine S_iast (I := Inv _) rfl rfl ((congrFun V.1 _).trans (tx_s4 u hu)) rfl (by omega) (Inv_putI V (by omega) (Or.inl (by omega)) (Q_0 (tx_k4 u hu))) (fun g V ve51 vn52 hq => ?_)
      have hG := hq.trans hG
      have hK := (vn52 1 5 (Or.inl (by omega))).trans hK
      refine LW_goto (tgt := 183) rfl rfl ?_
      exact LW_return (st := []) rfl rfl ⟨rfl, V, hG, hK⟩
  by_cases vh53 : y1 = 10
  · refine S_tableIn (tgt := 126) (c := 10) rfl (hx1.trans vh53) (by decide) (by decide) rfl rfl ?_
    refine X_aload_n rfl rfl rfl rfl ?_
    refine X_bipush (v := (16 : Int32)) rfl rfl rfl ?_
    refine Y_callV (as := [.int (16 : Int32)]) (st := []) rfl rfl rfl (by decide) rfl (Nat.le_of_ble_eq_true rfl) (by decide) (Nat.le_of_ble_eq_true rfl) rfl ((congrFun V.1 338).trans s_338) (by decide) (C_X8_takeKey V hu ((congrFun (congrFun hG 338) 1).trans hTt) (16 : Int32) 16 (show (16 : Int32).toInt = 16 from rfl) (by omega) ) ?_
    rintro _ g ⟨rfl, V, hq, hk⟩
    have hG := hq.trans hG
    have hK := hk.trans hK
    refine X_aload_n rfl rfl rfl rfl ?_
    refine X_bipush (v := (17 : Int32)) rfl rfl rfl ?_
    refine X_callV (as := [.int (17 : Int32)]) (st := []) rfl rfl rfl (by decide) rfl (Nat.le_of_ble_eq_true rfl) (by decide) (Nat.le_of_ble_eq_true rfl) rfl ((congrFun V.1 338).trans s_338) (by decide) ?_
    refine LW_ls (ls' := [some (.ref 338), some (.int (17 : Int32))]) rfl ?_
    refine X_aload_n rfl rfl rfl rfl ?_
    refine S_getI rfl rfl rfl ((congrFun V.1 338).trans s_338) rfl (fun vz55 evz55 => ?_)
    refine X_iconst (v := (1 : Int32)) rfl rfl rfl ?_
    refine S_icmp_ne (tgt := 20) rfl rfl rfl rfl (show (1 : Int32).toInt = 1 from rfl) (fun vh56 => ?_) (fun vh56 => ?_)
    · refine X_iconst (v := (0 : Int32)) rfl rfl rfl ?_
      refine LW_ireturn (st := []) rfl rfl rfl ?_
      refine S_if_eq (tgt := 161) rfl rfl rfl (show (0 : Int32).toInt = 0 from rfl) (fun vh57 => ?_) (fun q => absurd q (by omega))
      refine X_aload_n rfl rfl rfl rfl ?_
      refine X_getR (a := 292 + 10 * u) rfl rfl rfl ((congrFun V.1 338).trans s_338) rfl ((congrFun (congrFun hG 338) 1).trans hTt) ?_
      refine X_getR (a := 296 + 10 * u) rfl rfl rfl ((congrFun V.1 _).trans (tx_s u hu)) rfl ((congrFun (V.2.1 (292 + 10 * u) (by omega)) 4).trans (tx_r4 u hu)) ?_
      refine X_aload_n rfl rfl rfl rfl ?_
      refine S_getI rfl rfl rfl ((congrFun V.1 338).trans s_338) rfl (fun vz58 evz58 => ?_)
      have vf59 := K_17_6 (V.2.2.2.2.1 (338) (6) (Nat.le_of_ble_eq_true rfl)) rk_338
      rw [evz58] at vf59
      refine X_aload_n rfl rfl rfl rfl ?_
      refine X_iconst (v := (0 : Int32)) rfl rfl rfl ?_
      refine X_bipush (v := (9 : Int32)) rfl rfl rfl ?_
      refine X_callV (as := [.int (0 : Int32), .int (9 : Int32)]) (st := [.int vz58, .ref (296 + 10 * u)]) rfl rfl rfl (by decide) rfl (Nat.le_of_ble_eq_true rfl) (by decide) (Nat.le_of_ble_eq_true rfl) rfl ((congrFun V.1 338).trans s_338) (by decide) ?_
      refine LW_ls (ls' := [some (.ref 338), some (.int (0 : Int32)), some (.int (9 : Int32)), none]) rfl ?_
      refine X_aload_n rfl rfl rfl rfl ?_
      refine X_getI (v := vz55) rfl rfl rfl ((congrFun V.1 338).trans s_338) rfl evz55 ?_
      refine X_iconst (v := (2 : Int32)) rfl rfl rfl ?_
      refine S_icmp_eq (tgt := 14) rfl rfl rfl rfl (show (2 : Int32).toInt = 2 from rfl) (fun vh60 => ?_) (fun vh60 => ?_)
      · refine X_aload_n rfl rfl rfl rfl ?_
        refine S_getI rfl rfl rfl ((congrFun V.1 338).trans s_338) rfl (fun vz61 evz61 => ?_)
        refine X_istore_n (i := 3) (ls' := [some (.ref 338), some (.int (0 : Int32)), some (.int (9 : Int32)), some (.int vz61)]) rfl rfl rfl (Nat.le_of_ble_eq_true rfl) rfl ?_
        refine X_iload_n rfl rfl rfl rfl ?_
        refine X_iload_n rfl rfl rfl rfl ?_
        refine S_icmp_lt (tgt := 29) rfl rfl rfl rfl (show (0 : Int32).toInt = 0 from rfl) (fun vh62 => ?_) (fun vh62 => ?_)
        · refine X_aload_n rfl rfl rfl rfl ?_
          refine X_iconst (v := (2 : Int32)) rfl rfl rfl ?_
          refine Y_callV (as := [.int (2 : Int32)]) (st := []) rfl rfl rfl (by decide) rfl (Nat.le_of_ble_eq_true rfl) (by decide) (Nat.le_of_ble_eq_true rfl) rfl ((congrFun V.1 338).trans s_338) (by decide) (C_X8_fail V hu ((congrFun (congrFun hG 338) 1).trans hTt) (2 : Int32) 2 (show (2 : Int32).toInt = 2 from rfl) (by omega) ) ?_
          rintro _ g ⟨vr63, rfl, hrvr630, hrvr631, V, hq, hk⟩
          have hG := hq.trans hG
          have hK := hk.trans hK
          refine LW_ireturn (st := []) rfl rfl rfl ?_
          refine S_iast (I := Inv _) rfl rfl ((congrFun V.1 _).trans (tx_s4 u hu)) rfl (by omega) (Inv_putI V (by omega) (Or.inl (by omega)) (Q_0 (tx_k4 u hu))) (fun g V ve64 vn65 hq => ?_)
          have hG := hq.trans hG
          have hK := (vn65 1 5 (Or.inl (by omega))).trans hK
          refine LW_goto (tgt := 183) rfl rfl ?_
          exact LW_return (st := []) rfl rfl ⟨rfl, V, hG, hK⟩
        · refine X_iload_n rfl rfl rfl rfl ?_
          refine X_iload_n rfl rfl rfl rfl ?_
          refine S_icmp_le (tgt := 35) rfl rfl rfl rfl (show (9 : Int32).toInt = 9 from rfl) (fun vh66 => ?_) (fun vh66 => ?_)
          · refine X_aload_n rfl rfl rfl rfl ?_
            refine Y_callV (as := []) (st := []) rfl rfl rfl (by decide) rfl (Nat.le_of_ble_eq_true rfl) (by decide) (Nat.le_of_ble_eq_true rfl) rfl ((congrFun V.1 338).trans s_338) (by decide) (C_X8_next V hu ((congrFun (congrFun hG 338) 1).trans hTt)  ) ?_
            rintro _ g ⟨rfl, V, hq, hk⟩
            have hG := hq.trans hG
            have hK := hk.trans hK
            refine X_iload_n rfl rfl rfl rfl ?_
            refine LW_ireturn (st := []) rfl rfl rfl ?_
            refine S_iast (I := Inv _) rfl rfl ((congrFun V.1 _).trans (tx_s4 u hu)) rfl (by omega) (Inv_putI V (by omega) (Or.inl (by omega)) (Q_0 (tx_k4 u hu))) (fun g V ve68 vn69 hq => ?_)
            have hG := hq.trans hG
            have hK := (vn69 1 5 (Or.inl (by omega))).trans hK
            refine LW_goto (tgt := 183) rfl rfl ?_
            exact LW_return (st := []) rfl rfl ⟨rfl, V, hG, hK⟩
          · refine X_aload_n rfl rfl rfl rfl ?_
            refine X_iconst (v := (2 : Int32)) rfl rfl rfl ?_
            refine Y_callV (as := [.int (2 : Int32)]) (st := []) rfl rfl rfl (by decide) rfl (Nat.le_of_ble_eq_true rfl) (by decide) (Nat.le_of_ble_eq_true rfl) rfl ((congrFun V.1 338).trans s_338) (by decide) (C_X8_fail V hu ((congrFun (congrFun hG 338) 1).trans hTt) (2 : Int32) 2 (show (2 : Int32).toInt = 2 from rfl) (by omega) ) ?_
            rintro _ g ⟨vr70, rfl, hrvr700, hrvr701, V, hq, hk⟩
            have hG := hq.trans hG
            have hK := hk.trans hK
            refine LW_ireturn (st := []) rfl rfl rfl ?_
            refine S_iast (I := Inv _) rfl rfl ((congrFun V.1 _).trans (tx_s4 u hu)) rfl (by omega) (Inv_putI V (by omega) (Or.inl (by omega)) (Q_0 (tx_k4 u hu))) (fun g V ve71 vn72 hq => ?_)
            have hG := hq.trans hG
            have hK := (vn72 1 5 (Or.inl (by omega))).trans hK
            refine LW_goto (tgt := 183) rfl rfl ?_
            exact LW_return (st := []) rfl rfl ⟨rfl, V, hG, hK⟩
      · refine X_aload_n rfl rfl rfl rfl ?_
        refine X_iconst (v := (1 : Int32)) rfl rfl rfl ?_
        refine Y_callV (as := [.int (1 : Int32)]) (st := []) rfl rfl rfl (by decide) rfl (Nat.le_of_ble_eq_true rfl) (by decide) (Nat.le_of_ble_eq_true rfl) rfl ((congrFun V.1 338).trans s_338) (by decide) (C_X8_fail V hu ((congrFun (congrFun hG 338) 1).trans hTt) (1 : Int32) 1 (show (1 : Int32).toInt = 1 from rfl) (by omega) ) ?_
        rintro _ g ⟨vr73, rfl, hrvr730, hrvr731, V, hq, hk⟩
        have hG := hq.trans hG
        have hK := hk.trans hK
        refine LW_ireturn (st := []) rfl rfl rfl ?_
        refine S_iast (I := Inv _) rfl rfl ((congrFun V.1 _).trans (tx_s4 u hu)) rfl (by omega) (Inv_putI V (by omega) (Or.inl (by omega)) (Q_0 (tx_k4 u hu))) (fun g V ve74 vn75 hq => ?_)
        have hG := hq.trans hG
        have hK := (vn75 1 5 (Or.inl (by omega))).trans hK
        refine LW_goto (tgt := 183) rfl rfl ?_
        exact LW_return (st := []) rfl rfl ⟨rfl, V, hG, hK⟩
    · refine X_aload_n rfl rfl rfl rfl ?_
      refine S_getI rfl rfl rfl ((congrFun V.1 338).trans s_338) rfl (fun vz76 evz76 => ?_)
      refine X_iload_n rfl rfl rfl rfl ?_
      refine S_icmp_ne (tgt := 20) rfl rfl rfl rfl (show (17 : Int32).toInt = 17 from rfl) (fun vh77 => ?_) (fun vh77 => ?_)
      · refine X_iconst (v := (0 : Int32)) rfl rfl rfl ?_
        refine LW_ireturn (st := []) rfl rfl rfl ?_
        refine S_if_eq (tgt := 161) rfl rfl rfl (show (0 : Int32).toInt = 0 from rfl) (fun vh78 => ?_) (fun q => absurd q (by omega))
        refine X_aload_n rfl rfl rfl rfl ?_
        refine X_getR (a := 292 + 10 * u) rfl rfl rfl ((congrFun V.1 338).trans s_338) rfl ((congrFun (congrFun hG 338) 1).trans hTt) ?_
        refine X_getR (a := 296 + 10 * u) rfl rfl rfl ((congrFun V.1 _).trans (tx_s u hu)) rfl ((congrFun (V.2.1 (292 + 10 * u) (by omega)) 4).trans (tx_r4 u hu)) ?_
        refine X_aload_n rfl rfl rfl rfl ?_
        refine S_getI rfl rfl rfl ((congrFun V.1 338).trans s_338) rfl (fun vz79 evz79 => ?_)
        have vf80 := K_17_6 (V.2.2.2.2.1 (338) (6) (Nat.le_of_ble_eq_true rfl)) rk_338
        rw [evz79] at vf80
        refine X_aload_n rfl rfl rfl rfl ?_
        refine X_iconst (v := (0 : Int32)) rfl rfl rfl ?_
        refine X_bipush (v := (9 : Int32)) rfl rfl rfl ?_
        refine X_callV (as := [.int (0 : Int32), .int (9 : Int32)]) (st := [.int vz79, .ref (296 + 10 * u)]) rfl rfl rfl (by decide) rfl (Nat.le_of_ble_eq_true rfl) (by decide) (Nat.le_of_ble_eq_true rfl) rfl ((congrFun V.1 338).trans s_338) (by decide) ?_
        refine LW_ls (ls' := [some (.ref 338), some (.int (0 : Int32)), some (.int (9 : Int32)), none]) rfl ?_
        refine X_aload_n rfl rfl rfl rfl ?_
        refine X_getI (v := vz55) rfl rfl rfl ((congrFun V.1 338).trans s_338) rfl evz55 ?_
        refine X_iconst (v := (2 : Int32)) rfl rfl rfl ?_
        refine S_icmp_eq (tgt := 14) rfl rfl rfl rfl (show (2 : Int32).toInt = 2 from rfl) (fun q => absurd q (by omega)) (fun vh81 => ?_)
        refine X_aload_n rfl rfl rfl rfl ?_
        refine X_iconst (v := (1 : Int32)) rfl rfl rfl ?_
        refine Y_callV (as := [.int (1 : Int32)]) (st := []) rfl rfl rfl (by decide) rfl (Nat.le_of_ble_eq_true rfl) (by decide) (Nat.le_of_ble_eq_true rfl) rfl ((congrFun V.1 338).trans s_338) (by decide) (C_X8_fail V hu ((congrFun (congrFun hG 338) 1).trans hTt) (1 : Int32) 1 (show (1 : Int32).toInt = 1 from rfl) (by omega) ) ?_
        rintro _ g ⟨vr82, rfl, hrvr820, hrvr821, V, hq, hk⟩
        have hG := hq.trans hG
        have hK := hk.trans hK
        refine LW_ireturn (st := []) rfl rfl rfl ?_
        refine S_iast (I := Inv _) rfl rfl ((congrFun V.1 _).trans (tx_s4 u hu)) rfl (by omega) (Inv_putI V (by omega) (Or.inl (by omega)) (Q_0 (tx_k4 u hu))) (fun g V ve83 vn84 hq => ?_)
        have hG := hq.trans hG
        have hK := (vn84 1 5 (Or.inl (by omega))).trans hK
        refine LW_goto (tgt := 183) rfl rfl ?_
        exact LW_return (st := []) rfl rfl ⟨rfl, V, hG, hK⟩
      · refine X_iconst (v := (1 : Int32)) rfl rfl rfl ?_
        refine LW_goto (tgt := 21) rfl rfl ?_
        refine LW_ireturn (st := []) rfl rfl rfl ?_
        refine S_if_eq (tgt := 161) rfl rfl rfl (show (1 : Int32).toInt = 1 from rfl) (fun q => absurd q (by omega)) (fun vh85 => ?_)
        refine X_aload_n rfl rfl rfl rfl ?_
        refine X_getR (a := 292 + 10 * u) rfl rfl rfl ((congrFun V.1 338).trans s_338) rfl ((congrFun (congrFun hG 338) 1).trans hTt) ?_
        refine X_getR (a := 296 + 10 * u) rfl rfl rfl ((congrFun V.1 _).trans (tx_s u hu)) rfl ((congrFun (V.2.1 (292 + 10 * u) (by omega)) 4).trans (tx_r4 u hu)) ?_
        refine X_aload_n rfl rfl rfl rfl ?_
        refine S_getI rfl rfl rfl ((congrFun V.1 338).trans s_338) rfl (fun vz86 evz86 => ?_)
        have vf87 := K_17_6 (V.2.2.2.2.1 (338) (6) (Nat.le_of_ble_eq_true rfl)) rk_338
        rw [evz86] at vf87
        refine X_iconst (v := (-1 : Int32)) rfl rfl rfl ?_
        refine S_iast (I := Inv _) rfl rfl ((congrFun V.1 _).trans (tx_s4 u hu)) rfl (by omega) (Inv_putI V (by omega) (Or.inl (by omega)) (Q_0 (tx_k4 u hu))) (fun g V ve88 vn89 hq => ?_)
        have hG := hq.trans hG
        have hK := (vn89 1 5 (Or.inl (by omega))).trans hK
        have evz55 := (vn89 (338) 3 (Or.inl (by omega))).trans evz55
        have evz76 := (vn89 (338) 4 (Or.inl (by omega))).trans evz76
        have evz86 := (vn89 (338) 6 (Or.inl (by omega))).trans evz86
        refine X_aload_n rfl rfl rfl rfl ?_
        refine Y_callV (as := []) (st := []) rfl rfl rfl (by decide) rfl (Nat.le_of_ble_eq_true rfl) (by decide) (Nat.le_of_ble_eq_true rfl) rfl ((congrFun V.1 338).trans s_338) (by decide) (C_X8_next V hu ((congrFun (congrFun hG 338) 1).trans hTt)  ) ?_
        rintro _ g ⟨rfl, V, hq, hk⟩
        have hG := hq.trans hG
        have hK := hk.trans hK
        refine LW_goto (tgt := 183) rfl rfl ?_
        exact LW_return (st := []) rfl rfl ⟨rfl, V, hG, hK⟩
  refine S_tableOut (tgt := 183) rfl hx1 (by omega) rfl ?_
  exact LW_return (st := []) rfl rfl ⟨rfl, V, hG, hK⟩
set_option maxRecDepth 10000 in
set_option maxHeartbeats 40000000 in
theorem C_X8_takeSense {P : Par} {g : LH} {d : Nat}  (V : Inv P g) {u : Nat} (hu : u < 4) (hTt : Gr g 338 1 = some (292 + 10 * u)) (x1 : Int32) (y1 : Int) (hx1 : x1.toInt = y1) (hf1 : 0 ≤ y1 ∧ y1 ≤ 300)   : LW 94 (d + 8) 0 0 0 (lEnt (mL 94) [.ref 338, .int x1]) [] g (fun v g' => ∃ r : Int32, v = some (.int r) ∧ 0 ≤ r.toInt ∧ r.toInt ≤ 9 ∧ Inv P g' ∧ Gr g' = Gr g ∧ Gi g' 1 5 = Gi g 1 5) := by
  refine LW_ls (ls' := [some (.ref 338), some (.int x1), none]) rfl ?_
  have hG : Gr g = Gr g := rfl
  have hK : Gi g 1 5 = Gi g 1 5 := rfl
  refine X_aload_n rfl rfl rfl rfl ?_
  refine S_getI rfl rfl rfl ((congrFun V.1 338).trans s_338) rfl (fun vz1 evz1 => ?_)
  refine X_iconst (v := (2 : Int32)) rfl rfl rfl ?_
  refine S_icmp_ne (tgt := 21) rfl rfl rfl rfl (show (2 : Int32).toInt = 2 from rfl) (fun vh2 => ?_) (fun vh2 => ?_)
  · refine X_iconst (v := (0 : Int32)) rfl rfl rfl ?_
    refine X_istore_n (i := 2) (ls' := [some (.ref 338), some (.int x1), some (.int (0 : Int32))]) rfl rfl rfl (Nat.le_of_ble_eq_true rfl) rfl ?_
    refine X_iload_n rfl rfl rfl rfl ?_
    refine S_if_eq (tgt := 40) rfl rfl rfl (show (0 : Int32).toInt = 0 from rfl) (fun vh3 => ?_) (fun q => absurd q (by omega))
    refine X_aload_n rfl rfl rfl rfl ?_
    refine X_iconst (v := (0 : Int32)) rfl rfl rfl ?_
    refine X_bipush (v := (9 : Int32)) rfl rfl rfl ?_
    refine X_callV (as := [.int (0 : Int32), .int (9 : Int32)]) (st := []) rfl rfl rfl (by decide) rfl (Nat.le_of_ble_eq_true rfl) (by decide) (Nat.le_of_ble_eq_true rfl) rfl ((congrFun V.1 338).trans s_338) (by decide) ?_
    refine LW_ls (ls' := [some (.ref 338), some (.int (0 : Int32)), some (.int (9 : Int32)), none]) rfl ?_
    refine X_aload_n rfl rfl rfl rfl ?_
    refine X_getI (v := vz1) rfl rfl rfl ((congrFun V.1 338).trans s_338) rfl evz1 ?_
    refine X_iconst (v := (2 : Int32)) rfl rfl rfl ?_
    refine S_icmp_eq (tgt := 14) rfl rfl rfl rfl (show (2 : Int32).toInt = 2 from rfl) (fun vh4 => ?_) (fun vh4 => ?_)
    · refine X_aload_n rfl rfl rfl rfl ?_
      refine S_getI rfl rfl rfl ((congrFun V.1 338).trans s_338) rfl (fun vz5 evz5 => ?_)
      refine X_istore_n (i := 3) (ls' := [some (.ref 338), some (.int (0 : Int32)), some (.int (9 : Int32)), some (.int vz5)]) rfl rfl rfl (Nat.le_of_ble_eq_true rfl) rfl ?_
      refine X_iload_n rfl rfl rfl rfl ?_
      refine X_iload_n rfl rfl rfl rfl ?_
      refine S_icmp_lt (tgt := 29) rfl rfl rfl rfl (show (0 : Int32).toInt = 0 from rfl) (fun vh6 => ?_) (fun vh6 => ?_)
      · refine X_aload_n rfl rfl rfl rfl ?_
        refine X_iconst (v := (2 : Int32)) rfl rfl rfl ?_
        refine Y_callV (as := [.int (2 : Int32)]) (st := []) rfl rfl rfl (by decide) rfl (Nat.le_of_ble_eq_true rfl) (by decide) (Nat.le_of_ble_eq_true rfl) rfl ((congrFun V.1 338).trans s_338) (by decide) (C_X8_fail V hu ((congrFun (congrFun hG 338) 1).trans hTt) (2 : Int32) 2 (show (2 : Int32).toInt = 2 from rfl) (by omega) ) ?_
        rintro _ g ⟨vr7, rfl, hrvr70, hrvr71, V, hq, hk⟩
        have hG := hq.trans hG
        have hK := hk.trans hK
        refine LW_ireturn (st := []) rfl rfl rfl ?_
        have hr := (rfl : vr7.toInt = vr7.toInt)
        exact LW_ireturn (st := []) rfl rfl rfl ⟨_, rfl, by omega, by omega, V, hG, hK⟩
      · refine X_iload_n rfl rfl rfl rfl ?_
        refine X_iload_n rfl rfl rfl rfl ?_
        refine S_icmp_le (tgt := 35) rfl rfl rfl rfl (show (9 : Int32).toInt = 9 from rfl) (fun vh8 => ?_) (fun vh8 => ?_)
        · refine X_aload_n rfl rfl rfl rfl ?_
          refine Y_callV (as := []) (st := []) rfl rfl rfl (by decide) rfl (Nat.le_of_ble_eq_true rfl) (by decide) (Nat.le_of_ble_eq_true rfl) rfl ((congrFun V.1 338).trans s_338) (by decide) (C_X8_next V hu ((congrFun (congrFun hG 338) 1).trans hTt)  ) ?_
          rintro _ g ⟨rfl, V, hq, hk⟩
          have hG := hq.trans hG
          have hK := hk.trans hK
          refine X_iload_n rfl rfl rfl rfl ?_
          refine LW_ireturn (st := []) rfl rfl rfl ?_
          have hr := (rfl : vz5.toInt = vz5.toInt)
          exact LW_ireturn (st := []) rfl rfl rfl ⟨_, rfl, by omega, by omega, V, hG, hK⟩
        · refine X_aload_n rfl rfl rfl rfl ?_
          refine X_iconst (v := (2 : Int32)) rfl rfl rfl ?_
          refine Y_callV (as := [.int (2 : Int32)]) (st := []) rfl rfl rfl (by decide) rfl (Nat.le_of_ble_eq_true rfl) (by decide) (Nat.le_of_ble_eq_true rfl) rfl ((congrFun V.1 338).trans s_338) (by decide) (C_X8_fail V hu ((congrFun (congrFun hG 338) 1).trans hTt) (2 : Int32) 2 (show (2 : Int32).toInt = 2 from rfl) (by omega) ) ?_
          rintro _ g ⟨vr10, rfl, hrvr100, hrvr101, V, hq, hk⟩
          have hG := hq.trans hG
          have hK := hk.trans hK
          refine LW_ireturn (st := []) rfl rfl rfl ?_
          have hr := (rfl : vr10.toInt = vr10.toInt)
          exact LW_ireturn (st := []) rfl rfl rfl ⟨_, rfl, by omega, by omega, V, hG, hK⟩
    · refine X_aload_n rfl rfl rfl rfl ?_
      refine X_iconst (v := (1 : Int32)) rfl rfl rfl ?_
      refine Y_callV (as := [.int (1 : Int32)]) (st := []) rfl rfl rfl (by decide) rfl (Nat.le_of_ble_eq_true rfl) (by decide) (Nat.le_of_ble_eq_true rfl) rfl ((congrFun V.1 338).trans s_338) (by decide) (C_X8_fail V hu ((congrFun (congrFun hG 338) 1).trans hTt) (1 : Int32) 1 (show (1 : Int32).toInt = 1 from rfl) (by omega) ) ?_
      rintro _ g ⟨vr11, rfl, hrvr110, hrvr111, V, hq, hk⟩
      have hG := hq.trans hG
      have hK := hk.trans hK
      refine LW_ireturn (st := []) rfl rfl rfl ?_
      have hr := (rfl : vr11.toInt = vr11.toInt)
      exact LW_ireturn (st := []) rfl rfl rfl ⟨_, rfl, by omega, by omega, V, hG, hK⟩
  · refine X_aload_n rfl rfl rfl rfl ?_
    refine S_getI rfl rfl rfl ((congrFun V.1 338).trans s_338) rfl (fun vz12 evz12 => ?_)
    refine X_bipush (v := (9 : Int32)) rfl rfl rfl ?_
    refine S_icmp_gt (tgt := 21) rfl rfl rfl rfl (show (9 : Int32).toInt = 9 from rfl) (fun vh13 => ?_) (fun vh13 => ?_)
    · refine X_iconst (v := (0 : Int32)) rfl rfl rfl ?_
      refine X_istore_n (i := 2) (ls' := [some (.ref 338), some (.int x1), some (.int (0 : Int32))]) rfl rfl rfl (Nat.le_of_ble_eq_true rfl) rfl ?_
      refine X_iload_n rfl rfl rfl rfl ?_
      refine S_if_eq (tgt := 40) rfl rfl rfl (show (0 : Int32).toInt = 0 from rfl) (fun vh14 => ?_) (fun q => absurd q (by omega))
      refine X_aload_n rfl rfl rfl rfl ?_
      refine X_iconst (v := (0 : Int32)) rfl rfl rfl ?_
      refine X_bipush (v := (9 : Int32)) rfl rfl rfl ?_
      refine X_callV (as := [.int (0 : Int32), .int (9 : Int32)]) (st := []) rfl rfl rfl (by decide) rfl (Nat.le_of_ble_eq_true rfl) (by decide) (Nat.le_of_ble_eq_true rfl) rfl ((congrFun V.1 338).trans s_338) (by decide) ?_
      refine LW_ls (ls' := [some (.ref 338), some (.int (0 : Int32)), some (.int (9 : Int32)), none]) rfl ?_
      refine X_aload_n rfl rfl rfl rfl ?_
      refine X_getI (v := vz1) rfl rfl rfl ((congrFun V.1 338).trans s_338) rfl evz1 ?_
      refine X_iconst (v := (2 : Int32)) rfl rfl rfl ?_
      refine S_icmp_eq (tgt := 14) rfl rfl rfl rfl (show (2 : Int32).toInt = 2 from rfl) (fun vh15 => ?_) (fun q => absurd q (by omega))
      refine X_aload_n rfl rfl rfl rfl ?_
      refine X_getI (v := vz12) rfl rfl rfl ((congrFun V.1 338).trans s_338) rfl evz12 ?_
      refine X_istore_n (i := 3) (ls' := [some (.ref 338), some (.int (0 : Int32)), some (.int (9 : Int32)), some (.int vz12)]) rfl rfl rfl (Nat.le_of_ble_eq_true rfl) rfl ?_
      refine X_iload_n rfl rfl rfl rfl ?_
      refine X_iload_n rfl rfl rfl rfl ?_
      refine S_icmp_lt (tgt := 29) rfl rfl rfl rfl (show (0 : Int32).toInt = 0 from rfl) (fun q => absurd q (by omega)) (fun vh16 => ?_)
      refine X_iload_n rfl rfl rfl rfl ?_
      refine X_iload_n rfl rfl rfl rfl ?_
      refine S_icmp_le (tgt := 35) rfl rfl rfl rfl (show (9 : Int32).toInt = 9 from rfl) (fun q => absurd q (by omega)) (fun vh17 => ?_)
      refine X_aload_n rfl rfl rfl rfl ?_
      refine X_iconst (v := (2 : Int32)) rfl rfl rfl ?_
      refine Y_callV (as := [.int (2 : Int32)]) (st := []) rfl rfl rfl (by decide) rfl (Nat.le_of_ble_eq_true rfl) (by decide) (Nat.le_of_ble_eq_true rfl) rfl ((congrFun V.1 338).trans s_338) (by decide) (C_X8_fail V hu ((congrFun (congrFun hG 338) 1).trans hTt) (2 : Int32) 2 (show (2 : Int32).toInt = 2 from rfl) (by omega) ) ?_
      rintro _ g ⟨vr18, rfl, hrvr180, hrvr181, V, hq, hk⟩
      have hG := hq.trans hG
      have hK := hk.trans hK
      refine LW_ireturn (st := []) rfl rfl rfl ?_
      have hr := (rfl : vr18.toInt = vr18.toInt)
      exact LW_ireturn (st := []) rfl rfl rfl ⟨_, rfl, by omega, by omega, V, hG, hK⟩
    · refine X_iconst (v := (1 : Int32)) rfl rfl rfl ?_
      refine LW_goto (tgt := 22) rfl rfl ?_
      refine X_istore_n (i := 2) (ls' := [some (.ref 338), some (.int x1), some (.int (1 : Int32))]) rfl rfl rfl (Nat.le_of_ble_eq_true rfl) rfl ?_
      refine X_iload_n rfl rfl rfl rfl ?_
      refine S_if_eq (tgt := 40) rfl rfl rfl (show (1 : Int32).toInt = 1 from rfl) (fun q => absurd q (by omega)) (fun vh19 => ?_)
      refine X_iload_n rfl rfl rfl rfl ?_
      refine X_bipush (v := (8 : Int32)) rfl rfl rfl ?_
      refine S_icmp_lt (tgt := 40) rfl rfl rfl hx1 (show (8 : Int32).toInt = 8 from rfl) (fun vh20 => ?_) (fun vh20 => ?_)
      · refine X_aload_n rfl rfl rfl rfl ?_
        refine X_iconst (v := (0 : Int32)) rfl rfl rfl ?_
        refine X_bipush (v := (9 : Int32)) rfl rfl rfl ?_
        refine X_callV (as := [.int (0 : Int32), .int (9 : Int32)]) (st := []) rfl rfl rfl (by decide) rfl (Nat.le_of_ble_eq_true rfl) (by decide) (Nat.le_of_ble_eq_true rfl) rfl ((congrFun V.1 338).trans s_338) (by decide) ?_
        refine LW_ls (ls' := [some (.ref 338), some (.int (0 : Int32)), some (.int (9 : Int32)), none]) rfl ?_
        refine X_aload_n rfl rfl rfl rfl ?_
        refine X_getI (v := vz1) rfl rfl rfl ((congrFun V.1 338).trans s_338) rfl evz1 ?_
        refine X_iconst (v := (2 : Int32)) rfl rfl rfl ?_
        refine S_icmp_eq (tgt := 14) rfl rfl rfl rfl (show (2 : Int32).toInt = 2 from rfl) (fun vh21 => ?_) (fun q => absurd q (by omega))
        refine X_aload_n rfl rfl rfl rfl ?_
        refine X_getI (v := vz12) rfl rfl rfl ((congrFun V.1 338).trans s_338) rfl evz12 ?_
        refine X_istore_n (i := 3) (ls' := [some (.ref 338), some (.int (0 : Int32)), some (.int (9 : Int32)), some (.int vz12)]) rfl rfl rfl (Nat.le_of_ble_eq_true rfl) rfl ?_
        refine X_iload_n rfl rfl rfl rfl ?_
        refine X_iload_n rfl rfl rfl rfl ?_
        refine S_icmp_lt (tgt := 29) rfl rfl rfl rfl (show (0 : Int32).toInt = 0 from rfl) (fun vh22 => ?_) (fun vh22 => ?_)
        · refine X_aload_n rfl rfl rfl rfl ?_
          refine X_iconst (v := (2 : Int32)) rfl rfl rfl ?_
          refine Y_callV (as := [.int (2 : Int32)]) (st := []) rfl rfl rfl (by decide) rfl (Nat.le_of_ble_eq_true rfl) (by decide) (Nat.le_of_ble_eq_true rfl) rfl ((congrFun V.1 338).trans s_338) (by decide) (C_X8_fail V hu ((congrFun (congrFun hG 338) 1).trans hTt) (2 : Int32) 2 (show (2 : Int32).toInt = 2 from rfl) (by omega) ) ?_
          rintro _ g ⟨vr23, rfl, hrvr230, hrvr231, V, hq, hk⟩
          have hG := hq.trans hG
          have hK := hk.trans hK
          refine LW_ireturn (st := []) rfl rfl rfl ?_
          have hr := (rfl : vr23.toInt = vr23.toInt)
          exact LW_ireturn (st := []) rfl rfl rfl ⟨_, rfl, by omega, by omega, V, hG, hK⟩
        · refine X_iload_n rfl rfl rfl rfl ?_
          refine X_iload_n rfl rfl rfl rfl ?_
          refine S_icmp_le (tgt := 35) rfl rfl rfl rfl (show (9 : Int32).toInt = 9 from rfl) (fun vh24 => ?_) (fun q => absurd q (by omega))
          refine X_aload_n rfl rfl rfl rfl ?_
          refine Y_callV (as := []) (st := []) rfl rfl rfl (by decide) rfl (Nat.le_of_ble_eq_true rfl) (by decide) (Nat.le_of_ble_eq_true rfl) rfl ((congrFun V.1 338).trans s_338) (by decide) (C_X8_next V hu ((congrFun (congrFun hG 338) 1).trans hTt)  ) ?_
          rintro _ g ⟨rfl, V, hq, hk⟩
          have hG := hq.trans hG
          have hK := hk.trans hK
          refine X_iload_n rfl rfl rfl rfl ?_
          refine LW_ireturn (st := []) rfl rfl rfl ?_
          have hr := (rfl : vz12.toInt = vz12.toInt)
          exact LW_ireturn (st := []) rfl rfl rfl ⟨_, rfl, by omega, by omega, V, hG, hK⟩
      · refine X_aload_n rfl rfl rfl rfl ?_
        refine X_bipush (v := (8 : Int32)) rfl rfl rfl ?_
        refine Y_callV (as := [.int (8 : Int32)]) (st := []) rfl rfl rfl (by decide) rfl (Nat.le_of_ble_eq_true rfl) (by decide) (Nat.le_of_ble_eq_true rfl) rfl ((congrFun V.1 338).trans s_338) (by decide) (C_X8_fail V hu ((congrFun (congrFun hG 338) 1).trans hTt) (8 : Int32) 8 (show (8 : Int32).toInt = 8 from rfl) (by omega) ) ?_
        rintro _ g ⟨vr26, rfl, hrvr260, hrvr261, V, hq, hk⟩
        have hG := hq.trans hG
        have hK := hk.trans hK
        have hr := (rfl : vr26.toInt = vr26.toInt)
        exact LW_ireturn (st := []) rfl rfl rfl ⟨_, rfl, by omega, by omega, V, hG, hK⟩
set_option maxRecDepth 10000 in
set_option maxHeartbeats 40000000 in
theorem C_X8_readSenses_2 {P : Par} {g g0 : LH} {d n : Nat}  (V : Inv P g) (hG : Gr g = Gr g0) (hK : Gi g 1 5 = Gi g0 1 5) {u : Nat} (hu : u < 4) (hTt : Gr g0 338 1 = some (292 + 10 * u)) (x1 : Int32) (y1 : Int) (hx1 : x1.toInt = y1) (hf1 : 0 ≤ y1 ∧ y1 ≤ 301) (o2 : Option Value)  (hmu : (301 - y1) * 1 + 0 < (n : Int) + 1) (ih2 : ∀ (g : LH) (V : Inv P g) (hG : Gr g = Gr g0) (hK : Gi g 1 5 = Gi g0 1 5) {u : Nat} (hu : u < 4) (hTt : Gr g0 338 1 = some (292 + 10 * u)) (x1 : Int32) (y1 : Int) (hx1 : x1.toInt = y1) (hf1 : 0 ≤ y1 ∧ y1 ≤ 301) (o2 : Option Value) , (301 - y1) * 1 + 0 < (n : Int) → LW 93 (d + 13) 0 0 2 [some (.ref 338), some (.int x1), o2] [] g (fun v g' => v = none ∧ Inv P g' ∧ Gr g' = Gr g0 ∧ Gi g' 1 5 = Gi g0 1 5)) : LW 93 (d + 13) 0 0 2 [some (.ref 338), some (.int x1), o2] [] g (fun v g' => v = none ∧ Inv P g' ∧ Gr g' = Gr g0 ∧ Gi g' 1 5 = Gi g0 1 5) := by
  refine X_iload_n rfl rfl rfl rfl ?_
  refine X_sipush (v := (300 : Int32)) rfl rfl rfl ?_
  refine S_icmp_gt (tgt := 54) rfl rfl rfl hx1 (show (300 : Int32).toInt = 300 from rfl) (fun vh1 => ?_) (fun vh1 => ?_)
  · exact LW_return (st := []) rfl rfl ⟨rfl, V, hG, hK⟩
  · refine X_aload_n rfl rfl rfl rfl ?_
    refine S_getI rfl rfl rfl ((congrFun V.1 338).trans s_338) rfl (fun vz2 evz2 => ?_)
    refine S_if_ne (tgt := 54) rfl rfl rfl rfl (fun vh3 => ?_) (fun vh3 => ?_)
    · exact LW_return (st := []) rfl rfl ⟨rfl, V, hG, hK⟩
    · refine X_aload_n rfl rfl rfl rfl ?_
      refine X_iload_n rfl rfl rfl rfl ?_
      refine Y_callV (as := [.int x1]) (st := []) rfl rfl rfl (by decide) rfl (Nat.le_of_ble_eq_true rfl) (by decide) (Nat.le_of_ble_eq_true rfl) rfl ((congrFun V.1 338).trans s_338) (by decide) (C_X8_takeSense V hu ((congrFun (congrFun hG 338) 1).trans hTt) x1 y1 hx1 (by omega) ) ?_
      rintro _ g ⟨vr4, rfl, hrvr40, hrvr41, V, hq, hk⟩
      have hG := hq.trans hG
      have hK := hk.trans hK
      refine X_istore_n (i := 2) (ls' := [some (.ref 338), some (.int x1), some (.int vr4)]) rfl rfl rfl (Nat.le_of_ble_eq_true rfl) rfl ?_
      refine X_aload_n rfl rfl rfl rfl ?_
      refine X_getR (a := 292 + 10 * u) rfl rfl rfl ((congrFun V.1 338).trans s_338) rfl ((congrFun (congrFun hG 338) 1).trans hTt) ?_
      refine X_aload_n rfl rfl rfl rfl ?_
      refine S_getI rfl rfl rfl ((congrFun V.1 338).trans s_338) rfl (fun vz5 evz5 => ?_)
      have vf6 := K_17_6 (V.2.2.2.2.1 (338) (6) (Nat.le_of_ble_eq_true rfl)) rk_338
      rw [evz5] at vf6
      refine X_iload_n rfl rfl rfl rfl ?_
      refine Y_callV (as := [.int vz5, .int vr4]) (st := []) rfl rfl rfl (by decide) rfl (Nat.le_of_ble_eq_true rfl) (by decide) (Nat.le_of_ble_eq_true rfl) rfl ((congrFun V.1 _).trans (tx_s u hu)) (by decide) (C_X11_addToRow_T hu V vz5 vz5.toInt rfl (by omega) vr4 vr4.toInt rfl (by omega) ) ?_
      rintro _ g ⟨rfl, V, hq, hk⟩
      have hG := hq.trans hG
      have hK := hk.trans hK
      refine X_aload_n rfl rfl rfl rfl ?_
      refine X_bipush (v := (44 : Int32)) rfl rfl rfl ?_
      refine X_callV (as := [.int (44 : Int32)]) (st := []) rfl rfl rfl (by decide) rfl (Nat.le_of_ble_eq_true rfl) (by decide) (Nat.le_of_ble_eq_true rfl) rfl ((congrFun V.1 338).trans s_338) (by decide) ?_
      refine LW_ls (ls' := [some (.ref 338), some (.int (44 : Int32))]) rfl ?_
      refine X_aload_n rfl rfl rfl rfl ?_
      refine S_getI rfl rfl rfl ((congrFun V.1 338).trans s_338) rfl (fun vz8 evz8 => ?_)
      refine X_iconst (v := (3 : Int32)) rfl rfl rfl ?_
      refine S_icmp_ne (tgt := 20) rfl rfl rfl rfl (show (3 : Int32).toInt = 3 from rfl) (fun vh9 => ?_) (fun vh9 => ?_)
      · refine X_iconst (v := (0 : Int32)) rfl rfl rfl ?_
        refine LW_ireturn (st := []) rfl rfl rfl ?_
        refine S_if_ne (tgt := 44) rfl rfl rfl (show (0 : Int32).toInt = 0 from rfl) (fun q => absurd q (by omega)) (fun vh10 => ?_)
        exact LW_return (st := []) rfl rfl ⟨rfl, V, hG, hK⟩
      · refine X_aload_n rfl rfl rfl rfl ?_
        refine S_getI rfl rfl rfl ((congrFun V.1 338).trans s_338) rfl (fun vz11 evz11 => ?_)
        refine X_iload_n rfl rfl rfl rfl ?_
        refine S_icmp_ne (tgt := 20) rfl rfl rfl rfl (show (44 : Int32).toInt = 44 from rfl) (fun vh12 => ?_) (fun vh12 => ?_)
        · refine X_iconst (v := (0 : Int32)) rfl rfl rfl ?_
          refine LW_ireturn (st := []) rfl rfl rfl ?_
          refine S_if_ne (tgt := 44) rfl rfl rfl (show (0 : Int32).toInt = 0 from rfl) (fun q => absurd q (by omega)) (fun vh13 => ?_)
          exact LW_return (st := []) rfl rfl ⟨rfl, V, hG, hK⟩
        · refine X_iconst (v := (1 : Int32)) rfl rfl rfl ?_
          refine LW_goto (tgt := 21) rfl rfl ?_
          refine LW_ireturn (st := []) rfl rfl rfl ?_
          refine S_if_ne (tgt := 44) rfl rfl rfl (show (1 : Int32).toInt = 1 from rfl) (fun vh14 => ?_) (fun q => absurd q (by omega))
          refine X_aload_n rfl rfl rfl rfl ?_
          refine Y_callV (as := []) (st := []) rfl rfl rfl (by decide) rfl (Nat.le_of_ble_eq_true rfl) (by decide) (Nat.le_of_ble_eq_true rfl) rfl ((congrFun V.1 338).trans s_338) (by decide) (C_X8_next V hu ((congrFun (congrFun hG 338) 1).trans hTt)  ) ?_
          rintro _ g ⟨rfl, V, hq, hk⟩
          have hG := hq.trans hG
          have hK := hk.trans hK
          refine S_iinc (c := 1) rfl rfl rfl hx1 rfl (by omega) (fun vz16 hvz16 => ?_)
          refine LW_ls (ls' := [some (.ref 338), some (.int vz16), some (.int vr4)]) rfl ?_
          refine LW_goto (tgt := 2) rfl rfl ?_
          exact ih2 _ V hG hK hu hTt vz16 vz16.toInt rfl (by omega) (some (.int vr4))    (by omega)
theorem C_X8_readSenses_all {P : Par} {g0 : LH} {d : Nat}  : ∀ n : Nat, (∀ (g : LH) (V : Inv P g) (hG : Gr g = Gr g0) (hK : Gi g 1 5 = Gi g0 1 5) {u : Nat} (hu : u < 4) (hTt : Gr g0 338 1 = some (292 + 10 * u)) (x1 : Int32) (y1 : Int) (hx1 : x1.toInt = y1) (hf1 : 0 ≤ y1 ∧ y1 ≤ 301) (o2 : Option Value) , (301 - y1) * 1 + 0 < (n : Int) → LW 93 (d + 13) 0 0 2 [some (.ref 338), some (.int x1), o2] [] g (fun v g' => v = none ∧ Inv P g' ∧ Gr g' = Gr g0 ∧ Gi g' 1 5 = Gi g0 1 5)) := by
  intro n
  induction n with
  | zero => exact fun g V hG hK u hu hTt x1 y1 hx1 hf1 o2 hmu => absurd hmu (by omega)
  | succ n ih => exact fun g V hG hK u hu hTt x1 y1 hx1 hf1 o2 hmu => C_X8_readSenses_2  V hG hK hu hTt x1 y1 hx1 hf1 o2 (by omega) ih
set_option maxRecDepth 10000 in
set_option maxHeartbeats 40000000 in
theorem C_X8_readSenses {P : Par} {g : LH} {d : Nat}  (V : Inv P g) {u : Nat} (hu : u < 4) (hTt : Gr g 338 1 = some (292 + 10 * u))    : LW 93 (d + 13) 0 0 0 (lEnt (mL 93) [.ref 338]) [] g (fun v g' => v = none ∧ Inv P g' ∧ Gr g' = Gr g ∧ Gi g' 1 5 = Gi g 1 5) := by
  refine LW_ls (ls' := [some (.ref 338), none, none]) rfl ?_
  have hG : Gr g = Gr g := rfl
  have hK : Gi g 1 5 = Gi g 1 5 := rfl
  refine X_iconst (v := (0 : Int32)) rfl rfl rfl ?_
  refine X_istore_n (i := 1) (ls' := [some (.ref 338), some (.int (0 : Int32)), none]) rfl rfl rfl (Nat.le_of_ble_eq_true rfl) rfl ?_
  exact (C_X8_readSenses_all (((301 - 0) * 1 + 0) + 1 : Int).toNat) _ V hG hK hu hTt (0 : Int32) 0 (show (0 : Int32).toInt = 0 from rfl) (by omega) none    (by omega)
