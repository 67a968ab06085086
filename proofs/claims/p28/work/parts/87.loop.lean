/-! the law's loop; both constructors; the law -/
set_option maxRecDepth 10000 in
set_option maxHeartbeats 40000000 in
theorem vlaw_loop {L : Nat} {xs : Nat → Int32} (hL : L ≤ 3072) : ∀ (n : Nat) (g : LH) (xi : Int32) (y : Int), xi.toInt = y → 0 ≤ y ∧ y ≤ 3072 → IB g → Gx g = some (L, xs) → 3073 - y < (n : Int) → LW 322 100 0 0 18 [some (.retAddr 0), some (.ref 0), some (.ref 355), some (.int xi)] [] g (fun v _ => v = some (.int 1)) := by
  intro n
  induction n with
  | zero => exact fun g xi y hi hy hI hx hn => absurd hn (by omega)
  | succ n ih =>
    intro g xi y hi hy hI hx hn
    refine X_iload_n rfl rfl rfl rfl ?_
    refine X_aload_nS rfl rfl rfl rfl ?_
    refine LW_slenX (v := Int32.ofNat L) rfl rfl hx rfl ?_
    refine X_bipush (v := (6 : Int32)) rfl rfl rfl ?_
    refine S_isub rfl rfl (vofN hL) (show (6 : Int32).toInt = 6 from rfl) (by omega) (fun vz1 hvz1 => ?_)
    refine S_icmp_gt (tgt := 1474) rfl rfl rfl hi hvz1 (fun vh2 => ?_) (fun vh2 => ?_)
    · refine X_iconst (v := (1 : Int32)) rfl rfl rfl ?_
      exact LW_ireturn (st := []) rfl rfl rfl rfl
    · have hy2 : 0 ≤ y ∧ y + 6 ≤ (L : Int) := by omega
      have K : ∀ g', IB g' → Gx g' = some (L, xs) → LW 322 100 0 0 1468 [some (.retAddr 0), some (.ref 0), some (.ref 355), some (.int xi)] [] g' (fun v _ => v = some (.int 1)) := by
        intro g' hI' hx'
        refine S_iinc (c := 6) rfl rfl rfl hi rfl (by omega) (fun vz3 hvz3 => ?_)
        refine LW_ls (ls' := [some (.retAddr 0), some (.ref 0), some (.ref 355), some (.int vz3)]) rfl ?_
        refine LW_goto (tgt := 18) rfl rfl ?_
        exact ih g' vz3 (y + 6) hvz3 (by omega) hI' hx' (by omega)
      refine X_aload_nS rfl rfl rfl rfl ?_
      refine X_iload_n rfl rfl rfl rfl ?_
      refine vX_sld rfl rfl hx hi (by omega) ?_
      refine X_bipush (v := (63 : Int32)) rfl rfl rfl ?_
      refine S_iandR (k := 6) rfl rfl rfl (fun vz4 hvz4 => ?_)
      by_cases vh10 : vz4.toInt = 0
      · exact S_tableIn (tgt := 208) (c := 0) rfl vh10 (by decide) (by decide) rfl rfl (vop_0 hi hy2 hL hx hI K)
      by_cases vh11 : vz4.toInt = 1
      · exact S_tableIn (tgt := 241) (c := 1) rfl vh11 (by decide) (by decide) rfl rfl (vop_1 hi hy2 hL hx hI K)
      by_cases vh12 : vz4.toInt = 2
      · exact S_tableIn (tgt := 284) (c := 2) rfl vh12 (by decide) (by decide) rfl rfl (vop_2 hi hy2 hL hx hI K)
      by_cases vh13 : vz4.toInt = 3
      · exact S_tableIn (tgt := 307) (c := 3) rfl vh13 (by decide) (by decide) rfl rfl (vop_3 hi hy2 hL hx hI K)
      by_cases vh14 : vz4.toInt = 4
      · exact S_tableIn (tgt := 370) (c := 4) rfl vh14 (by decide) (by decide) rfl rfl (vop_4 hi hy2 hL hx hI K)
      by_cases vh15 : vz4.toInt = 5
      · exact S_tableIn (tgt := 393) (c := 5) rfl vh15 (by decide) (by decide) rfl rfl (vop_5 hi hy2 hL hx hI K)
      by_cases vh16 : vz4.toInt = 6
      · exact S_tableIn (tgt := 406) (c := 6) rfl vh16 (by decide) (by decide) rfl rfl (vop_6 hi hy2 hL hx hI K)
      by_cases vh17 : vz4.toInt = 7
      · exact S_tableIn (tgt := 429) (c := 7) rfl vh17 (by decide) (by decide) rfl rfl (vop_7 hi hy2 hL hx hI K)
      by_cases vh18 : vz4.toInt = 8
      · exact S_tableIn (tgt := 452) (c := 8) rfl vh18 (by decide) (by decide) rfl rfl (vop_8 hi hy2 hL hx hI K)
      by_cases vh19 : vz4.toInt = 9
      · exact S_tableIn (tgt := 475) (c := 9) rfl vh19 (by decide) (by decide) rfl rfl (vop_9 hi hy2 hL hx hI K)
      by_cases vh20 : vz4.toInt = 10
      · exact S_tableIn (tgt := 498) (c := 10) rfl vh20 (by decide) (by decide) rfl rfl (vop_10 hi hy2 hL hx hI K)
      by_cases vh21 : vz4.toInt = 11
      · exact S_tableIn (tgt := 521) (c := 11) rfl vh21 (by decide) (by decide) rfl rfl (vop_11 hi hy2 hL hx hI K)
      by_cases vh22 : vz4.toInt = 12
      · exact S_tableIn (tgt := 554) (c := 12) rfl vh22 (by decide) (by decide) rfl rfl (vop_12 hi hy2 hL hx hI K)
      by_cases vh23 : vz4.toInt = 13
      · exact S_tableIn (tgt := 587) (c := 13) rfl vh23 (by decide) (by decide) rfl rfl (vop_13 hi hy2 hL hx hI K)
      by_cases vh24 : vz4.toInt = 14
      · exact S_tableIn (tgt := 610) (c := 14) rfl vh24 (by decide) (by decide) rfl rfl (vop_14 hi hy2 hL hx hI K)
      by_cases vh25 : vz4.toInt = 15
      · exact S_tableIn (tgt := 633) (c := 15) rfl vh25 (by decide) (by decide) rfl rfl (vop_15 hi hy2 hL hx hI K)
      by_cases vh26 : vz4.toInt = 16
      · exact S_tableIn (tgt := 666) (c := 16) rfl vh26 (by decide) (by decide) rfl rfl (vop_16 hi hy2 hL hx hI K)
      by_cases vh27 : vz4.toInt = 17
      · exact S_tableIn (tgt := 679) (c := 17) rfl vh27 (by decide) (by decide) rfl rfl (vop_17 hi hy2 hL hx hI K)
      by_cases vh28 : vz4.toInt = 18
      · exact S_tableIn (tgt := 712) (c := 18) rfl vh28 (by decide) (by decide) rfl rfl (vop_18 hi hy2 hL hx hI K)
      by_cases vh29 : vz4.toInt = 19
      · exact S_tableIn (tgt := 745) (c := 19) rfl vh29 (by decide) (by decide) rfl rfl (vop_19 hi hy2 hL hx hI K)
      by_cases vh30 : vz4.toInt = 20
      · exact S_tableIn (tgt := 778) (c := 20) rfl vh30 (by decide) (by decide) rfl rfl (vop_20 hi hy2 hL hx hI K)
      by_cases vh31 : vz4.toInt = 21
      · exact S_tableIn (tgt := 811) (c := 21) rfl vh31 (by decide) (by decide) rfl rfl (vop_21 hi hy2 hL hx hI K)
      by_cases vh32 : vz4.toInt = 22
      · exact S_tableIn (tgt := 854) (c := 22) rfl vh32 (by decide) (by decide) rfl rfl (vop_22 hi hy2 hL hx hI K)
      by_cases vh33 : vz4.toInt = 23
      · exact S_tableIn (tgt := 877) (c := 23) rfl vh33 (by decide) (by decide) rfl rfl (vop_23 hi hy2 hL hx hI K)
      by_cases vh34 : vz4.toInt = 24
      · exact S_tableIn (tgt := 900) (c := 24) rfl vh34 (by decide) (by decide) rfl rfl (vop_24 hi hy2 hL hx hI K)
      by_cases vh35 : vz4.toInt = 25
      · exact S_tableIn (tgt := 939) (c := 25) rfl vh35 (by decide) (by decide) rfl rfl (vop_25 hi hy2 hL hx hI K)
      by_cases vh36 : vz4.toInt = 26
      · exact S_tableIn (tgt := 1008) (c := 26) rfl vh36 (by decide) (by decide) rfl rfl (vop_26 hi hy2 hL hx hI K)
      by_cases vh37 : vz4.toInt = 27
      · exact S_tableIn (tgt := 1031) (c := 27) rfl vh37 (by decide) (by decide) rfl rfl (vop_27 hi hy2 hL hx hI K)
      by_cases vh38 : vz4.toInt = 28
      · exact S_tableIn (tgt := 1054) (c := 28) rfl vh38 (by decide) (by decide) rfl rfl (vop_28 hi hy2 hL hx hI K)
      by_cases vh39 : vz4.toInt = 29
      · exact S_tableIn (tgt := 1087) (c := 29) rfl vh39 (by decide) (by decide) rfl rfl (vop_29 hi hy2 hL hx hI K)
      by_cases vh40 : vz4.toInt = 30
      · exact S_tableIn (tgt := 1146) (c := 30) rfl vh40 (by decide) (by decide) rfl rfl (vop_30 hi hy2 hL hx hI K)
      by_cases vh41 : vz4.toInt = 31
      · exact S_tableIn (tgt := 1179) (c := 31) rfl vh41 (by decide) (by decide) rfl rfl (vop_31 hi hy2 hL hx hI K)
      by_cases vh42 : vz4.toInt = 32
      · exact S_tableIn (tgt := 1212) (c := 32) rfl vh42 (by decide) (by decide) rfl rfl (vop_32 hi hy2 hL hx hI K)
      by_cases vh43 : vz4.toInt = 33
      · exact S_tableIn (tgt := 1261) (c := 33) rfl vh43 (by decide) (by decide) rfl rfl (vop_33 hi hy2 hL hx hI K)
      by_cases vh44 : vz4.toInt = 34
      · exact S_tableIn (tgt := 1294) (c := 34) rfl vh44 (by decide) (by decide) rfl rfl (vop_34 hi hy2 hL hx hI K)
      by_cases vh45 : vz4.toInt = 35
      · exact S_tableIn (tgt := 1353) (c := 35) rfl vh45 (by decide) (by decide) rfl rfl (vop_35 hi hy2 hL hx hI K)
      by_cases vh46 : vz4.toInt = 36
      · exact S_tableIn (tgt := 1386) (c := 36) rfl vh46 (by decide) (by decide) rfl rfl (vop_36 hi hy2 hL hx hI K)
      by_cases vh47 : vz4.toInt = 37
      · exact S_tableIn (tgt := 1419) (c := 37) rfl vh47 (by decide) (by decide) rfl rfl (vop_37 hi hy2 hL hx hI K)
      by_cases vh48 : vz4.toInt = 38
      · exact S_tableIn (tgt := 1432) (c := 38) rfl vh48 (by decide) (by decide) rfl rfl (vop_38 hi hy2 hL hx hI K)
      by_cases vh49 : vz4.toInt = 39
      · exact S_tableIn (tgt := 1445) (c := 39) rfl vh49 (by decide) (by decide) rfl rfl (vop_39 hi hy2 hL hx hI K)
      refine S_tableOut (tgt := 1468) rfl rfl (by omega) rfl ?_
      exact K g hI hx
noncomputable def eN : EH := (0, [], [], [], [])
set_option maxRecDepth 100000 in
theorem e0_eq : eqEH (wN eN (.inl 12)) e0 = true := by decide +kernel
theorem vlaw_16 {L : Nat} (hL : L ≤ 3072) {g : LH} {xs : Nat → Int32} (hI : IB g) (hx : Gx g = some (L, xs)) {l3 : Option Value} : LW 322 100 0 0 16 [some (.retAddr 0), some (.ref 0), some (.ref 355), l3] [] g (fun v _ => v = some (.int 1)) := by
  refine X_iconst (v := (0 : Int32)) rfl rfl rfl ?_
  refine X_istore_n (i := 3) (ls' := [some (.retAddr 0), some (.ref 0), some (.ref 355), some (.int (0 : Int32))]) rfl rfl rfl (Nat.le_of_ble_eq_true rfl) rfl ?_
  exact vlaw_loop hL 3074 g 0 0 (show (0 : Int32).toInt = 0 from rfl) (by omega) hI hx (by omega)
theorem vlaw_ok {L : Nat} (hL : L ≤ 3072) (xs : Nat → Int32) : LW 322 101 ((355 - 1 + ((374 - 356 + 0) + 1)) + 1) ((12740 - 10 + ((25633 - 12780 + 0) + nF 13)) + nF 12) 0 [some (.retAddr 0), none, none, none] [] (eV (some (L, xs)) eN) (fun v _ => v = some (.int 1)) := by
  refine LW_new (ci := 12) rfl rfl ?_
  have e : newC (eV (some (L, xs)) eN) (.inl 12) = eV (some (L, xs)) e0 := (eV_wN _ eN _).symm.trans (congrArg (eV _) (eqEH_ok e0_eq))
  rw [e]
  refine X_dup (pc' := 4) rfl rfl rfl ?_
  have s1 := (eRun_ok (sm0_ok (some (L, xs))) (eqRes_ok ctor_c) rfl).2.2
  refine LW_callI (as := []) (j' := 125) (q := 0) (st := [.ref 0]) rfl rfl (by decide) rfl (Nat.le_of_ble_eq_true rfl) (by decide) (Nat.le_of_ble_eq_true rfl) rfl (LW_room (Nat.le_refl _) (Nat.le_refl _) (show 31 ≤ 100 by decide) s1) (fun v g' q => ?_)
  obtain ⟨rfl, rfl⟩ := q
  refine X_astore_n (pc' := 8) (i := 1) (ls' := [some (.retAddr 0), some (.ref 0), none, none]) rfl rfl rfl (Nat.le_of_ble_eq_true rfl) rfl ?_
  refine LW_new (ci := 13) rfl rfl ?_
  have e3 : newC (eV (some (L, xs)) e1) (.inl 13) = eV (some (L, xs)) e1r := (eV_wN _ e1 _).symm.trans (congrArg (eV _) (eqEH_ok e1r_eq))
  rw [e3]
  refine X_dup (pc' := 12) rfl rfl rfl ?_
  have s2 := (eRun_ok (sm0_ok (some (L, xs))) (eqRes_ok ctor_r) rfl).2.2
  refine LW_callI (mc := 374 - 356) (bc := 0) (ms := 25633 - 12780) (bs := 0) (as := []) (j' := 170) (q := 355) (st := [.ref 355]) rfl rfl (by decide) rfl (Nat.le_of_ble_eq_true rfl) (by decide) (Nat.le_of_ble_eq_true rfl) rfl (LW_room (Nat.le_refl _) (Nat.le_refl _) (show 31 ≤ 100 by decide) s2) (fun v g' q => ?_)
  obtain ⟨rfl, rfl⟩ := q
  refine X_astore_n (pc' := 16) (i := 2) (ls' := [some (.retAddr 0), some (.ref 0), some (.ref 355), none]) rfl rfl rfl (Nat.le_of_ble_eq_true rfl) rfl ?_
  exact LW_room (Nat.le_refl _) (Nat.le_refl _) (show 100 ≤ 101 by decide) (vlaw_16 hL (vIB_e2 _) rfl)
