-- CLASS C: by program (wip/whole/gen/c3.py)
theorem c_draw (d : Nat) (G : zG) (M : zMem) (X : zX) (B : Nat) (hT : kT X B) (c : Nat → Nat) : zCall G miX7_draw (d + 0) [.ref B] (zI (nI (drawV c)) (cm M B (drawZ c)) X) (cm M B c) X 0 0 := by
  refine zCall.of (lv := [some (.ref B)]) (by decide) (Nat.le_of_ble_eq_true rfl) rfl ?_
  refine j_aload_n (n := 1) dX7_draw_0 rfl rfl ?_
  refine j_aload_n (n := 2) dX7_draw_1 rfl rfl ?_
  refine jc_get (n := 5) (k := 13) (v := nI (c 9)) dX7_draw_2 rfl fX7_39 (hT).c (hT).lo ((hT).hi (by omega)) (cm_r (ix_t rfl)) ?_
  refine j_ldc (n := 7) (v := 1103515245) dX7_draw_5 rfl kX7_72 ?_
  refine j_imul (n := 8) dX7_draw_7 rfl ?_
  refine j_sipush (n := 11) (v := nI 12345) dX7_draw_8 rfl (by decide) ?_
  refine j_iadd (n := 12) dX7_draw_11 rfl ?_
  refine j_top (nI_tN (((nI (c 9)) * (1103515245)) + (nI 12345))).symm ?_
  refine jc_put (n := 15) (k := 13) (x := nI (tN (((nI (c 9)) * (1103515245)) + (nI 12345)))) (M2 := cm M B (pu c 9 (tN (((nI (c 9)) * (1103515245)) + (nI 12345))))) dX7_draw_12 rfl pX7_39 (fun h => by cases h) rfl rfl (hT).c (hT).lo ((hT).hi (by omega)) (cm_w (ix_t rfl) _) ?_
  refine j_aload_n (n := 16) dX7_draw_15 rfl rfl ?_
  refine jc_get (n := 19) (k := 13) (v := nI (tN (((nI (c 9)) * (1103515245)) + (nI 12345)))) dX7_draw_16 rfl fX7_39 (hT).c (hT).lo ((hT).hi (by omega)) ((cm_r (ix_t rfl)).trans (congrArg nI (by repeat (first | rw [pu_eq] | rw [pu_ne _ _ (by omega)] | rw [drawZ_ne _ (by omega)])))) ?_
  refine j_bipush (n := 21) (v := nI 8) dX7_draw_19 rfl (by decide) ?_
  refine j_iushr (n := 22) dX7_draw_21 rfl ?_
  exact j_ri dX7_draw_22 rfl (Nat.le_refl _) (Nat.le_refl _) (zushr8 (tN_lt _)) rfl rfl
theorem comes_c {p : Nat → Nat} {n kd rm a b e : Nat} (h : p 0 = n) : pu (pu (pu (pu (pu (pu p (10 + 5 * n + 0) kd) (10 + 5 * n + 1) rm) (10 + 5 * n + 2) a) (10 + 5 * n + 3) b) (10 + 5 * n + 4) e) 0 (n + 1) = comesP p kd rm a b e := by
  subst h
  unfold comesP
  funext j
  by_cases h0 : j = 0
  · subst h0
    rw [pu_eq, pu_ne _ _ (by omega), pu_ne _ _ (by omega), pu_ne _ _ (by omega), pu_ne _ _ (by omega), pu_ne _ _ (by omega), pu_eq]
  · rw [pu_ne _ _ h0]
    simp only [pu, if_neg h0]
theorem c_drawPerson (d : Nat) (G : zG) (M : zMem) (X : zX) (B : Nat) (hT : kT X B) (c : Nat → Nat) (hn : c 0 < 8) : zCall G miX7_drawPerson (d + 1) [.ref B] (zV (cm M B (comeD c)) X) (cm M B c) X 0 0 := by
  refine zCall.of (lv := [some (.ref B), none, none, none, none, none]) (by decide) (Nat.le_of_ble_eq_true rfl) rfl ?_
  have hv0 := drawV_lt c
  have hv1 := drawV_lt (drawZ c)
  have hv2 := drawV_lt (drawZ (drawZ c))
  have hv3 := drawV_lt (drawZ (drawZ (drawZ c)))
  have hv4 := drawV_lt (drawZ (drawZ (drawZ (drawZ c))))
  refine j_aload_n (n := 1) dX7_drawPerson_0 rfl rfl ?_
  refine jc_get (n := 4) (k := 1) (v := nI (c 0)) dX7_drawPerson_1 rfl fX7_44 (hT).c (hT).lo ((hT).hi (by omega)) (cm_r (ix_t rfl)) ?_
  refine j_bipush (n := 6) (v := nI 8) dX7_drawPerson_4 rfl (by decide) ?_
  refine j_icmp_ltT (n := 9) (tg := 10) dX7_drawPerson_6 rfl rfl (i_N (by omega)) (i_N (by omega)) (fun h101 => ?_) (fun h101 => ?_)
  · refine j_aload_n (n := 11) dX7_drawPerson_10 rfl rfl ?_
    refine j_cV (n := 14) dX7_drawPerson_11 rfl sX7_73 (c_draw d G _ _ _ hT _) (by omega) (by decide) rfl rfl (Nat.le_of_ble_eq_true rfl) (hT).c (hT).lo ((hT).hi (by omega)) (by decide) (by decide) ?_
    refine j_bipush (n := 16) (v := nI 6) dX7_drawPerson_14 rfl (by decide) ?_
    refine j_iremN (n := 17) (c := (drawV c) % 6) dX7_drawPerson_16 rfl (by omega) (by omega) (by omega) rfl ?_
    refine j_istore_n (n := 18) (lv2 := [some (.ref B), some (.int (nI ((drawV c) % 6))), none, none, none, none]) dX7_drawPerson_17 rfl rfl (by decide) rfl ?_
    refine j_aload_n (n := 19) dX7_drawPerson_18 rfl rfl ?_
    refine j_cV (n := 22) dX7_drawPerson_19 rfl sX7_73 (c_draw d G _ _ _ hT _) (by omega) (by decide) rfl rfl (Nat.le_of_ble_eq_true rfl) (hT).c (hT).lo ((hT).hi (by omega)) (by decide) (by decide) ?_
    refine j_bipush (n := 24) (v := nI 8) dX7_drawPerson_22 rfl (by decide) ?_
    refine j_iremN (n := 25) (c := (drawV (drawZ c)) % 8) dX7_drawPerson_24 rfl (by omega) (by omega) (by omega) rfl ?_
    refine j_istore_n (n := 26) (lv2 := [some (.ref B), some (.int (nI ((drawV c) % 6))), some (.int (nI ((drawV (drawZ c)) % 8))), none, none, none]) dX7_drawPerson_25 rfl rfl (by decide) rfl ?_
    refine j_aload_n (n := 27) dX7_drawPerson_26 rfl rfl ?_
    refine j_cV (n := 30) dX7_drawPerson_27 rfl sX7_73 (c_draw d G _ _ _ hT _) (by omega) (by decide) rfl rfl (Nat.le_of_ble_eq_true rfl) (hT).c (hT).lo ((hT).hi (by omega)) (by decide) (by decide) ?_
    refine j_bipush (n := 32) (v := nI 60) dX7_drawPerson_30 rfl (by decide) ?_
    refine j_iremN (n := 33) (c := (drawV (drawZ (drawZ c))) % 60) dX7_drawPerson_32 rfl (by omega) (by omega) (by omega) rfl ?_
    refine j_istore_n (n := 34) (lv2 := [some (.ref B), some (.int (nI ((drawV c) % 6))), some (.int (nI ((drawV (drawZ c)) % 8))), some (.int (nI ((drawV (drawZ (drawZ c))) % 60))), none, none]) dX7_drawPerson_33 rfl rfl (by decide) rfl ?_
    refine j_aload_n (n := 35) dX7_drawPerson_34 rfl rfl ?_
    refine j_cV (n := 38) dX7_drawPerson_35 rfl sX7_73 (c_draw d G _ _ _ hT _) (by omega) (by decide) rfl rfl (Nat.le_of_ble_eq_true rfl) (hT).c (hT).lo ((hT).hi (by omega)) (by decide) (by decide) ?_
    refine j_bipush (n := 40) (v := nI 60) dX7_drawPerson_38 rfl (by decide) ?_
    refine j_iremN (n := 41) (c := (drawV (drawZ (drawZ (drawZ c)))) % 60) dX7_drawPerson_40 rfl (by omega) (by omega) (by omega) rfl ?_
    refine j_istore (n := 43) (lv2 := [some (.ref B), some (.int (nI ((drawV c) % 6))), some (.int (nI ((drawV (drawZ c)) % 8))), some (.int (nI ((drawV (drawZ (drawZ c))) % 60))), some (.int (nI ((drawV (drawZ (drawZ (drawZ c)))) % 60))), none]) dX7_drawPerson_41 rfl rfl (by decide) rfl ?_
    refine j_aload_n (n := 44) dX7_drawPerson_43 rfl rfl ?_
    refine j_cV (n := 47) dX7_drawPerson_44 rfl sX7_73 (c_draw d G _ _ _ hT _) (by omega) (by decide) rfl rfl (Nat.le_of_ble_eq_true rfl) (hT).c (hT).lo ((hT).hi (by omega)) (by decide) (by decide) ?_
    refine j_bipush (n := 49) (v := nI 60) dX7_drawPerson_47 rfl (by decide) ?_
    refine j_iremN (n := 50) (c := (drawV (drawZ (drawZ (drawZ (drawZ c))))) % 60) dX7_drawPerson_49 rfl (by omega) (by omega) (by omega) rfl ?_
    refine j_istore (n := 52) (lv2 := [some (.ref B), some (.int (nI ((drawV c) % 6))), some (.int (nI ((drawV (drawZ c)) % 8))), some (.int (nI ((drawV (drawZ (drawZ c))) % 60))), some (.int (nI ((drawV (drawZ (drawZ (drawZ c)))) % 60))), some (.int (nI ((drawV (drawZ (drawZ (drawZ (drawZ c))))) % 60)))]) dX7_drawPerson_50 rfl rfl (by decide) rfl ?_
    refine j_aload_n (n := 53) dX7_drawPerson_52 rfl rfl ?_
    refine j_getr (n := 56) (k := 0) (b := B + 1) dX7_drawPerson_53 rfl fX7_11 (hT).c (hT).lo ((hT).hi (by omega)) (hT).r0 ?_
    refine j_aload_n (n := 57) dX7_drawPerson_56 rfl rfl ?_
    refine jc_get (n := 60) (k := 1) (v := nI (c 0)) dX7_drawPerson_57 rfl fX7_44 (hT).c (hT).lo ((hT).hi (by omega)) ((cm_r (ix_t rfl)).trans (congrArg nI (by repeat (first | rw [pu_eq] | rw [pu_ne _ _ (by omega)] | rw [drawZ_ne _ (by omega)])))) ?_
    refine jc_aald (n := 61) (t := 2) (L := 8) (i := c 0) (b := B + 5 + 2 * (c 0)) dX7_drawPerson_60 rfl ((hT).a1).1 (by decide) rfl ((hT).a1).2 (by omega) (by decide) (by have := (hT).lo; omega) ((hT).hi (by omega)) ((hT).e1 (by omega)) ?_
    refine j_iload_n (n := 62) dX7_drawPerson_61 rfl rfl ?_
    refine j_iload_n (n := 63) dX7_drawPerson_62 rfl rfl ?_
    refine j_iload_n (n := 64) dX7_drawPerson_63 rfl rfl ?_
    refine j_iload (n := 66) dX7_drawPerson_64 rfl rfl ?_
    refine j_iload (n := 68) dX7_drawPerson_66 rfl rfl ?_
    refine j_cVv (n := 71) dX7_drawPerson_68 rfl sX7_79 (c_becomeP d G _ _ (B + 5 + 2 * (c 0)) ((hT).p (by omega)) (nI ((drawV c) % 6)) (nI ((drawV (drawZ c)) % 8)) (nI ((drawV (drawZ (drawZ c))) % 60)) (nI ((drawV (drawZ (drawZ (drawZ c)))) % 60)) (nI ((drawV (drawZ (drawZ (drawZ (drawZ c))))) % 60))) (by omega) (by decide) rfl rfl (Nat.le_of_ble_eq_true rfl) ((hT).p (by omega)).2.2.1 ((hT).p (by omega)).1 ((hT).hi (by omega)) (by decide) (by decide) ?_
    refine j_mem (M2 := cm M B (pu (pu (pu (pu (pu (drawZ (drawZ (drawZ (drawZ (drawZ c))))) (10 + 5 * (c 0) + 0) ((drawV c) % 6)) (10 + 5 * (c 0) + 1) ((drawV (drawZ c)) % 8)) (10 + 5 * (c 0) + 2) ((drawV (drawZ (drawZ c))) % 60)) (10 + 5 * (c 0) + 3) ((drawV (drawZ (drawZ (drawZ c)))) % 60)) (10 + 5 * (c 0) + 4) ((drawV (drawZ (drawZ (drawZ (drawZ c))))) % 60))) (cm_be (by omega)) ?_
    refine j_aload_n (n := 72) dX7_drawPerson_71 rfl rfl ?_
    refine j_dup (n := 73) dX7_drawPerson_72 rfl rfl ?_
    refine jc_get (n := 76) (k := 1) (v := nI (c 0)) dX7_drawPerson_73 rfl fX7_44 (hT).c (hT).lo ((hT).hi (by omega)) ((cm_r (ix_t rfl)).trans (congrArg nI (by repeat (first | rw [pu_eq] | rw [pu_ne _ _ (by omega)] | rw [drawZ_ne _ (by omega)])))) ?_
    refine j_iconst (n := 77) (v := nI 1) dX7_drawPerson_76 rfl rfl ?_
    refine j_iaddN (n := 78) (c := c 0 + 1) dX7_drawPerson_77 rfl rfl ?_
    refine jc_put (n := 81) (k := 1) (x := nI (c 0 + 1)) (M2 := cm M B (pu (pu (pu (pu (pu (pu (drawZ (drawZ (drawZ (drawZ (drawZ c))))) (10 + 5 * (c 0) + 0) ((drawV c) % 6)) (10 + 5 * (c 0) + 1) ((drawV (drawZ c)) % 8)) (10 + 5 * (c 0) + 2) ((drawV (drawZ (drawZ c))) % 60)) (10 + 5 * (c 0) + 3) ((drawV (drawZ (drawZ (drawZ c)))) % 60)) (10 + 5 * (c 0) + 4) ((drawV (drawZ (drawZ (drawZ (drawZ c))))) % 60)) 0 (c 0 + 1))) dX7_drawPerson_78 rfl pX7_44 (fun h => by cases h) rfl rfl (hT).c (hT).lo ((hT).hi (by omega)) (cm_w (ix_t rfl) _) ?_
    exact j_rv dX7_drawPerson_81 rfl (Nat.le_refl _) (Nat.le_refl _) (congrArg (cm M B) (comes_c (p := drawZ (drawZ (drawZ (drawZ (drawZ c))))) (by repeat rw [drawZ_ne _ (by omega)]))) rfl
  · exfalso; omega
theorem c_allRegretsT (d : Nat) (G : zG) (M : zMem) (X : zX) (B : Nat) (hT : kT X B) (c : Nat → Nat) (hw : wfO c) : zCall G miX7_allRegrets (d + 1) [.ref B] (zI (nI (sumP c (c 0))) (cm M B c) X) (cm M B c) X 0 0 := by
  refine zCall.of (lv := [some (.ref B), none, none]) (by decide) (Nat.le_of_ble_eq_true rfl) rfl ?_
  have hw0 := hw.1
  refine j_iconst (n := 1) (v := nI 0) dX7_allRegrets_0 rfl rfl ?_
  refine j_istore_n (n := 2) (lv2 := [some (.ref B), some (.int (nI 0)), none]) dX7_allRegrets_1 rfl rfl (by decide) rfl ?_
  refine j_iconst (n := 3) (v := nI 0) dX7_allRegrets_2 rfl rfl ?_
  refine j_istore_n (n := 4) (lv2 := [some (.ref B), some (.int (nI 0)), some (.int (nI 0))]) dX7_allRegrets_3 rfl rfl (by decide) rfl ?_
  have loop : ∀ (j k : Nat), c 0 - k = j → k ≤ c 0 → zAt G miX7_allRegrets (zRm (d + 1) 0 0) (zQ G (zI (nI (sumP c (c 0))) (cm M B c) X) 0 0) 4 [some (.ref B), some (.int (nI (sumP c k))), some (.int (nI k))] [] (cm M B c) X (0, 0) := by
    intro j
    induction j using Nat.strongRecOn with
    | ind j ih =>
      intro k hj hk0
      refine j_iload_n (n := 5) dX7_allRegrets_4 rfl rfl ?_
      refine j_aload_n (n := 6) dX7_allRegrets_5 rfl rfl ?_
      refine jc_get (n := 9) (k := 1) (v := nI (c 0)) dX7_allRegrets_6 rfl fX7_44 (hT).c (hT).lo ((hT).hi (by omega)) (cm_r (ix_t rfl)) ?_
      refine j_icmp_geT (n := 12) (tg := 30) dX7_allRegrets_9 rfl rfl (i_N (by omega)) (i_N (by omega)) (fun h101 => ?_) (fun h101 => ?_)
      · refine j_iload_n (n := 31) dX7_allRegrets_30 rfl rfl ?_
        exact j_ri dX7_allRegrets_31 rfl (Nat.le_refl _) (Nat.le_refl _) (by rw [show k = c 0 by omega]) rfl rfl
      · refine j_iload_n (n := 13) dX7_allRegrets_12 rfl rfl ?_
        refine j_aload_n (n := 14) dX7_allRegrets_13 rfl rfl ?_
        refine j_getr (n := 17) (k := 0) (b := B + 1) dX7_allRegrets_14 rfl fX7_11 (hT).c (hT).lo ((hT).hi (by omega)) (hT).r0 ?_
        refine j_iload_n (n := 18) dX7_allRegrets_17 rfl rfl ?_
        refine jc_aald (n := 19) (t := 2) (L := 8) (i := k) (b := B + 5 + 2 * k) dX7_allRegrets_18 rfl ((hT).a1).1 (by decide) rfl ((hT).a1).2 (by omega) (by decide) (by have := (hT).lo; omega) ((hT).hi (by omega)) ((hT).e1 (by omega)) ?_
        refine j_cV (n := 22) dX7_allRegrets_19 rfl sX7_155 (c_allRegretsP d G _ _ (B + 5 + 2 * k) ((hT).p (by omega)) (c (10 + 5 * k + 2)) (c (10 + 5 * k + 3)) (c (10 + 5 * k + 4)) (cm_r (ix_r1 (by omega) (by omega) rfl)) (cm_r (ix_r1 (by omega) (by omega) rfl)) (cm_r (ix_r1 (by omega) (by omega) rfl))) (by omega) (by decide) rfl rfl (Nat.le_of_ble_eq_true rfl) ((hT).p (by omega)).2.2.1 ((hT).p (by omega)).1 ((hT).hi (by omega)) (by decide) (by decide) ?_
        refine j_iaddN (n := 23) (c := sumP c k + ((c (10 + 5 * k + 2)) + (c (10 + 5 * k + 3)) + (c (10 + 5 * k + 4)))) dX7_allRegrets_22 rfl (by omega) ?_
        refine j_top (y := nI (sumP c (k + 1))) rfl ?_
        refine j_istore_n (n := 24) (lv2 := [some (.ref B), some (.int (nI (sumP c (k + 1)))), some (.int (nI k))]) dX7_allRegrets_23 rfl rfl (by decide) rfl ?_
        refine j_iinc (n := 27) (y := nI (k + 1)) (lv2 := [some (.ref B), some (.int (nI (sumP c (k + 1)))), some (.int (nI (k + 1)))]) dX7_allRegrets_24 rfl rfl (by decide) rfl (show nI k + nI 1 = nI (k + 1) by rw [nI_add]) rfl ?_
        refine j_goto (n := 4) dX7_allRegrets_27 rfl ?_
        exact ih _ (by omega) (k + 1) rfl (by omega)
  exact loop _ 0 rfl (Nat.zero_le _)
theorem c_jammedLocks (d : Nat) (G : zG) (M : zMem) (X : zX) (B : Nat) (hT : kT X B) (c : Nat → Nat) (hw : wfL c) : zCall G miX7_jammedLocks (d + 0) [.ref B] (zI (setOf (fun k => c (50 + 5 * k + 4) = 1) (c 8)) (cm M B c) X) (cm M B c) X 0 0 := by
  refine zCall.of (lv := [some (.ref B), none, none]) (by decide) (Nat.le_of_ble_eq_true rfl) rfl ?_
  have hw0 := hw.1
  refine j_iconst (n := 1) (v := nI 0) dX7_jammedLocks_0 rfl rfl ?_
  refine j_istore_n (n := 2) (lv2 := [some (.ref B), some (.int (nI 0)), none]) dX7_jammedLocks_1 rfl rfl (by decide) rfl ?_
  refine j_iconst (n := 3) (v := nI 0) dX7_jammedLocks_2 rfl rfl ?_
  refine j_istore_n (n := 4) (lv2 := [some (.ref B), some (.int (nI 0)), some (.int (nI 0))]) dX7_jammedLocks_3 rfl rfl (by decide) rfl ?_
  have loop : ∀ (j k : Nat), c 8 - k = j → k ≤ c 8 → zAt G miX7_jammedLocks (zRm (d + 0) 0 0) (zQ G (zI (setOf (fun k => c (50 + 5 * k + 4) = 1) (c 8)) (cm M B c) X) 0 0) 4 [some (.ref B), some (.int (setOf (fun k => c (50 + 5 * k + 4) = 1) k)), some (.int (nI k))] [] (cm M B c) X (0, 0) := by
    intro j
    induction j using Nat.strongRecOn with
    | ind j ih =>
      intro k hj hk0
      refine j_iload_n (n := 5) dX7_jammedLocks_4 rfl rfl ?_
      refine j_aload_n (n := 6) dX7_jammedLocks_5 rfl rfl ?_
      refine jc_get (n := 9) (k := 3) (v := nI (c 8)) dX7_jammedLocks_6 rfl fX7_51 (hT).c (hT).lo ((hT).hi (by omega)) (cm_r (ix_t rfl)) ?_
      refine j_icmp_geT (n := 12) (tg := 36) dX7_jammedLocks_9 rfl rfl (i_N (by omega)) (i_N (by omega)) (fun h101 => ?_) (fun h101 => ?_)
      · refine j_iload_n (n := 37) dX7_jammedLocks_36 rfl rfl ?_
        exact j_ri dX7_jammedLocks_37 rfl (Nat.le_refl _) (Nat.le_refl _) (by rw [show k = c 8 by omega]) rfl rfl
      · have hl := hw.2 k (by omega)
        refine j_aload_n (n := 13) dX7_jammedLocks_12 rfl rfl ?_
        refine j_getr (n := 16) (k := 2) (b := B + 2) dX7_jammedLocks_13 rfl fX7_19 (hT).c (hT).lo ((hT).hi (by omega)) (hT).r2 ?_
        refine j_iload_n (n := 17) dX7_jammedLocks_16 rfl rfl ?_
        refine jc_aald (n := 18) (t := 3) (L := 10) (i := k) (b := B + 21 + k) dX7_jammedLocks_17 rfl ((hT).a2).1 (by decide) rfl ((hT).a2).2 (by omega) (by decide) (by have := (hT).lo; omega) ((hT).hi (by omega)) ((hT).e2 (by omega)) ?_
        refine jc_get (n := 21) (k := 4) (v := nI (c (50 + 5 * k + 4))) dX7_jammedLocks_18 rfl fX7_107 ((hT).l (by omega)) (by have := (hT).lo; omega) ((hT).hi (by omega)) (cm_r (ix_l (by omega) (by decide) rfl)) ?_
        refine j_if_eqN (n := 24) (tg := 30) dX7_jammedLocks_21 rfl rfl (by omega) (fun h102 => ?_) (fun h102 => ?_)
        · refine j_iinc (n := 33) (y := nI (k + 1)) (lv2 := [some (.ref B), some (.int (setOf (fun k => c (50 + 5 * k + 4) = 1) k)), some (.int (nI (k + 1)))]) dX7_jammedLocks_30 rfl rfl (by decide) rfl (show nI k + nI 1 = nI (k + 1) by rw [nI_add]) rfl ?_
          refine j_goto (n := 4) dX7_jammedLocks_33 rfl ?_
          have e1 : setOf (fun k => c (50 + 5 * k + 4) = 1) k = setOf (fun k => c (50 + 5 * k + 4) = 1) (k + 1) := by first | (rw [setOf, if_pos (by omega)]; done) | (rw [setOf, if_neg (by omega), or_0])
          rw [e1]
          exact ih _ (by omega) (k + 1) rfl (by omega)
        · refine j_iload_n (n := 25) dX7_jammedLocks_24 rfl rfl ?_
          refine j_iconst (n := 26) (v := nI 1) dX7_jammedLocks_25 rfl rfl ?_
          refine j_iload_n (n := 27) dX7_jammedLocks_26 rfl rfl ?_
          refine j_ishl (n := 28) dX7_jammedLocks_27 rfl ?_
          refine j_ior (n := 29) dX7_jammedLocks_28 rfl ?_
          refine j_istore_n (n := 30) (lv2 := [some (.ref B), some (.int ((setOf (fun k => c (50 + 5 * k + 4) = 1) k) ||| ((nI 1) <<< ((nI k) &&& 31)))), some (.int (nI k))]) dX7_jammedLocks_29 rfl rfl (by decide) rfl ?_
          refine j_iinc (n := 33) (y := nI (k + 1)) (lv2 := [some (.ref B), some (.int ((setOf (fun k => c (50 + 5 * k + 4) = 1) k) ||| ((nI 1) <<< ((nI k) &&& 31)))), some (.int (nI (k + 1)))]) dX7_jammedLocks_30 rfl rfl (by decide) rfl (show nI k + nI 1 = nI (k + 1) by rw [nI_add]) rfl ?_
          refine j_goto (n := 4) dX7_jammedLocks_33 rfl ?_
          have e1 : (setOf (fun k => c (50 + 5 * k + 4) = 1) k) ||| ((nI 1) <<< ((nI k) &&& 31)) = setOf (fun k => c (50 + 5 * k + 4) = 1) (k + 1) := by first | (rw [setOf, if_pos (by omega)]; done) | (rw [setOf, if_neg (by omega), or_0])
          rw [e1]
          exact ih _ (by omega) (k + 1) rfl (by omega)
  exact loop _ 0 rfl (Nat.zero_le _)
theorem c_thoseWhoFeel (d : Nat) (G : zG) (M : zMem) (X : zX) (B : Nat) (hT : kT X B) (c : Nat → Nat) (hw : wfO c) (s v : Nat) (hs : s ≤ 2) (hv : v ≤ 99) : zCall G miX7_thoseWhoFeel (d + 2) [.ref B, .int (nI s), .int (nI v)] (zI (feelS c s v) (cm M B c) X) (cm M B c) X 0 0 := by
  refine zCall.of (lv := [some (.ref B), some (.int (nI s)), some (.int (nI v)), none, none]) (by decide) (Nat.le_of_ble_eq_true rfl) rfl ?_
  have hw0 := hw.1
  refine j_iconst (n := 1) (v := nI 0) dX7_thoseWhoFeel_0 rfl rfl ?_
  refine j_istore_n (n := 2) (lv2 := [some (.ref B), some (.int (nI s)), some (.int (nI v)), some (.int (nI 0)), none]) dX7_thoseWhoFeel_1 rfl rfl (by decide) rfl ?_
  refine j_iconst (n := 3) (v := nI 0) dX7_thoseWhoFeel_2 rfl rfl ?_
  refine j_istore (n := 5) (lv2 := [some (.ref B), some (.int (nI s)), some (.int (nI v)), some (.int (nI 0)), some (.int (nI 0))]) dX7_thoseWhoFeel_3 rfl rfl (by decide) rfl ?_
  have loop : ∀ (j k : Nat), c 0 - k = j → k ≤ c 0 → zAt G miX7_thoseWhoFeel (zRm (d + 2) 0 0) (zQ G (zI (feelS c s v) (cm M B c) X) 0 0) 5 [some (.ref B), some (.int (nI s)), some (.int (nI v)), some (.int (setOf (fun k => v ≤ feelsN (c (10 + 5 * k + 0)) (c (10 + 5 * k + (2 + s)))) k)), some (.int (nI k))] [] (cm M B c) X (0, 0) := by
    intro j
    induction j using Nat.strongRecOn with
    | ind j ih =>
      intro k hj hk0
      refine j_iload (n := 7) dX7_thoseWhoFeel_5 rfl rfl ?_
      refine j_aload_n (n := 8) dX7_thoseWhoFeel_7 rfl rfl ?_
      refine jc_get (n := 11) (k := 1) (v := nI (c 0)) dX7_thoseWhoFeel_8 rfl fX7_44 (hT).c (hT).lo ((hT).hi (by omega)) (cm_r (ix_t rfl)) ?_
      refine j_icmp_geT (n := 14) (tg := 42) dX7_thoseWhoFeel_11 rfl rfl (i_N (by omega)) (i_N (by omega)) (fun h101 => ?_) (fun h101 => ?_)
      · refine j_iload_n (n := 43) dX7_thoseWhoFeel_42 rfl rfl ?_
        exact j_ri dX7_thoseWhoFeel_43 rfl (Nat.le_refl _) (Nat.le_refl _) (by unfold feelS; rw [show k = c 0 by omega]) rfl rfl
      · have ho := hw.2 k (by omega)
        have hr := hw.reg (k := k) (j := s) (by omega) hs
        have hf := feelsN_le (k := c (10 + 5 * k + 0)) hr
        refine j_aload_n (n := 15) dX7_thoseWhoFeel_14 rfl rfl ?_
        refine j_getr (n := 18) (k := 0) (b := B + 1) dX7_thoseWhoFeel_15 rfl fX7_11 (hT).c (hT).lo ((hT).hi (by omega)) (hT).r0 ?_
        refine j_iload (n := 20) dX7_thoseWhoFeel_18 rfl rfl ?_
        refine jc_aald (n := 21) (t := 2) (L := 8) (i := k) (b := B + 5 + 2 * k) dX7_thoseWhoFeel_20 rfl ((hT).a1).1 (by decide) rfl ((hT).a1).2 (by omega) (by decide) (by have := (hT).lo; omega) ((hT).hi (by omega)) ((hT).e1 (by omega)) ?_
        refine j_iload_n (n := 22) dX7_thoseWhoFeel_21 rfl rfl ?_
        refine j_cV (n := 25) dX7_thoseWhoFeel_22 rfl sX7_164 (c_feelsOf d G _ _ (B + 5 + 2 * k) ((hT).p (by omega)) s (c (10 + 5 * k + 0)) (c (10 + 5 * k + (2 + s))) (by omega) (cm_r (ix_p (by omega) (by decide) rfl)) (cm_r (ix_r1 (by omega) (by omega) rfl)) (by omega) (by omega)) (by omega) (by decide) rfl rfl (Nat.le_of_ble_eq_true rfl) ((hT).p (by omega)).2.2.1 ((hT).p (by omega)).1 ((hT).hi (by omega)) (by decide) (by decide) ?_
        refine j_iload_n (n := 26) dX7_thoseWhoFeel_25 rfl rfl ?_
        refine j_icmp_ltT (n := 29) (tg := 36) dX7_thoseWhoFeel_26 rfl rfl (i_N (by omega)) (i_N (by omega)) (fun h102 => ?_) (fun h102 => ?_)
        · refine j_iinc (n := 39) (y := nI (k + 1)) (lv2 := [some (.ref B), some (.int (nI s)), some (.int (nI v)), some (.int (setOf (fun k => v ≤ feelsN (c (10 + 5 * k + 0)) (c (10 + 5 * k + (2 + s)))) k)), some (.int (nI (k + 1)))]) dX7_thoseWhoFeel_36 rfl rfl (by decide) rfl (show nI k + nI 1 = nI (k + 1) by rw [nI_add]) rfl ?_
          refine j_goto (n := 5) dX7_thoseWhoFeel_39 rfl ?_
          have e1 : setOf (fun k => v ≤ feelsN (c (10 + 5 * k + 0)) (c (10 + 5 * k + (2 + s)))) k = setOf (fun k => v ≤ feelsN (c (10 + 5 * k + 0)) (c (10 + 5 * k + (2 + s)))) (k + 1) := by first | (rw [setOf, if_pos (by omega)]; done) | (rw [setOf, if_neg (by omega), or_0])
          rw [e1]
          exact ih _ (by omega) (k + 1) rfl (by omega)
        · refine j_iload_n (n := 30) dX7_thoseWhoFeel_29 rfl rfl ?_
          refine j_iconst (n := 31) (v := nI 1) dX7_thoseWhoFeel_30 rfl rfl ?_
          refine j_iload (n := 33) dX7_thoseWhoFeel_31 rfl rfl ?_
          refine j_ishl (n := 34) dX7_thoseWhoFeel_33 rfl ?_
          refine j_ior (n := 35) dX7_thoseWhoFeel_34 rfl ?_
          refine j_istore_n (n := 36) (lv2 := [some (.ref B), some (.int (nI s)), some (.int (nI v)), some (.int ((setOf (fun k => v ≤ feelsN (c (10 + 5 * k + 0)) (c (10 + 5 * k + (2 + s)))) k) ||| ((nI 1) <<< ((nI k) &&& 31)))), some (.int (nI k))]) dX7_thoseWhoFeel_35 rfl rfl (by decide) rfl ?_
          refine j_iinc (n := 39) (y := nI (k + 1)) (lv2 := [some (.ref B), some (.int (nI s)), some (.int (nI v)), some (.int ((setOf (fun k => v ≤ feelsN (c (10 + 5 * k + 0)) (c (10 + 5 * k + (2 + s)))) k) ||| ((nI 1) <<< ((nI k) &&& 31)))), some (.int (nI (k + 1)))]) dX7_thoseWhoFeel_36 rfl rfl (by decide) rfl (show nI k + nI 1 = nI (k + 1) by rw [nI_add]) rfl ?_
          refine j_goto (n := 5) dX7_thoseWhoFeel_39 rfl ?_
          have e1 : (setOf (fun k => v ≤ feelsN (c (10 + 5 * k + 0)) (c (10 + 5 * k + (2 + s)))) k) ||| ((nI 1) <<< ((nI k) &&& 31)) = setOf (fun k => v ≤ feelsN (c (10 + 5 * k + 0)) (c (10 + 5 * k + (2 + s)))) (k + 1) := by first | (rw [setOf, if_pos (by omega)]; done) | (rw [setOf, if_neg (by omega), or_0])
          rw [e1]
          exact ih _ (by omega) (k + 1) rfl (by omega)
  exact loop _ 0 rfl (Nat.zero_le _)
theorem setOf_f {P : Nat → Prop} [DecidablePred P] : ∀ n, (∀ k, k < n → ¬ P k) → setOf P n = nI 0
  | 0, _ => rfl
  | n + 1, h => by rw [setOf, if_neg (h n (by omega)), or_0, setOf_f n (fun k hk => h k (by omega))]
theorem setOf_congr {P Q : Nat → Prop} [DecidablePred P] [DecidablePred Q] : ∀ n, (∀ k, k < n → (P k ↔ Q k)) → setOf P n = setOf Q n
  | 0, _ => rfl
  | n + 1, h => by
    rw [setOf, setOf, setOf_congr n (fun k hk => h k (by omega))]
    by_cases hp : P n
    · rw [if_pos hp, if_pos ((h n (by omega)).mp hp)]
    · rw [if_neg hp, if_neg (fun z => hp ((h n (by omega)).mpr z))]
theorem c_thoseWhoOpen (d : Nat) (G : zG) (M : zMem) (X : zX) (B : Nat) (hT : kT X B) (c : Nat → Nat) (hw : wfO c) (hwl : wfL c) (l : Nat) (hl1 : l < c 8) : zCall G miX7_thoseWhoOpen (d + 3) [.ref B, .ref (B + 21 + l)] (zI (setOf (fun k => c (50 + 5 * l + 4) = 0 ∧ c (50 + 5 * l + 3) ≤ feelsN (c (10 + 5 * k + 0)) (c (10 + 5 * k + (2 + c (50 + 5 * l + 2))))) (c 0)) (cm M B c) X) (cm M B c) X 0 0 := by
  refine zCall.of (lv := [some (.ref B), some (.ref (B + 21 + l))]) (by decide) (Nat.le_of_ble_eq_true rfl) rfl ?_
  have hw1 := hwl.1
  have hl := hwl.2 l hl1
  refine j_aload_n (n := 1) dX7_thoseWhoOpen_0 rfl rfl ?_
  refine jc_get (n := 4) (k := 4) (v := nI (c (50 + 5 * l + 4))) dX7_thoseWhoOpen_1 rfl fX7_107 ((hT).l (by omega)) (by have := (hT).lo; omega) ((hT).hi (by omega)) (cm_r (ix_l (by omega) (by decide) rfl)) ?_
  refine j_if_eqN (n := 7) (tg := 11) dX7_thoseWhoOpen_4 rfl rfl (by omega) (fun h101 => ?_) (fun h101 => ?_)
  · refine j_aload_n (n := 12) dX7_thoseWhoOpen_11 rfl rfl ?_
    refine j_aload_n (n := 13) dX7_thoseWhoOpen_12 rfl rfl ?_
    refine jc_get (n := 16) (k := 2) (v := nI (c (50 + 5 * l + 2))) dX7_thoseWhoOpen_13 rfl fX7_127 ((hT).l (by omega)) (by have := (hT).lo; omega) ((hT).hi (by omega)) (cm_r (ix_l (by omega) (by decide) rfl)) ?_
    refine j_aload_n (n := 17) dX7_thoseWhoOpen_16 rfl rfl ?_
    refine jc_get (n := 20) (k := 3) (v := nI (c (50 + 5 * l + 3))) dX7_thoseWhoOpen_17 rfl fX7_158 ((hT).l (by omega)) (by have := (hT).lo; omega) ((hT).hi (by omega)) (cm_r (ix_l (by omega) (by decide) rfl)) ?_
    refine j_cV (n := 23) dX7_thoseWhoOpen_20 rfl sX7_161 (c_thoseWhoFeel d G _ _ _ hT _ hw (c (50 + 5 * l + 2)) (c (50 + 5 * l + 3)) (by omega) (by omega)) (by omega) (by decide) rfl rfl (Nat.le_of_ble_eq_true rfl) (hT).c (hT).lo ((hT).hi (by omega)) (by decide) (by decide) ?_
    exact j_ri dX7_thoseWhoOpen_23 rfl (Nat.le_refl _) (Nat.le_refl _) (by first | exact (setOf_f _ (fun k hk z => by omega)).symm | (unfold feelS; exact setOf_congr _ (fun k hk => ⟨fun z => ⟨by omega, z⟩, fun z => z.2⟩))) rfl rfl
  · refine j_iconst (n := 8) (v := nI 0) dX7_thoseWhoOpen_7 rfl rfl ?_
    refine j_goto (n := 23) dX7_thoseWhoOpen_8 rfl ?_
    exact j_ri dX7_thoseWhoOpen_23 rfl (Nat.le_refl _) (Nat.le_refl _) (by first | exact (setOf_f _ (fun k hk z => by omega)).symm | (unfold feelS; exact setOf_congr _ (fun k hk => ⟨fun z => ⟨by omega, z⟩, fun z => z.2⟩))) rfl rfl
theorem mend_8 (c : Nat → Nat) : ∀ k, mendP c k 8 = c 8
  | 0 => rfl
  | k + 1 => by rw [mendP, pu_ne _ _ (by omega), mend_8 c k]
theorem c_mendAll (d : Nat) (G : zG) (M : zMem) (X : zX) (B : Nat) (hT : kT X B) (c : Nat → Nat) (hw : c 8 ≤ 10) : zCall G miX7_mendAll (d + 0) [.ref B] (zV (cm M B (mendP c (c 8))) X) (cm M B c) X 0 0 := by
  refine zCall.of (lv := [some (.ref B), none]) (by decide) (Nat.le_of_ble_eq_true rfl) rfl ?_
  refine j_iconst (n := 1) (v := nI 0) dX7_mendAll_0 rfl rfl ?_
  refine j_istore_n (n := 2) (lv2 := [some (.ref B), some (.int (nI 0))]) dX7_mendAll_1 rfl rfl (by decide) rfl ?_
  have loop : ∀ (j k : Nat), c 8 - k = j → k ≤ c 8 → zAt G miX7_mendAll (zRm (d + 0) 0 0) (zQ G (zV (cm M B (mendP c (c 8))) X) 0 0) 2 [some (.ref B), some (.int (nI k))] [] (cm M B (mendP c k)) X (0, 0) := by
    intro j
    induction j using Nat.strongRecOn with
    | ind j ih =>
      intro k hj hk0
      refine j_iload_n (n := 3) dX7_mendAll_2 rfl rfl ?_
      refine j_aload_n (n := 4) dX7_mendAll_3 rfl rfl ?_
      refine jc_get (n := 7) (k := 3) (v := nI (c 8)) dX7_mendAll_4 rfl fX7_51 (hT).c (hT).lo ((hT).hi (by omega)) ((cm_r (ix_t rfl)).trans (congrArg nI (mend_8 c k))) ?_
      refine j_icmp_geT (n := 10) (tg := 26) dX7_mendAll_7 rfl rfl (i_N (by omega)) (i_N (by omega)) (fun h101 => ?_) (fun h101 => ?_)
      · exact j_rv dX7_mendAll_26 rfl (Nat.le_refl _) (Nat.le_refl _) (by rw [show k = c 8 by omega]) rfl
      · refine j_aload_n (n := 11) dX7_mendAll_10 rfl rfl ?_
        refine j_getr (n := 14) (k := 2) (b := B + 2) dX7_mendAll_11 rfl fX7_19 (hT).c (hT).lo ((hT).hi (by omega)) (hT).r2 ?_
        refine j_iload_n (n := 15) dX7_mendAll_14 rfl rfl ?_
        refine jc_aald (n := 16) (t := 3) (L := 10) (i := k) (b := B + 21 + k) dX7_mendAll_15 rfl ((hT).a2).1 (by decide) rfl ((hT).a2).2 (by omega) (by decide) (by have := (hT).lo; omega) ((hT).hi (by omega)) ((hT).e2 (by omega)) ?_
        refine j_iconst (n := 17) (v := nI 0) dX7_mendAll_16 rfl rfl ?_
        refine jc_put (n := 20) (k := 4) (x := nI 0) (M2 := cm M B (pu (mendP c k) (50 + 5 * k + 4) 0)) dX7_mendAll_17 rfl pX7_107 (fun h => by cases h) rfl rfl ((hT).l (by omega)) (by have := (hT).lo; omega) ((hT).hi (by omega)) (cm_w (ix_l (by omega) (by decide) rfl) _) ?_
        refine j_iinc (n := 23) (y := nI (k + 1)) (lv2 := [some (.ref B), some (.int (nI (k + 1)))]) dX7_mendAll_20 rfl rfl (by decide) rfl (show nI k + nI 1 = nI (k + 1) by rw [nI_add]) rfl ?_
        refine j_goto (n := 2) dX7_mendAll_23 rfl ?_
        exact ih _ (by omega) (k + 1) rfl (by omega)
  exact loop _ 0 rfl (Nat.zero_le _)
/-- a weaker end -/
theorem zCall.post {G : zG} {mi : zM} {d : Nat} {as : List Value} {P Q : Option Value → zMem → zX → Prop} {M : zMem} {X : zX} {C N : Nat} (h : zCall G mi d as P M X C N) (hpq : ∀ v M1 X1, P v M1 X1 → Q v M1 X1) : zCall G mi d as Q M X C N := by
  unfold zCall Met at h ⊢
  exact Free.MetFree.mono h (fun _ _ z => z) (fun _ _ _ _ _ z => z) (fun a s o t _ hq => by
    obtain ⟨⟨v, M1, X1, e1, e2, e3⟩, e4⟩ := hq
    exact ⟨⟨v, M1, X1, e1, hpq _ _ _ e2, e3⟩, e4⟩)
theorem cm_hi {M : zMem} {B : Nat} {c : Nat → Nat} {a : Nat} (h : B + 31 ≤ a) : cm M B c a = M a := cm_o (ix_n (by omega))
theorem txt_cm {M : zMem} {X : zX} {a : Nat} {c : Nat → Nat} {t : Nat} (h : txt M X a c t) (B : Nat) (e : Nat → Nat) (hB : B + 31 ≤ 160) : txt (cm M B e) X a c t := by
  obtain ⟨h1, h2, h3, h4, h5, h6, h7, h8, h9, h10⟩ := h
  have e0 : cm M B e a = M a := cm_hi (by omega)
  have e1 : cm M B e (a + 1) = M (a + 1) := cm_hi (by omega)
  refine ⟨h1, h2, h3, h4, h5, h6, by rw [e0]; exact h7, by rw [e0]; exact h8, by rw [e0]; exact h9, fun k hk => ?_⟩
  rw [e1]
  exact h10 k hk
/-- a memory that differs from a town's memory in stacks alone is such a town's memory again -/
theorem scT_un {M M1 : zMem} {B : Nat} {c : Nat → Nat} (hB : B + 31 ≤ 160) (h : scT (cm M B c) M1) : ∃ M2, scT M M2 ∧ M1 = cm M2 B c := by
  refine ⟨fun a => if 181 ≤ a ∧ (a - 181) % 3 = 2 then M1 a else M a, fun a ha => if_neg ha, ?_⟩
  funext a
  by_cases hs : 181 ≤ a ∧ (a - 181) % 3 = 2
  · rw [cm_hi (by omega), if_pos hs]
  · rw [h a hs]
    funext k
    cases hj : ix B a k with
    | none => rw [cm_k hj, cm_k hj, if_neg hs]
    | some i => rw [cm_r hj, cm_r hj]
theorem c_valueT (d : Nat) (G : zG) (M : zMem) (X : zX) (B : Nat) (hB : B + 31 ≤ 160) (c : Nat → Nat) {a t : Nat} (ht : txt M X a c t) (hwx : wfX c t) (x y z : Int32) : zCall G miX6_value (d + 1) [.ref a, .int x, .int y, .int z] (zIr (fun r M1 X1 => r = evT c t x y z ∧ X1 = X ∧ ∃ M2, scT M M2 ∧ M1 = cm M2 B c)) (cm M B c) X 0 0 := by
  have h := c_value d G (cm M B c) X a c t (txt_cm ht B c hB) hwx x y z
  refine zCall.post h (fun v M1 X1 hv => ?_)
  obtain ⟨r, e1, e2, e3, e4⟩ := hv
  exact ⟨r, e1, e2, e3, scT_un hB e4⟩
theorem j_astoreN {G : zG} {mi : zM} {rm : Room} {Q : List Frame → Array Value → State → State → Prop} {pc n : Nat} {lv : List (Option Value)} {st : List Value} {M : zMem} {X : zX} {cn : Nat × Nat} {i : Nat} {lv2 : List (Option Value)} (hd : decode (zc mi) pc = .ok (.astore i, 2)) (hn : pc + 2 = n) (hc : lv1 lv = true) (hi : (i : Nat) < mi.2.2.1) (h2 : lv.set i (some .null) = lv2) (k : zAt G mi rm Q n lv2 st M X cn) : zAt G mi rm Q pc lv (.null :: st) M X cn := by
  subst hn; subst h2
  exact fun p e s m args below meth c H locs ls E hP hS hl => lv_astoreN E.1 E.2.1 hd (zL_has hl) hi rfl (fun ls1 h1 => k p e s m args below meth c H locs ls1 E hP hS (zL_set (v := .null) hl hc h1))
theorem c_leftOf (d : Nat) (G : zG) (M : zMem) (X : zX) (B : Nat) (hT : kT X B) (c : Nat → Nat) (hx : tx M X B c) (hwt : wfT c) (hd2 : c 2 < 2147483648) (kd sort r : Nat) (hkd : kd ≤ 5) (hs : sort ≤ 2) (hr : r ≤ 99) : zCall G miX7_leftOf (d + 2) [.ref B, .int (nI kd), .int (nI sort), .int (nI r)] (zIr (fun r0 M1 X1 => r0 = nI (wornP c kd r sort) ∧ X1 = X ∧ ∃ M2, scT M M2 ∧ M1 = cm M2 B c)) (cm M B c) X 0 0 := by
  refine zCall.of (lv := [some (.ref B), some (.int (nI kd)), some (.int (nI sort)), some (.int (nI r)), none, none]) (by decide) (Nat.le_of_ble_eq_true rfl) rfl ?_
  refine j_aload_n (n := 1) dX7_leftOf_0 rfl rfl ?_
  refine j_getr (n := 4) (k := 6) (b := B + 4) dX7_leftOf_1 rfl fX7_29 (hT).c (hT).lo ((hT).hi (by omega)) (hT).r6 ?_
  cases hc : cnt c 0 (c 1) with
  | none =>
    have hno := hx.no (by decide) hc
    refine j_iconst (n := 5) (v := nI 0) dX7_leftOf_4 rfl rfl ?_
    refine jc_aaldN (n := 6) (t := 4) (L := 3) (i := 0) dX7_leftOf_5 rfl ((hT).a4).1 (by decide) rfl ((hT).a4).2 (by decide) (by decide) (by have := (hT).lo; omega) ((hT).hi (by omega)) hno ?_
    refine j_astoreN (n := 8) (lv2 := [some (.ref B), some (.int (nI kd)), some (.int (nI sort)), some (.int (nI r)), some (.null), none]) dX7_leftOf_6 rfl rfl (by decide) rfl ?_
    refine j_aloadN (n := 10) dX7_leftOf_8 rfl rfl ?_
    refine j_ifnonnullN (n := 13) dX7_leftOf_10 rfl ?_
    refine j_iconst (n := 14) (v := nI 2) dX7_leftOf_13 rfl rfl ?_
    refine j_goto (n := 33) dX7_leftOf_14 rfl ?_
    refine j_istore (n := 35) (lv2 := [some (.ref B), some (.int (nI kd)), some (.int (nI sort)), some (.int (nI r)), some (.null), some (.int (nI 2))]) dX7_leftOf_33 rfl rfl (by decide) rfl ?_
    refine j_iconst (n := 36) (v := nI 0) dX7_leftOf_35 rfl rfl ?_
    refine j_iload_n (n := 37) dX7_leftOf_36 rfl rfl ?_
    refine j_iload_n (n := 38) dX7_leftOf_37 rfl rfl ?_
    refine j_iload (n := 40) dX7_leftOf_38 rfl rfl ?_
    refine j_cS (n := 43) dX7_leftOf_40 rfl sX7_144 (c_wearsK (d + 1) G _ _ kd 2 (by omega) (by omega)) (by omega) (by decide) rfl rfl (Nat.le_of_ble_eq_true rfl) (by decide) (by decide) ?_
    refine j_isub (n := 44) dX7_leftOf_43 rfl ?_
    have hwn := wearN_le (k := kd) (q := 2) (by omega)
    have esub : ((nI r) - (nI (wearN kd 2))).toInt = (r : Int) - (wearN kd 2 : Int) := pk_sub_toInt (by omega) (by omega)
    refine j_mmax (n := 47) dX7_leftOf_44 rfl sX7_147 (by omega) (Nat.le_of_ble_eq_true rfl) (by decide) (by decide) ?_
    refine j_top (y := nI (((nI r) - (nI (wearN kd 2))).toInt.toNat)) maxI_0 ?_
    exact j_iret dX7_leftOf_47 rfl rfl (Nat.le_refl _) (Nat.le_refl _) ⟨_, rfl, (congrArg nI (by rw [esub]; unfold wornP plainP; rw [hc]; dsimp only; omega)), rfl, _, scT.rf M, rfl⟩
  | some t =>
    obtain ⟨a, hla, hta⟩ := hx.law (by decide) hc
    obtain ⟨ht1, hkey⟩ := cnt_lt hc
    refine j_iconst (n := 5) (v := nI 0) dX7_leftOf_4 rfl rfl ?_
    refine jc_aald (n := 6) (t := 4) (L := 3) (i := 0) (b := a) dX7_leftOf_5 rfl ((hT).a4).1 (by decide) rfl ((hT).a4).2 (by decide) (by decide) (by have := (hT).lo; omega) ((hT).hi (by omega)) hla ?_
    refine j_astore (n := 8) (lv2 := [some (.ref B), some (.int (nI kd)), some (.int (nI sort)), some (.int (nI r)), some (.ref a), none]) dX7_leftOf_6 rfl rfl (by decide) rfl ?_
    refine j_aload (n := 10) dX7_leftOf_8 rfl rfl ?_
    refine j_ifnonnull (tg := 17) dX7_leftOf_10 rfl ?_
    refine j_aload (n := 19) dX7_leftOf_17 rfl rfl ?_
    refine j_iload_n (n := 20) dX7_leftOf_19 rfl rfl ?_
    refine j_iload_n (n := 21) dX7_leftOf_20 rfl rfl ?_
    refine j_aload_n (n := 22) dX7_leftOf_21 rfl rfl ?_
    refine jc_get (n := 25) (k := 12) (v := nI (c 2)) dX7_leftOf_22 rfl fX7_69 (hT).c (hT).lo ((hT).hi (by omega)) (cm_r (ix_t rfl)) ?_
    refine j_cVr (n := 28) dX7_leftOf_25 rfl sX7_137 (c_valueT d G _ _ B (by have := (hT).2.1; omega) _ hta (hwt.2 t ht1) (nI r) (nI sort) (nI (c 2))) (by omega) (by decide) rfl rfl (Nat.le_of_ble_eq_true rfl) (hta).2.1 (by have := (hta).1; omega) (by have := (hta).1; omega) (by decide) (by decide) (fun r101 N101 Y101 hh101 => ?_)
    obtain ⟨e1101, e2101, M_101, hs101, e3101⟩ := hh101
    rw [e1101, e2101, e3101]
    refine j_bipush (n := 30) (v := nI 99) dX7_leftOf_28 rfl (by decide) ?_
    refine j_cSN (n := 33) dX7_leftOf_30 rfl sX7_140 (c_held d G _ _ _) (by omega) (by decide) rfl rfl (Nat.le_of_ble_eq_true rfl) (by decide) (by decide) ?_
    refine j_istore (n := 35) (lv2 := [some (.ref B), some (.int (nI kd)), some (.int (nI sort)), some (.int (nI r)), some (.ref a), some (.int (nI (min 99 (evT c t (nI r) (nI sort) (nI (c 2))).toInt.toNat)))]) dX7_leftOf_33 rfl rfl (by decide) rfl ?_
    refine j_iconst (n := 36) (v := nI 0) dX7_leftOf_35 rfl rfl ?_
    refine j_iload_n (n := 37) dX7_leftOf_36 rfl rfl ?_
    refine j_iload_n (n := 38) dX7_leftOf_37 rfl rfl ?_
    refine j_iload (n := 40) dX7_leftOf_38 rfl rfl ?_
    refine j_cS (n := 43) dX7_leftOf_40 rfl sX7_144 (c_wearsK (d + 1) G _ _ kd (min 99 (evT c t (nI r) (nI sort) (nI (c 2))).toInt.toNat) (by omega) (by omega)) (by omega) (by decide) rfl rfl (Nat.le_of_ble_eq_true rfl) (by decide) (by decide) ?_
    refine j_isub (n := 44) dX7_leftOf_43 rfl ?_
    have hwn := wearN_le (k := kd) (q := (min 99 (evT c t (nI r) (nI sort) (nI (c 2))).toInt.toNat)) (by omega)
    have esub : ((nI r) - (nI (wearN kd (min 99 (evT c t (nI r) (nI sort) (nI (c 2))).toInt.toNat)))).toInt = (r : Int) - (wearN kd (min 99 (evT c t (nI r) (nI sort) (nI (c 2))).toInt.toNat) : Int) := pk_sub_toInt (by omega) (by omega)
    refine j_mmax (n := 47) dX7_leftOf_44 rfl sX7_147 (by omega) (Nat.le_of_ble_eq_true rfl) (by decide) (by decide) ?_
    refine j_top (y := nI (((nI r) - (nI (wearN kd (min 99 (evT c t (nI r) (nI sort) (nI (c 2))).toInt.toNat)))).toInt.toNat)) maxI_0 ?_
    exact j_iret dX7_leftOf_47 rfl rfl (Nat.le_refl _) (Nat.le_refl _) ⟨_, rfl, (congrArg nI (by rw [esub]; unfold wornP plainP; rw [hc]; dsimp only; omega)), rfl, _, (scT.rf M).tr hs101, rfl⟩
