-- MODEL I: by program (wip/whole/gen/b9.py)
theorem c_laysBy (d : Nat) (G : zG) (M : zMem) (X : zX) (hk : kM X) (p : Nat → Nat) : zCall G miX10_laysBy (d + 0) [.ref 160] (zVr (fun M1 X1 => X1 = X ∧ ∃ M2, (scw M M2 ∧ ∀ i, i < 100 → M2 174 i = nI (p i)) ∧ M1 = mm M2 p)) (mm M p) X 0 0 := by
  refine zCall.of (lv := [some (.ref 160), none]) (by decide) (Nat.le_of_ble_eq_true rfl) rfl ?_
  refine j_iconst (n := 1) (v := nI 0) dX10_laysBy_0 rfl rfl ?_
  refine j_istore_n (n := 2) (lv2 := [some (.ref 160), some (.int (nI 0))]) dX10_laysBy_1 rfl rfl (by decide) rfl ?_
  have loop : ∀ (j k : Nat) (M1 : zMem), 100 - k = j → k ≤ 100 → scw M M1 → (∀ i, i < k → M1 174 i = nI (p i)) → zAt G miX10_laysBy (zRm (d + 0) 0 0) (zQ G (zVr (fun M1 X1 => X1 = X ∧ ∃ M2, (scw M M2 ∧ ∀ i, i < 100 → M2 174 i = nI (p i)) ∧ M1 = mm M2 p)) 0 0) 2 [some (.ref 160), some (.int (nI k))] [] (mm M1 p) X (0, 0) := by
    intro j
    induction j using Nat.strongRecOn with
    | ind j ih =>
      intro k M1 hj hk0 hsc hcl
      refine j_iload_n (n := 3) dX10_laysBy_2 rfl rfl ?_
      refine j_bipush (n := 5) (v := nI 100) dX10_laysBy_3 rfl (by decide) ?_
      refine j_icmp_geT (n := 8) (tg := 26) dX10_laysBy_5 rfl rfl (i_N (by omega)) (i_N (by omega)) (fun h1 => ?_) (fun h1 => ?_)
      · exact j_vret dX10_laysBy_26 rfl (Nat.le_refl _) (Nat.le_refl _) ⟨rfl, rfl, M1, ⟨hsc, fun i hi => hcl i (by omega)⟩, rfl⟩
      · refine j_aload_n (n := 9) dX10_laysBy_8 rfl rfl ?_
        refine jm_get (n := 12) (k := 14) (b := 174) dX10_laysBy_9 rfl fX10_49 rfl (by decide) hk ?_
        refine j_iload_n (n := 13) dX10_laysBy_12 rfl rfl ?_
        refine j_aload_n (n := 14) dX10_laysBy_13 rfl rfl ?_
        refine jm_get (n := 17) (k := 0) (b := 161) dX10_laysBy_14 rfl fX10_7 rfl (by decide) hk ?_
        refine j_iload_n (n := 18) dX10_laysBy_17 rfl rfl ?_
        refine jm_ald (n := 19) (L := 3100) (a := 161) (i := k) (v := nI (p k)) dX10_laysBy_18 rfl hk rfl (by omega) rfl ?_
        refine jm_ast (n := 20) (L := 100) (a := 174) (i := k) (x := nI (p k)) (M2 := mm (zs M1 174 (upd (M1 174) k (nI (p k)))) p) dX10_laysBy_19 rfl hk rfl (by omega) (mm_wo (by decide) rfl) ?_
        refine j_iinc (n := 23) (y := nI (k + 1)) (lv2 := [some (.ref 160), some (.int (nI (k + 1)))]) dX10_laysBy_20 rfl rfl (by decide) rfl (show nI k + nI 1 = nI (k + 1) by rw [nI_add]) rfl ?_
        refine j_goto (n := 2) dX10_laysBy_23 rfl ?_
        exact ih _ (by omega) (k + 1) _ rfl (by omega) (hsc.tr (scw.s _ _ (by unfold scq; omega))) (fun i hi => by rw [zs_eq]; unfold upd; split; (rename_i e; rw [e]); exact hcl i (by omega))
  exact loop _ 0 M rfl (Nat.zero_le _) (scw.rf M) (fun i hi => absurd hi (Nat.not_lt_zero _))
theorem c_laysBack (d : Nat) (G : zG) (M : zMem) (X : zX) (hk : kM X) (p q : Nat → Nat) (hcl : ∀ i, i < 100 → M 174 i = nI (p i)) : zCall G miX10_laysBack (d + 0) [.ref 160] (zV (mm M (bkP p q 100)) X) (mm M q) X 0 0 := by
  refine zCall.of (lv := [some (.ref 160), none]) (by decide) (Nat.le_of_ble_eq_true rfl) rfl ?_
  rw [← bkP_0 p q]
  refine j_iconst (n := 1) (v := nI 0) dX10_laysBack_0 rfl rfl ?_
  refine j_istore_n (n := 2) (lv2 := [some (.ref 160), some (.int (nI 0))]) dX10_laysBack_1 rfl rfl (by decide) rfl ?_
  have loop : ∀ (j k : Nat), 100 - k = j → k ≤ 100 → zAt G miX10_laysBack (zRm (d + 0) 0 0) (zQ G (zV (mm M (bkP p q 100)) X) 0 0) 2 [some (.ref 160), some (.int (nI k))] [] (mm M (bkP p q k)) X (0, 0) := by
    intro j
    induction j using Nat.strongRecOn with
    | ind j ih =>
      intro k hj hk0
      refine j_iload_n (n := 3) dX10_laysBack_2 rfl rfl ?_
      refine j_bipush (n := 5) (v := nI 100) dX10_laysBack_3 rfl (by decide) ?_
      refine j_icmp_geT (n := 8) (tg := 26) dX10_laysBack_5 rfl rfl (i_N (by omega)) (i_N (by omega)) (fun h1 => ?_) (fun h1 => ?_)
      · exact j_rv dX10_laysBack_26 rfl (Nat.le_refl _) (Nat.le_refl _) (by rw [show k = 100 by omega]) rfl
      · refine j_aload_n (n := 9) dX10_laysBack_8 rfl rfl ?_
        refine jm_get (n := 12) (k := 0) (b := 161) dX10_laysBack_9 rfl fX10_7 rfl (by decide) hk ?_
        refine j_iload_n (n := 13) dX10_laysBack_12 rfl rfl ?_
        refine j_aload_n (n := 14) dX10_laysBack_13 rfl rfl ?_
        refine jm_get (n := 17) (k := 14) (b := 174) dX10_laysBack_14 rfl fX10_49 rfl (by decide) hk ?_
        refine j_iload_n (n := 18) dX10_laysBack_17 rfl rfl ?_
        refine jm_ald (n := 19) (L := 100) (a := 174) (i := k) (v := nI (p k)) dX10_laysBack_18 rfl hk rfl (by omega) (hcl k (by omega)) ?_
        refine jm_ast (n := 20) (L := 3100) (a := 161) (i := k) (x := nI (p k)) (M2 := mm M (pu (bkP p q k) k (p k))) dX10_laysBack_19 rfl hk rfl (by omega) (mm_w _ _ _ _) ?_
        refine j_iinc (n := 23) (y := nI (k + 1)) (lv2 := [some (.ref 160), some (.int (nI (k + 1)))]) dX10_laysBack_20 rfl rfl (by decide) rfl (show nI k + nI 1 = nI (k + 1) by rw [nI_add]) rfl ?_
        refine j_goto (n := 2) dX10_laysBack_23 rfl ?_
        rw [bkP_s]
        exact ih _ (by omega) (k + 1) rfl (by omega)
  exact loop _ 0 rfl (Nat.zero_le _)
def r_behind (p : Nat → Nat) (n what : Int32) : Int32 := if ¬ ((0 ≤ n.toInt ∧ n.toInt ≤ 100) ∧ 0 ≤ what.toInt ∧ what.toInt ≤ (p 0 : Int) + 2) then cBAD else if what.toInt < 3 then nI (daysP p (tN n) (3 + tN what)) else nI (daysP p (tN n) (10 + 5 * (tN what - 3) + 1))
theorem c_behind (d : Nat) (G : zG) (M : zMem) (X : zX) (hk : kM X) (p : Nat → Nat) (b : Nat) (hw : wf p b 9999) (hb : b ≤ 800000000) (n what : Int32) : zCall G miX10_behind (d + 7) [.ref 160, .int n, .int what] (zIr (fun r0 M1 X1 => r0 = r_behind p n what ∧ X1 = X ∧ ∃ M2, scw M M2 ∧ M1 = mm M2 p)) (mm M p) X 0 0 := by
  refine zCall.of (lv := [some (.ref 160), some (.int n), some (.int what), none]) (by decide) (Nat.le_of_ble_eq_true rfl) rfl ?_
  have h0 := hw.1.1
  have h2 := hw.day
  refine j_iload_n (n := 1) dX10_behind_0 rfl rfl ?_
  refine j_i2l (n := 2) dX10_behind_1 rfl ?_
  refine j_lconst (n := 3) (v := lN 0) dX10_behind_2 rfl rfl ?_
  refine j_ldc2 (n := 6) (v := lN 100) dX10_behind_3 rfl kX10_159 ?_
  refine j_cS (n := 9) dX10_behind_6 rfl sX10_71 (c_isInI (x := n.toInt) (a := 0) (b := 100) (d + 6) G _ _ _ _ _ (l_toInt _) rfl rfl) (by omega) (by decide) rfl rfl (Nat.le_of_ble_eq_true rfl) (by decide) (by decide) ?_
  refine j_if_eqB (n := 12) (tg := 31) dX10_behind_9 rfl rfl (fun h1 => ?_) (fun h1 => ?_)
  · refine j_ldc (n := 33) (v := -1000000001) dX10_behind_31 rfl kX10_93 ?_
    exact j_iret dX10_behind_33 rfl rfl (Nat.le_refl _) (Nat.le_refl _) ⟨_, rfl, (by unfold r_behind; repeat (first | rw [if_pos (by omega)] | rw [if_neg (by omega)])), rfl, _, scw.rf M, rfl⟩
  · refine j_iload_n (n := 13) dX10_behind_12 rfl rfl ?_
    refine j_if_ltT (n := 16) (tg := 31) dX10_behind_13 rfl rfl (fun h2 => ?_) (fun h2 => ?_)
    · refine j_ldc (n := 33) (v := -1000000001) dX10_behind_31 rfl kX10_93 ?_
      exact j_iret dX10_behind_33 rfl rfl (Nat.le_refl _) (Nat.le_refl _) ⟨_, rfl, (by unfold r_behind; repeat (first | rw [if_pos (by omega)] | rw [if_neg (by omega)])), rfl, _, scw.rf M, rfl⟩
    · refine j_iload_n (n := 17) dX10_behind_16 rfl rfl ?_
      refine j_iconst (n := 18) (v := nI 2) dX10_behind_17 rfl rfl ?_
      refine j_icmp_leT (n := 21) (tg := 34) dX10_behind_18 rfl rfl rfl (i_N (by omega)) (fun h3 => ?_) (fun h3 => ?_)
      · obtain ⟨m, hm, rfl⟩ := i_of (x := n) (n := 101) (by omega) (by omega)
        have em : tN (nI m) = m := tN_nI (by omega)
        have im : (nI m).toInt = m := i_N (by omega)
        obtain ⟨u, hu, rfl⟩ := i_of (x := what) (n := 11) (by omega) (by omega)
        have eu : tN (nI u) = u := tN_nI (by omega)
        have iu : (nI u).toInt = u := i_N (by omega)
        refine j_aload_n (n := 35) dX10_behind_34 rfl rfl ?_
        refine j_cVvr (n := 38) dX10_behind_35 rfl sX10_200 (c_laysBy (d + 6) G _ _ hk _) (by omega) (by decide) rfl rfl (Nat.le_of_ble_eq_true rfl) (hk).2.1 (by decide) (kM_lt hk) (by decide) (by decide) (fun N4 Y4 hh4 => ?_)
        obtain ⟨e24, M_4, ⟨hs4, hc4⟩, e34⟩ := hh4
        rw [e24, e34]
        refine j_aload_n (n := 39) dX10_behind_38 rfl rfl ?_
        refine j_iload_n (n := 40) dX10_behind_39 rfl rfl ?_
        refine j_cVvr (n := 43) dX10_behind_40 rfl sX10_185 (c_goesOnMany d G _ _ hk _ _ _ hw m (by omega) (by omega) (by omega)) (by omega) (by decide) rfl rfl (Nat.le_of_ble_eq_true rfl) (hk).2.1 (by decide) (kM_lt hk) (by decide) (by decide) (fun N5 Y5 hh5 => ?_)
        obtain ⟨e25, M_5, hs5, e35⟩ := hh5
        rw [e25, e35]
        have hwd := wf_days hw m
        have hk0 : daysP p m 0 ≤ 8 := hwd.1.1
        refine j_iload_n (n := 44) dX10_behind_43 rfl rfl ?_
        refine j_iconst (n := 45) (v := nI 3) dX10_behind_44 rfl rfl ?_
        refine j_icmp_geT (n := 48) (tg := 59) dX10_behind_45 rfl rfl (i_N (by omega)) (i_N (by omega)) (fun h6 => ?_) (fun h6 => ?_)
        · refine j_aload_n (n := 60) dX10_behind_59 rfl rfl ?_
          refine j_iload_n (n := 61) dX10_behind_60 rfl rfl ?_
          refine j_iconst (n := 62) (v := nI 3) dX10_behind_61 rfl rfl ?_
          refine j_isubN (n := 63) (c := u - 3) dX10_behind_62 rfl (by omega) (by omega) ?_
          refine j_iconst (n := 64) (v := nI 1) dX10_behind_63 rfl rfl ?_
          refine j_cV (n := 67) dX10_behind_64 rfl sX10_114 (c_of (d + 6) G _ _ hk _ (u - 3) 1 (by omega)) (by omega) (by decide) rfl rfl (Nat.le_of_ble_eq_true rfl) (hk).2.1 (by decide) (kM_lt hk) (by decide) (by decide) ?_
          refine j_istore_n (n := 68) (lv2 := [some (.ref 160), some (.int (nI m)), some (.int (nI u)), some (.int (nI ((daysP p m) (10 + 5 * (u - 3) + 1))))]) dX10_behind_67 rfl rfl (by decide) rfl ?_
          refine j_aload_n (n := 69) dX10_behind_68 rfl rfl ?_
          refine j_cVv (n := 72) dX10_behind_69 rfl sX10_203 (c_laysBack (d + 6) G _ _ hk p _ (fun i hi => (congrFun (hs5 174 (by decide) (by decide)) i).trans (hc4 i hi))) (by omega) (by decide) rfl rfl (Nat.le_of_ble_eq_true rfl) (hk).2.1 (by decide) (kM_lt hk) (by decide) (by decide) ?_
          refine j_mem (M2 := mm M_5 p) (congrArg (mm _) (bkP_all (fun i hi => days_hi hw hi m))) ?_
          refine j_iload_n (n := 73) dX10_behind_72 rfl rfl ?_
          exact j_iret dX10_behind_73 rfl rfl (Nat.le_refl _) (Nat.le_refl _) ⟨_, rfl, (by first | (exfalso; omega) | (unfold r_behind; rw [if_neg (by omega), em, eu]; first | rw [if_pos (by omega)] | rw [if_neg (by omega)])), rfl, _, ((scw.rf M).tr hs4).tr hs5.w, rfl⟩
        · refine j_aload_n (n := 49) dX10_behind_48 rfl rfl ?_
          refine jm_get (n := 52) (k := 0) (b := 161) dX10_behind_49 rfl fX10_7 rfl (by decide) hk ?_
          refine j_iconst (n := 53) (v := nI 3) dX10_behind_52 rfl rfl ?_
          refine j_iload_n (n := 54) dX10_behind_53 rfl rfl ?_
          refine j_iaddN (n := 55) (c := 3 + u) dX10_behind_54 rfl rfl ?_
          refine jm_ald (n := 56) (L := 3100) (a := 161) (i := 3 + u) (v := nI ((daysP p m) (3 + u))) dX10_behind_55 rfl hk rfl (by omega) rfl ?_
          refine j_goto (n := 67) dX10_behind_56 rfl ?_
          refine j_istore_n (n := 68) (lv2 := [some (.ref 160), some (.int (nI m)), some (.int (nI u)), some (.int (nI ((daysP p m) (3 + u))))]) dX10_behind_67 rfl rfl (by decide) rfl ?_
          refine j_aload_n (n := 69) dX10_behind_68 rfl rfl ?_
          refine j_cVv (n := 72) dX10_behind_69 rfl sX10_203 (c_laysBack (d + 6) G _ _ hk p _ (fun i hi => (congrFun (hs5 174 (by decide) (by decide)) i).trans (hc4 i hi))) (by omega) (by decide) rfl rfl (Nat.le_of_ble_eq_true rfl) (hk).2.1 (by decide) (kM_lt hk) (by decide) (by decide) ?_
          refine j_mem (M2 := mm M_5 p) (congrArg (mm _) (bkP_all (fun i hi => days_hi hw hi m))) ?_
          refine j_iload_n (n := 73) dX10_behind_72 rfl rfl ?_
          exact j_iret dX10_behind_73 rfl rfl (Nat.le_refl _) (Nat.le_refl _) ⟨_, rfl, (by first | (exfalso; omega) | (unfold r_behind; rw [if_neg (by omega), em, eu]; first | rw [if_pos (by omega)] | rw [if_neg (by omega)])), rfl, _, ((scw.rf M).tr hs4).tr hs5.w, rfl⟩
      · refine j_aload_n (n := 22) dX10_behind_21 rfl rfl ?_
        refine j_iload_n (n := 23) dX10_behind_22 rfl rfl ?_
        refine j_iconst (n := 24) (v := nI 3) dX10_behind_23 rfl rfl ?_
        refine j_isub (n := 25) dX10_behind_24 rfl ?_
        have ew3 : (what - nI 3).toInt = what.toInt - 3 := by rw [Int32.toInt_sub, i_N (by decide)]; have := Int32.toInt_lt what; rw [Int.bmod_eq_of_le (by omega) (by omega)]; rfl
        refine j_cV (n := 28) dX10_behind_25 rfl sX10_120 (c_isOne (d + 5) G _ _ hk _ (by omega) _) (by omega) (by decide) rfl rfl (Nat.le_of_ble_eq_true rfl) (hk).2.1 (by decide) (kM_lt hk) (by decide) (by decide) ?_
        refine j_if_neB (n := 31) (tg := 34) dX10_behind_28 rfl rfl (fun h7 => ?_) (fun h7 => ?_)
        · obtain ⟨m, hm, rfl⟩ := i_of (x := n) (n := 101) (by omega) (by omega)
          have em : tN (nI m) = m := tN_nI (by omega)
          have im : (nI m).toInt = m := i_N (by omega)
          obtain ⟨u, hu, rfl⟩ := i_of (x := what) (n := 11) (by omega) (by omega)
          have eu : tN (nI u) = u := tN_nI (by omega)
          have iu : (nI u).toInt = u := i_N (by omega)
          refine j_aload_n (n := 35) dX10_behind_34 rfl rfl ?_
          refine j_cVvr (n := 38) dX10_behind_35 rfl sX10_200 (c_laysBy (d + 6) G _ _ hk _) (by omega) (by decide) rfl rfl (Nat.le_of_ble_eq_true rfl) (hk).2.1 (by decide) (kM_lt hk) (by decide) (by decide) (fun N8 Y8 hh8 => ?_)
          obtain ⟨e28, M_8, ⟨hs8, hc8⟩, e38⟩ := hh8
          rw [e28, e38]
          refine j_aload_n (n := 39) dX10_behind_38 rfl rfl ?_
          refine j_iload_n (n := 40) dX10_behind_39 rfl rfl ?_
          refine j_cVvr (n := 43) dX10_behind_40 rfl sX10_185 (c_goesOnMany d G _ _ hk _ _ _ hw m (by omega) (by omega) (by omega)) (by omega) (by decide) rfl rfl (Nat.le_of_ble_eq_true rfl) (hk).2.1 (by decide) (kM_lt hk) (by decide) (by decide) (fun N9 Y9 hh9 => ?_)
          obtain ⟨e29, M_9, hs9, e39⟩ := hh9
          rw [e29, e39]
          have hwd := wf_days hw m
          have hk0 : daysP p m 0 ≤ 8 := hwd.1.1
          refine j_iload_n (n := 44) dX10_behind_43 rfl rfl ?_
          refine j_iconst (n := 45) (v := nI 3) dX10_behind_44 rfl rfl ?_
          refine j_icmp_geT (n := 48) (tg := 59) dX10_behind_45 rfl rfl (i_N (by omega)) (i_N (by omega)) (fun h10 => ?_) (fun h10 => ?_)
          · refine j_aload_n (n := 60) dX10_behind_59 rfl rfl ?_
            refine j_iload_n (n := 61) dX10_behind_60 rfl rfl ?_
            refine j_iconst (n := 62) (v := nI 3) dX10_behind_61 rfl rfl ?_
            refine j_isubN (n := 63) (c := u - 3) dX10_behind_62 rfl (by omega) (by omega) ?_
            refine j_iconst (n := 64) (v := nI 1) dX10_behind_63 rfl rfl ?_
            refine j_cV (n := 67) dX10_behind_64 rfl sX10_114 (c_of (d + 6) G _ _ hk _ (u - 3) 1 (by omega)) (by omega) (by decide) rfl rfl (Nat.le_of_ble_eq_true rfl) (hk).2.1 (by decide) (kM_lt hk) (by decide) (by decide) ?_
            refine j_istore_n (n := 68) (lv2 := [some (.ref 160), some (.int (nI m)), some (.int (nI u)), some (.int (nI ((daysP p m) (10 + 5 * (u - 3) + 1))))]) dX10_behind_67 rfl rfl (by decide) rfl ?_
            refine j_aload_n (n := 69) dX10_behind_68 rfl rfl ?_
            refine j_cVv (n := 72) dX10_behind_69 rfl sX10_203 (c_laysBack (d + 6) G _ _ hk p _ (fun i hi => (congrFun (hs9 174 (by decide) (by decide)) i).trans (hc8 i hi))) (by omega) (by decide) rfl rfl (Nat.le_of_ble_eq_true rfl) (hk).2.1 (by decide) (kM_lt hk) (by decide) (by decide) ?_
            refine j_mem (M2 := mm M_9 p) (congrArg (mm _) (bkP_all (fun i hi => days_hi hw hi m))) ?_
            refine j_iload_n (n := 73) dX10_behind_72 rfl rfl ?_
            exact j_iret dX10_behind_73 rfl rfl (Nat.le_refl _) (Nat.le_refl _) ⟨_, rfl, (by first | (exfalso; omega) | (unfold r_behind; rw [if_neg (by omega), em, eu]; first | rw [if_pos (by omega)] | rw [if_neg (by omega)])), rfl, _, ((scw.rf M).tr hs8).tr hs9.w, rfl⟩
          · refine j_aload_n (n := 49) dX10_behind_48 rfl rfl ?_
            refine jm_get (n := 52) (k := 0) (b := 161) dX10_behind_49 rfl fX10_7 rfl (by decide) hk ?_
            refine j_iconst (n := 53) (v := nI 3) dX10_behind_52 rfl rfl ?_
            refine j_iload_n (n := 54) dX10_behind_53 rfl rfl ?_
            refine j_iaddN (n := 55) (c := 3 + u) dX10_behind_54 rfl rfl ?_
            refine jm_ald (n := 56) (L := 3100) (a := 161) (i := 3 + u) (v := nI ((daysP p m) (3 + u))) dX10_behind_55 rfl hk rfl (by omega) rfl ?_
            refine j_goto (n := 67) dX10_behind_56 rfl ?_
            refine j_istore_n (n := 68) (lv2 := [some (.ref 160), some (.int (nI m)), some (.int (nI u)), some (.int (nI ((daysP p m) (3 + u))))]) dX10_behind_67 rfl rfl (by decide) rfl ?_
            refine j_aload_n (n := 69) dX10_behind_68 rfl rfl ?_
            refine j_cVv (n := 72) dX10_behind_69 rfl sX10_203 (c_laysBack (d + 6) G _ _ hk p _ (fun i hi => (congrFun (hs9 174 (by decide) (by decide)) i).trans (hc8 i hi))) (by omega) (by decide) rfl rfl (Nat.le_of_ble_eq_true rfl) (hk).2.1 (by decide) (kM_lt hk) (by decide) (by decide) ?_
            refine j_mem (M2 := mm M_9 p) (congrArg (mm _) (bkP_all (fun i hi => days_hi hw hi m))) ?_
            refine j_iload_n (n := 73) dX10_behind_72 rfl rfl ?_
            exact j_iret dX10_behind_73 rfl rfl (Nat.le_refl _) (Nat.le_refl _) ⟨_, rfl, (by first | (exfalso; omega) | (unfold r_behind; rw [if_neg (by omega), em, eu]; first | rw [if_pos (by omega)] | rw [if_neg (by omega)])), rfl, _, ((scw.rf M).tr hs8).tr hs9.w, rfl⟩
        · refine j_ldc (n := 33) (v := -1000000001) dX10_behind_31 rfl kX10_93 ?_
          exact j_iret dX10_behind_33 rfl rfl (Nat.le_refl _) (Nat.le_refl _) ⟨_, rfl, (by unfold r_behind; repeat (first | rw [if_pos (by omega)] | rw [if_neg (by omega)])), rfl, _, scw.rf M, rfl⟩
def r_enters (p : Nat → Nat) (one room : Int32) : Int32 := if ¬ ((0 ≤ one.toInt ∧ one.toInt ≤ (p 0 : Int) - 1) ∧ (0 ≤ room.toInt ∧ room.toInt ≤ 7)) then cBAD else if fi (fun n => daysP p n (10 + 5 * tN one + 1) = tN room) (201 - 0) 0 < 201 then nI (fi (fun n => daysP p n (10 + 5 * tN one + 1) = tN room) (201 - 0) 0) else cNONE
theorem day_0 {p : Nat → Nat} {b D : Nat} (h : wf p b D) : dayP p 0 = p 0 ∧ dayP p 8 = p 8 := by
  obtain ⟨w1, k1⟩ := wf_people h (p 0) (Nat.le_refl _)
  obtain ⟨w2, k2⟩ := wf_deed w1
  obtain ⟨w3, k3⟩ := wf_pardon w2
  rw [dayP_eq]
  unfold restP
  rw [pu_ne _ _ (by omega), pu_ne _ _ (by omega)]
  have e := (k1.tr k2).tr k3
  split
  · rw [((wf_mend w3 _ w3.2.1.1).2).n0, ((wf_mend w3 _ w3.2.1.1).2).n8]
    exact ⟨e.n0, e.n8⟩
  · exact ⟨e.n0, e.n8⟩
theorem days_0 {p : Nat → Nat} {b D : Nat} (h : wf p b D) : ∀ n, daysP p n 0 = p 0
  | 0 => rfl
  | n + 1 => by rw [daysP, (day_0 (wf_days h n)).1, days_0 h n]
theorem c_enters (d : Nat) (G : zG) (M : zMem) (X : zX) (hk : kM X) (p : Nat → Nat) (b : Nat) (hw : wf p b 9999) (hb : b ≤ 800000000) (one room : Int32) : zCall G miX10_enters (d + 6) [.ref 160, .int one, .int room] (zIr (fun r0 M1 X1 => r0 = r_enters p one room ∧ X1 = X ∧ ∃ M2, scw M M2 ∧ M1 = mm M2 p)) (mm M p) X 0 0 := by
  refine zCall.of (lv := [some (.ref 160), some (.int one), some (.int room), none]) (by decide) (Nat.le_of_ble_eq_true rfl) rfl ?_
  have h0 := hw.1.1
  refine j_aload_n (n := 1) dX10_enters_0 rfl rfl ?_
  refine j_iload_n (n := 2) dX10_enters_1 rfl rfl ?_
  refine j_cV (n := 5) dX10_enters_2 rfl sX10_120 (c_isOne (d + 4) G _ _ hk _ (by omega) _) (by omega) (by decide) rfl rfl (Nat.le_of_ble_eq_true rfl) (hk).2.1 (by decide) (kM_lt hk) (by decide) (by decide) ?_
  refine j_if_eqB (n := 8) (tg := 15) dX10_enters_5 rfl rfl (fun h1 => ?_) (fun h1 => ?_)
  · refine j_ldc (n := 17) (v := -1000000001) dX10_enters_15 rfl kX10_93 ?_
    exact j_iret dX10_enters_17 rfl rfl (Nat.le_refl _) (Nat.le_refl _) ⟨_, rfl, (by unfold r_enters; repeat (first | rw [if_pos (by omega)] | rw [if_neg (by omega)])), rfl, _, scw.rf M, rfl⟩
  · refine j_iload_n (n := 9) dX10_enters_8 rfl rfl ?_
    refine j_cS (n := 12) dX10_enters_9 rfl sX10_86 (c_isRoom (d + 4) G _ _ _) (by omega) (by decide) rfl rfl (Nat.le_of_ble_eq_true rfl) (by decide) (by decide) ?_
    refine j_if_neB (n := 15) (tg := 18) dX10_enters_12 rfl rfl (fun h2 => ?_) (fun h2 => ?_)
    · obtain ⟨k, hk1, rfl⟩ := i_of (x := one) (n := p 0) (by omega) (by omega)
      have ek : tN (nI k) = k := tN_nI (by omega)
      have ik : (nI k).toInt = k := i_N (by omega)
      obtain ⟨r, hr, rfl⟩ := i_of (x := room) (n := 8) (by omega) (by omega)
      have er : tN (nI r) = r := tN_nI (by omega)
      have ir : (nI r).toInt = r := i_N (by omega)
      refine j_aload_n (n := 19) dX10_enters_18 rfl rfl ?_
      refine j_cVvr (n := 22) dX10_enters_19 rfl sX10_200 (c_laysBy (d + 5) G _ _ hk _) (by omega) (by decide) rfl rfl (Nat.le_of_ble_eq_true rfl) (hk).2.1 (by decide) (kM_lt hk) (by decide) (by decide) (fun N3 Y3 hh3 => ?_)
      obtain ⟨e23, M_3, ⟨hs3, hc3⟩, e33⟩ := hh3
      rw [e23, e33]
      refine j_iconst (n := 23) (v := nI 0) dX10_enters_22 rfl rfl ?_
      refine j_istore_n (n := 24) (lv2 := [some (.ref 160), some (.int (nI k)), some (.int (nI r)), some (.int (nI 0))]) dX10_enters_23 rfl rfl (by decide) rfl ?_
      have fin : ∀ (n : Nat) (M1 : zMem), n = fi (fun n => daysP p n (10 + 5 * k + 1) = r) (201 - 0) 0 → scw M M1 → (∀ i, i < 100 → M1 174 i = nI (p i)) → zAt G miX10_enters (zRm (d + 6) 0 0) (zQ G (zIr (fun r0 M1 X1 => r0 = r_enters p (nI k) (nI r) ∧ X1 = X ∧ ∃ M2, scw M M2 ∧ M1 = mm M2 p)) 0 0) 51 [some (.ref 160), some (.int (nI k)), some (.int (nI r)), some (.int (nI n))] [] (mm M1 (daysP p n)) X (0, 0) := by
        intro n M1 en hsc hcl
        have hfn := fi_le (fun n => daysP p n (10 + 5 * k + 1) = r) (201 - 0) 0
        refine j_aload_n (n := 52) dX10_enters_51 rfl rfl ?_
        refine j_cVv (n := 55) dX10_enters_52 rfl sX10_203 (c_laysBack (d + 5) G _ _ hk p _ hcl) (by omega) (by decide) rfl rfl (Nat.le_of_ble_eq_true rfl) (hk).2.1 (by decide) (kM_lt hk) (by decide) (by decide) ?_
        refine j_mem (M2 := mm M1 p) (congrArg (mm _) (bkP_all (fun i hi => days_hi hw hi n))) ?_
        refine j_iload_n (n := 56) dX10_enters_55 rfl rfl ?_
        refine j_sipush (n := 59) (v := nI 200) dX10_enters_56 rfl (by decide) ?_
        refine j_icmp_gtT (n := 62) (tg := 66) dX10_enters_59 rfl rfl (i_N (by omega)) (i_N (by omega)) (fun h4 => ?_) (fun h4 => ?_)
        · refine j_ldc (n := 68) (v := -1000000005) dX10_enters_66 rfl kX10_70 ?_
          exact j_iret dX10_enters_68 rfl rfl (Nat.le_refl _) (Nat.le_refl _) ⟨_, rfl, (by unfold r_enters; rw [if_neg (by omega), ek, er, ← en]; first | rw [if_pos (by omega)] | rw [if_neg (by omega)]), rfl, _, hsc, rfl⟩
        · refine j_iload_n (n := 63) dX10_enters_62 rfl rfl ?_
          refine j_goto (n := 68) dX10_enters_63 rfl ?_
          exact j_iret dX10_enters_68 rfl rfl (Nat.le_refl _) (Nat.le_refl _) ⟨_, rfl, (by unfold r_enters; rw [if_neg (by omega), ek, er, ← en]; first | rw [if_pos (by omega)] | rw [if_neg (by omega)]), rfl, _, hsc, rfl⟩
      have loop : ∀ (j n : Nat) (M1 : zMem), 201 - n = j → n ≤ 201 → fi (fun n => daysP p n (10 + 5 * k + 1) = r) (201 - 0) 0 = fi (fun n => daysP p n (10 + 5 * k + 1) = r) (201 - n) n → scw M M1 → (∀ i, i < 100 → M1 174 i = nI (p i)) → zAt G miX10_enters (zRm (d + 6) 0 0) (zQ G (zIr (fun r0 M1 X1 => r0 = r_enters p (nI k) (nI r) ∧ X1 = X ∧ ∃ M2, scw M M2 ∧ M1 = mm M2 p)) 0 0) 24 [some (.ref 160), some (.int (nI k)), some (.int (nI r)), some (.int (nI n))] [] (mm M1 (daysP p n)) X (0, 0) := by
        intro j
        induction j using Nat.strongRecOn with
        | ind j ih =>
          intro n M1 hj hn0 hF hsc hcl
          have hwd := wf_days hw n
          have hk8 : daysP p n 0 ≤ 8 := hwd.1.1
          have hro : daysP p n (10 + 5 * k + 1) ≤ 7 := (hwd.1.2 k (by rw [days_0 hw]; exact hk1)).2.1
          refine j_iload_n (n := 25) dX10_enters_24 rfl rfl ?_
          refine j_sipush (n := 28) (v := nI 200) dX10_enters_25 rfl (by decide) ?_
          refine j_icmp_gtT (n := 31) (tg := 51) dX10_enters_28 rfl rfl (i_N (by omega)) (i_N (by omega)) (fun h5 => ?_) (fun h5 => ?_)
          · exact fin n M1 (hF.trans (by first | exact fi_n (by omega) | exact fi_t (by omega) (by omega))).symm hsc hcl
          · refine j_aload_n (n := 32) dX10_enters_31 rfl rfl ?_
            refine j_iload_n (n := 33) dX10_enters_32 rfl rfl ?_
            refine j_iconst (n := 34) (v := nI 1) dX10_enters_33 rfl rfl ?_
            refine j_cV (n := 37) dX10_enters_34 rfl sX10_114 (c_of (d + 5) G _ _ hk _ k 1 (by omega)) (by omega) (by decide) rfl rfl (Nat.le_of_ble_eq_true rfl) (hk).2.1 (by decide) (kM_lt hk) (by decide) (by decide) ?_
            refine j_iload_n (n := 38) dX10_enters_37 rfl rfl ?_
            refine j_icmp_eqT (n := 41) (tg := 51) dX10_enters_38 rfl rfl (i_N (by omega)) (i_N (by omega)) (fun h6 => ?_) (fun h6 => ?_)
            · exact fin n M1 (hF.trans (by first | exact fi_n (by omega) | exact fi_t (by omega) (by omega))).symm hsc hcl
            · refine j_aload_n (n := 42) dX10_enters_41 rfl rfl ?_
              refine j_cVvr (n := 45) dX10_enters_42 rfl sX10_182 (c_goesOn d G _ _ hk _ _ _ (wf_days hw n) (by omega) (by omega)) (by omega) (by decide) rfl rfl (Nat.le_of_ble_eq_true rfl) (hk).2.1 (by decide) (kM_lt hk) (by decide) (by decide) (fun N7 Y7 hh7 => ?_)
              obtain ⟨e27, M_7, hs7, e37⟩ := hh7
              rw [e27, e37]
              refine j_iinc (n := 48) (y := nI (n + 1)) (lv2 := [some (.ref 160), some (.int (nI k)), some (.int (nI r)), some (.int (nI (n + 1)))]) dX10_enters_45 rfl rfl (by decide) rfl (show nI n + nI 1 = nI (n + 1) by rw [nI_add]) rfl ?_
              refine j_goto (n := 24) dX10_enters_48 rfl ?_
              exact ih _ (by omega) (n + 1) _ rfl (by omega) (hF.trans (fi_s (by omega) (by omega))) ((hsc).tr hs7.w) (fun i hi => (congrFun (hs7 174 (by decide) (by decide)) i).trans (hcl i hi))
      exact loop _ 0 _ rfl (Nat.zero_le _) rfl ((scw.rf M).tr hs3) hc3
    · refine j_ldc (n := 17) (v := -1000000001) dX10_enters_15 rfl kX10_93 ?_
      exact j_iret dX10_enters_17 rfl rfl (Nat.le_refl _) (Nat.le_refl _) ⟨_, rfl, (by unfold r_enters; repeat (first | rw [if_pos (by omega)] | rw [if_neg (by omega)])), rfl, _, scw.rf M, rfl⟩
theorem c_isAsked (d : Nat) (G : zG) (M : zMem) (X : zX) (a b : Int32) : zCall G miX10_isAsked (d + 1) [.int a, .int b] (zI (zB ((1 ≤ a.toInt ∧ a.toInt ≤ 60) ∧ (0 ≤ b.toInt ∧ b.toInt ≤ 1))) M X) M X 0 0 := by
  refine zCall.of (lv := [some (.int a), some (.int b)]) (by decide) (Nat.le_of_ble_eq_true rfl) rfl ?_
  refine j_iload_n (n := 1) dX10_isAsked_0 rfl rfl ?_
  refine j_i2l (n := 2) dX10_isAsked_1 rfl ?_
  refine j_lconst (n := 3) (v := lN 1) dX10_isAsked_2 rfl rfl ?_
  refine j_ldc2 (n := 6) (v := lN 60) dX10_isAsked_3 rfl kX10_206 ?_
  refine j_cS (n := 9) dX10_isAsked_6 rfl sX10_71 (c_isInI (x := a.toInt) (a := 1) (b := 60) d G _ _ _ _ _ (l_toInt _) rfl rfl) (by omega) (by decide) rfl rfl (Nat.le_of_ble_eq_true rfl) (by decide) (by decide) ?_
  refine j_if_eqB (n := 12) (tg := 26) dX10_isAsked_9 rfl rfl (fun h1 => ?_) (fun h1 => ?_)
  · refine j_iconst (n := 27) (v := nI 0) dX10_isAsked_26 rfl rfl ?_
    exact j_rb dX10_isAsked_27 rfl rfl (Nat.le_refl _) (Nat.le_refl _) (by first | exact (zB_t (by omega)).symm | exact (zB_f (by omega)).symm) rfl rfl
  · refine j_iload_n (n := 13) dX10_isAsked_12 rfl rfl ?_
    refine j_i2l (n := 14) dX10_isAsked_13 rfl ?_
    refine j_lconst (n := 15) (v := lN 0) dX10_isAsked_14 rfl rfl ?_
    refine j_lconst (n := 16) (v := lN 1) dX10_isAsked_15 rfl rfl ?_
    refine j_cS (n := 19) dX10_isAsked_16 rfl sX10_71 (c_isInI (x := b.toInt) (a := 0) (b := 1) d G _ _ _ _ _ (l_toInt _) rfl rfl) (by omega) (by decide) rfl rfl (Nat.le_of_ble_eq_true rfl) (by decide) (by decide) ?_
    refine j_if_eqB (n := 22) (tg := 26) dX10_isAsked_19 rfl rfl (fun h2 => ?_) (fun h2 => ?_)
    · refine j_iconst (n := 27) (v := nI 0) dX10_isAsked_26 rfl rfl ?_
      exact j_rb dX10_isAsked_27 rfl rfl (Nat.le_refl _) (Nat.le_refl _) (by first | exact (zB_t (by omega)).symm | exact (zB_f (by omega)).symm) rfl rfl
    · refine j_iconst (n := 23) (v := nI 1) dX10_isAsked_22 rfl rfl ?_
      refine j_goto (n := 27) dX10_isAsked_23 rfl ?_
      exact j_rb dX10_isAsked_27 rfl rfl (Nat.le_refl _) (Nat.le_refl _) (by first | exact (zB_t (by omega)).symm | exact (zB_f (by omega)).symm) rfl rfl
def r_freed (p : Nat → Nat) (n what : Int32) : Int32 := if ¬ ((1 ≤ n.toInt ∧ n.toInt ≤ 60) ∧ (0 ≤ what.toInt ∧ what.toInt ≤ 1)) then cBAD else if (bst (-1) (fun k => daysP (pu p (50 + 5 * k + 3) 0) (tN n) 3) (p 8)).1.toInt < 0 then cNONE else if what.toInt = 0 then (bst (-1) (fun k => daysP (pu p (50 + 5 * k + 3) 0) (tN n) 3) (p 8)).1 else (bst (-1) (fun k => daysP (pu p (50 + 5 * k + 3) 0) (tN n) 3) (p 8)).2
def r_becomes (p : Nat → Nat) (one n what : Int32) : Int32 := if ¬ ((0 ≤ one.toInt ∧ one.toInt ≤ (p 0 : Int) - 1) ∧ (1 ≤ n.toInt ∧ n.toInt ≤ 60) ∧ (0 ≤ what.toInt ∧ what.toInt ≤ 1)) then cBAD else if what.toInt = 0 then (bst (nI 0) (fun k => daysP (pu p (10 + 5 * tN one + 0) k) (tN n) 3) 6).1 else (bst (nI 0) (fun k => daysP (pu p (10 + 5 * tN one + 0) k) (tN n) 3) 6).2
theorem c_freed (d : Nat) (G : zG) (M : zMem) (X : zX) (hk : kM X) (p : Nat → Nat) (b : Nat) (hw : wf p b 9999) (hb : b ≤ 800000000) (n what : Int32) : zCall G miX10_freed (d + 7) [.ref 160, .int n, .int what] (zIr (fun r0 M1 X1 => r0 = r_freed p n what ∧ X1 = X ∧ ∃ M2, scw M M2 ∧ M1 = mm M2 p)) (mm M p) X 0 0 := by
  refine zCall.of (lv := [some (.ref 160), some (.int n), some (.int what), none, none, none, none]) (by decide) (Nat.le_of_ble_eq_true rfl) rfl ?_
  have h8 := hw.2.1.1
  refine j_iload_n (n := 1) dX10_freed_0 rfl rfl ?_
  refine j_iload_n (n := 2) dX10_freed_1 rfl rfl ?_
  refine j_cS (n := 5) dX10_freed_2 rfl sX10_208 (c_isAsked (d + 5) G _ _ _ _) (by omega) (by decide) rfl rfl (Nat.le_of_ble_eq_true rfl) (by decide) (by decide) ?_
  refine j_if_neB (n := 8) (tg := 11) dX10_freed_5 rfl rfl (fun h1 => ?_) (fun h1 => ?_)
  · obtain ⟨m, hm, rfl⟩ := i_of (x := n) (n := 61) (by omega) (by omega)
    have em : tN (nI m) = m := tN_nI (by omega)
    have im : (nI m).toInt = m := i_N (by omega)
    obtain ⟨u, hu, rfl⟩ := i_of (x := what) (n := 2) (by omega) (by omega)
    have eu : tN (nI u) = u := tN_nI (by omega)
    have iu : (nI u).toInt = u := i_N (by omega)
    refine j_aload_n (n := 12) dX10_freed_11 rfl rfl ?_
    refine j_cVvr (n := 15) dX10_freed_12 rfl sX10_200 (c_laysBy (d + 6) G _ _ hk _) (by omega) (by decide) rfl rfl (Nat.le_of_ble_eq_true rfl) (hk).2.1 (by decide) (kM_lt hk) (by decide) (by decide) (fun N2 Y2 hh2 => ?_)
    obtain ⟨e22, M_2, ⟨hs2, hc2⟩, e32⟩ := hh2
    rw [e22, e32]
    refine j_iconst (n := 16) (v := (-1)) dX10_freed_15 rfl rfl ?_
    refine j_istore_n (n := 17) (lv2 := [some (.ref 160), some (.int (nI m)), some (.int (nI u)), some (.int (-1)), none, none, none]) dX10_freed_16 rfl rfl (by decide) rfl ?_
    refine j_iconst (n := 18) (v := (-1)) dX10_freed_17 rfl rfl ?_
    refine j_istore (n := 20) (lv2 := [some (.ref 160), some (.int (nI m)), some (.int (nI u)), some (.int (-1)), some (.int (-1)), none, none]) dX10_freed_18 rfl rfl (by decide) rfl ?_
    refine j_iconst (n := 21) (v := nI 0) dX10_freed_20 rfl rfl ?_
    refine j_istore (n := 23) (lv2 := [some (.ref 160), some (.int (nI m)), some (.int (nI u)), some (.int (-1)), some (.int (-1)), some (.int (nI 0)), none]) dX10_freed_21 rfl rfl (by decide) rfl ?_
    have loop : ∀ (j k : Nat) (M1 : zMem), p 8 - k = j → k ≤ p 8 → scw M M1 → (∀ i, i < 100 → M1 174 i = nI (p i)) → zAt G miX10_freed (zRm (d + 7) 0 0) (zQ G (zIr (fun r0 M1 X1 => r0 = r_freed p (nI m) (nI u) ∧ X1 = X ∧ ∃ M2, scw M M2 ∧ M1 = mm M2 p)) 0 0) 23 [some (.ref 160), some (.int (nI m)), some (.int (nI u)), some (.int ((bst (-1) (fun k => daysP (pu p (50 + 5 * k + 3) 0) m 3) k).1)), some (.int ((bst (-1) (fun k => daysP (pu p (50 + 5 * k + 3) 0) m 3) k).2)), some (.int (nI k)), none] [] (mm M1 p) X (0, 0) := by
      intro j
      induction j using Nat.strongRecOn with
      | ind j ih =>
        intro k M1 hj hk0 hsc hcl
        refine j_iload (n := 25) dX10_freed_23 rfl rfl ?_
        refine j_aload_n (n := 26) dX10_freed_25 rfl rfl ?_
        refine jm_get (n := 29) (k := 0) (b := 161) dX10_freed_26 rfl fX10_7 rfl (by decide) hk ?_
        refine j_bipush (n := 31) (v := nI 8) dX10_freed_29 rfl (by decide) ?_
        refine jm_ald (n := 32) (L := 3100) (a := 161) (i := 8) (v := nI (p 8)) dX10_freed_31 rfl hk rfl (by omega) rfl ?_
        refine j_icmp_geT (n := 35) (tg := 103) dX10_freed_32 rfl rfl (i_N (by omega)) (i_N (by omega)) (fun h3 => ?_) (fun h3 => ?_)
        · refine j_iload_n (n := 104) dX10_freed_103 rfl rfl ?_
          refine j_if_geT (n := 107) (tg := 112) dX10_freed_104 rfl rfl (fun h4 => ?_) (fun h4 => ?_)
          · refine j_iload_n (n := 113) dX10_freed_112 rfl rfl ?_
            refine j_if_neN (n := 116) (tg := 120) dX10_freed_113 rfl rfl (by omega) (fun h5 => ?_) (fun h5 => ?_)
            · refine j_iload (n := 122) dX10_freed_120 rfl rfl ?_
              exact j_iret dX10_freed_122 rfl rfl (Nat.le_refl _) (Nat.le_refl _) ⟨_, rfl, (by unfold r_freed; rw [if_neg (by omega), em, ← show k = p 8 by omega]; first | (rw [if_pos (by omega)]; done) | (rw [if_neg (by omega)]; first | rw [if_pos (by omega)] | rw [if_neg (by omega)])), rfl, _, hsc, rfl⟩
            · refine j_iload_n (n := 117) dX10_freed_116 rfl rfl ?_
              refine j_goto (n := 122) dX10_freed_117 rfl ?_
              exact j_iret dX10_freed_122 rfl rfl (Nat.le_refl _) (Nat.le_refl _) ⟨_, rfl, (by unfold r_freed; rw [if_neg (by omega), em, ← show k = p 8 by omega]; first | (rw [if_pos (by omega)]; done) | (rw [if_neg (by omega)]; first | rw [if_pos (by omega)] | rw [if_neg (by omega)])), rfl, _, hsc, rfl⟩
          · refine j_ldc (n := 109) (v := -1000000005) dX10_freed_107 rfl kX10_70 ?_
            refine j_goto (n := 122) dX10_freed_109 rfl ?_
            exact j_iret dX10_freed_122 rfl rfl (Nat.le_refl _) (Nat.le_refl _) ⟨_, rfl, (by unfold r_freed; rw [if_neg (by omega), em, ← show k = p 8 by omega]; first | (rw [if_pos (by omega)]; done) | (rw [if_neg (by omega)]; first | rw [if_pos (by omega)] | rw [if_neg (by omega)])), rfl, _, hsc, rfl⟩
        · refine j_aload_n (n := 36) dX10_freed_35 rfl rfl ?_
          refine jm_get (n := 39) (k := 0) (b := 161) dX10_freed_36 rfl fX10_7 rfl (by decide) hk ?_
          refine j_bipush (n := 41) (v := nI 50) dX10_freed_39 rfl (by decide) ?_
          refine j_iconst (n := 42) (v := nI 5) dX10_freed_41 rfl rfl ?_
          refine j_iload (n := 44) dX10_freed_42 rfl rfl ?_
          refine j_imulN (n := 45) (c := 5 * k) dX10_freed_44 rfl rfl ?_
          refine j_iaddN (n := 46) (c := 50 + 5 * k) dX10_freed_45 rfl rfl ?_
          refine j_iconst (n := 47) (v := nI 3) dX10_freed_46 rfl rfl ?_
          refine j_iaddN (n := 48) (c := 50 + 5 * k + 3) dX10_freed_47 rfl rfl ?_
          refine j_iconst (n := 49) (v := nI 0) dX10_freed_48 rfl rfl ?_
          refine jm_ast (n := 50) (L := 3100) (a := 161) (i := 50 + 5 * k + 3) (x := nI 0) (M2 := mm M1 (pu p (50 + 5 * k + 3) 0)) dX10_freed_49 rfl hk rfl (by omega) (mm_w _ _ _ _) ?_
          refine j_aload_n (n := 51) dX10_freed_50 rfl rfl ?_
          refine j_iload_n (n := 52) dX10_freed_51 rfl rfl ?_
          refine j_cVvr (n := 55) dX10_freed_52 rfl sX10_185 (c_goesOnMany d G _ _ hk _ _ _ (wf_set0 hw (l := k) (by omega)) m (by omega) (by omega) (by omega)) (by omega) (by decide) rfl rfl (Nat.le_of_ble_eq_true rfl) (hk).2.1 (by decide) (kM_lt hk) (by decide) (by decide) (fun N6 Y6 hh6 => ?_)
          obtain ⟨e26, M_6, hs6, e36⟩ := hh6
          rw [e26, e36]
          have hwd := wf_days (wf_set0 hw (l := k) (by omega)) m
          have h3d := hwd.2.2.2.2.1
          refine j_aload_n (n := 56) dX10_freed_55 rfl rfl ?_
          refine jm_get (n := 59) (k := 0) (b := 161) dX10_freed_56 rfl fX10_7 rfl (by decide) hk ?_
          refine j_iconst (n := 60) (v := nI 3) dX10_freed_59 rfl rfl ?_
          refine jm_ald (n := 61) (L := 3100) (a := 161) (i := 3) (v := nI ((daysP (pu p (50 + 5 * k + 3) 0) m) 3)) dX10_freed_60 rfl hk rfl (by omega) rfl ?_
          refine j_istore (n := 63) (lv2 := [some (.ref 160), some (.int (nI m)), some (.int (nI u)), some (.int ((bst (-1) (fun k => daysP (pu p (50 + 5 * k + 3) 0) m 3) k).1)), some (.int ((bst (-1) (fun k => daysP (pu p (50 + 5 * k + 3) 0) m 3) k).2)), some (.int (nI k)), some (.int (nI ((daysP (pu p (50 + 5 * k + 3) 0) m) 3)))]) dX10_freed_61 rfl rfl (by decide) rfl ?_
          refine j_aload_n (n := 64) dX10_freed_63 rfl rfl ?_
          refine j_cVv (n := 67) dX10_freed_64 rfl sX10_203 (c_laysBack (d + 6) G _ _ hk p _ (fun i hi => (congrFun (hs6 174 (by decide) (by decide)) i).trans (hcl i hi))) (by omega) (by decide) rfl rfl (Nat.le_of_ble_eq_true rfl) (hk).2.1 (by decide) (kM_lt hk) (by decide) (by decide) ?_
          refine j_mem (M2 := mm M_6 p) (congrArg (mm _) (bkP_all (fun i hi => (days_hi (wf_set0 hw (l := k) (by omega)) hi m).trans (pu_ne _ _ (by omega))))) ?_
          refine j_iload (n := 69) dX10_freed_67 rfl rfl ?_
          refine j_iload (n := 71) dX10_freed_69 rfl rfl ?_
          refine j_icmp_leT (n := 74) (tg := 79) dX10_freed_71 rfl rfl (i_N (by omega)) rfl (fun h7 => ?_) (fun h7 => ?_)
          · refine j_iload_n (n := 80) dX10_freed_79 rfl rfl ?_
            refine j_istore_n (n := 81) (lv2 := [some (.ref 160), some (.int (nI m)), some (.int (nI u)), some (.int ((bst (-1) (fun k => daysP (pu p (50 + 5 * k + 3) 0) m 3) k).1)), some (.int ((bst (-1) (fun k => daysP (pu p (50 + 5 * k + 3) 0) m 3) k).2)), some (.int (nI k)), some (.int (nI ((daysP (pu p (50 + 5 * k + 3) 0) m) 3)))]) dX10_freed_80 rfl rfl (by decide) rfl ?_
            refine j_iload (n := 83) dX10_freed_81 rfl rfl ?_
            refine j_iload (n := 85) dX10_freed_83 rfl rfl ?_
            refine j_icmp_leT (n := 88) (tg := 93) dX10_freed_85 rfl rfl (i_N (by omega)) rfl (fun h8 => ?_) (fun h8 => ?_)
            · refine j_iload (n := 95) dX10_freed_93 rfl rfl ?_
              refine j_istore (n := 97) (lv2 := [some (.ref 160), some (.int (nI m)), some (.int (nI u)), some (.int ((bst (-1) (fun k => daysP (pu p (50 + 5 * k + 3) 0) m 3) k).1)), some (.int ((bst (-1) (fun k => daysP (pu p (50 + 5 * k + 3) 0) m 3) k).2)), some (.int (nI k)), some (.int (nI ((daysP (pu p (50 + 5 * k + 3) 0) m) 3)))]) dX10_freed_95 rfl rfl (by decide) rfl ?_
              refine j_iinc (n := 100) (y := nI (k + 1)) (lv2 := [some (.ref 160), some (.int (nI m)), some (.int (nI u)), some (.int ((bst (-1) (fun k => daysP (pu p (50 + 5 * k + 3) 0) m 3) k).1)), some (.int ((bst (-1) (fun k => daysP (pu p (50 + 5 * k + 3) 0) m 3) k).2)), some (.int (nI (k + 1))), some (.int (nI ((daysP (pu p (50 + 5 * k + 3) 0) m) 3)))]) dX10_freed_97 rfl rfl (by decide) rfl (show nI k + nI 1 = nI (k + 1) by rw [nI_add]) rfl ?_
              refine j_goto (n := 23) dX10_freed_100 rfl ?_
              have e1 : bst (-1) (fun k => daysP (pu p (50 + 5 * k + 3) 0) m 3) (k + 1) = ((bst (-1) (fun k => daysP (pu p (50 + 5 * k + 3) 0) m 3) k).1, (bst (-1) (fun k => daysP (pu p (50 + 5 * k + 3) 0) m 3) k).2) := by first | (exfalso; omega) | (rw [bst, if_pos (by omega)]; done) | (rw [bst, if_neg (by omega)])
              refine j_lv (lv2 := [some (.ref 160), some (.int (nI m)), some (.int (nI u)), some (.int ((bst (-1) (fun k => daysP (pu p (50 + 5 * k + 3) 0) m 3) (k + 1)).1)), some (.int ((bst (-1) (fun k => daysP (pu p (50 + 5 * k + 3) 0) m 3) (k + 1)).2)), some (.int (nI (k + 1))), some (.int (nI ((daysP (pu p (50 + 5 * k + 3) 0) m) 3)))]) (by rw [e1]) ?_
              refine j_wk (lv2 := [some (.ref 160), some (.int (nI m)), some (.int (nI u)), some (.int ((bst (-1) (fun k => daysP (pu p (50 + 5 * k + 3) 0) m 3) (k + 1)).1)), some (.int ((bst (-1) (fun k => daysP (pu p (50 + 5 * k + 3) 0) m 3) (k + 1)).2)), some (.int (nI (k + 1))), none]) ⟨rfl, rfl, rfl, rfl, rfl, rfl, trivial⟩ ?_
              exact ih _ (by omega) (k + 1) _ rfl (by omega) ((hsc).tr hs6.w) (fun i hi => (congrFun (hs6 174 (by decide) (by decide)) i).trans (hcl i hi))
            · refine j_iload (n := 90) dX10_freed_88 rfl rfl ?_
              refine j_goto (n := 95) dX10_freed_90 rfl ?_
              refine j_istore (n := 97) (lv2 := [some (.ref 160), some (.int (nI m)), some (.int (nI u)), some (.int ((bst (-1) (fun k => daysP (pu p (50 + 5 * k + 3) 0) m 3) k).1)), some (.int (nI ((daysP (pu p (50 + 5 * k + 3) 0) m) 3))), some (.int (nI k)), some (.int (nI ((daysP (pu p (50 + 5 * k + 3) 0) m) 3)))]) dX10_freed_95 rfl rfl (by decide) rfl ?_
              refine j_iinc (n := 100) (y := nI (k + 1)) (lv2 := [some (.ref 160), some (.int (nI m)), some (.int (nI u)), some (.int ((bst (-1) (fun k => daysP (pu p (50 + 5 * k + 3) 0) m 3) k).1)), some (.int (nI ((daysP (pu p (50 + 5 * k + 3) 0) m) 3))), some (.int (nI (k + 1))), some (.int (nI ((daysP (pu p (50 + 5 * k + 3) 0) m) 3)))]) dX10_freed_97 rfl rfl (by decide) rfl (show nI k + nI 1 = nI (k + 1) by rw [nI_add]) rfl ?_
              refine j_goto (n := 23) dX10_freed_100 rfl ?_
              have e1 : bst (-1) (fun k => daysP (pu p (50 + 5 * k + 3) 0) m 3) (k + 1) = ((bst (-1) (fun k => daysP (pu p (50 + 5 * k + 3) 0) m 3) k).1, nI ((daysP (pu p (50 + 5 * k + 3) 0) m) 3)) := by first | (exfalso; omega) | (rw [bst, if_pos (by omega)]; done) | (rw [bst, if_neg (by omega)])
              refine j_lv (lv2 := [some (.ref 160), some (.int (nI m)), some (.int (nI u)), some (.int ((bst (-1) (fun k => daysP (pu p (50 + 5 * k + 3) 0) m 3) (k + 1)).1)), some (.int ((bst (-1) (fun k => daysP (pu p (50 + 5 * k + 3) 0) m 3) (k + 1)).2)), some (.int (nI (k + 1))), some (.int (nI ((daysP (pu p (50 + 5 * k + 3) 0) m) 3)))]) (by rw [e1]) ?_
              refine j_wk (lv2 := [some (.ref 160), some (.int (nI m)), some (.int (nI u)), some (.int ((bst (-1) (fun k => daysP (pu p (50 + 5 * k + 3) 0) m 3) (k + 1)).1)), some (.int ((bst (-1) (fun k => daysP (pu p (50 + 5 * k + 3) 0) m 3) (k + 1)).2)), some (.int (nI (k + 1))), none]) ⟨rfl, rfl, rfl, rfl, rfl, rfl, trivial⟩ ?_
              exact ih _ (by omega) (k + 1) _ rfl (by omega) ((hsc).tr hs6.w) (fun i hi => (congrFun (hs6 174 (by decide) (by decide)) i).trans (hcl i hi))
          · refine j_iload (n := 76) dX10_freed_74 rfl rfl ?_
            refine j_goto (n := 80) dX10_freed_76 rfl ?_
            refine j_istore_n (n := 81) (lv2 := [some (.ref 160), some (.int (nI m)), some (.int (nI u)), some (.int (nI k)), some (.int ((bst (-1) (fun k => daysP (pu p (50 + 5 * k + 3) 0) m 3) k).2)), some (.int (nI k)), some (.int (nI ((daysP (pu p (50 + 5 * k + 3) 0) m) 3)))]) dX10_freed_80 rfl rfl (by decide) rfl ?_
            refine j_iload (n := 83) dX10_freed_81 rfl rfl ?_
            refine j_iload (n := 85) dX10_freed_83 rfl rfl ?_
            refine j_icmp_leT (n := 88) (tg := 93) dX10_freed_85 rfl rfl (i_N (by omega)) rfl (fun h9 => ?_) (fun h9 => ?_)
            · refine j_iload (n := 95) dX10_freed_93 rfl rfl ?_
              refine j_istore (n := 97) (lv2 := [some (.ref 160), some (.int (nI m)), some (.int (nI u)), some (.int (nI k)), some (.int ((bst (-1) (fun k => daysP (pu p (50 + 5 * k + 3) 0) m 3) k).2)), some (.int (nI k)), some (.int (nI ((daysP (pu p (50 + 5 * k + 3) 0) m) 3)))]) dX10_freed_95 rfl rfl (by decide) rfl ?_
              refine j_iinc (n := 100) (y := nI (k + 1)) (lv2 := [some (.ref 160), some (.int (nI m)), some (.int (nI u)), some (.int (nI k)), some (.int ((bst (-1) (fun k => daysP (pu p (50 + 5 * k + 3) 0) m 3) k).2)), some (.int (nI (k + 1))), some (.int (nI ((daysP (pu p (50 + 5 * k + 3) 0) m) 3)))]) dX10_freed_97 rfl rfl (by decide) rfl (show nI k + nI 1 = nI (k + 1) by rw [nI_add]) rfl ?_
              refine j_goto (n := 23) dX10_freed_100 rfl ?_
              have e1 : bst (-1) (fun k => daysP (pu p (50 + 5 * k + 3) 0) m 3) (k + 1) = (nI k, (bst (-1) (fun k => daysP (pu p (50 + 5 * k + 3) 0) m 3) k).2) := by first | (exfalso; omega) | (rw [bst, if_pos (by omega)]; done) | (rw [bst, if_neg (by omega)])
              refine j_lv (lv2 := [some (.ref 160), some (.int (nI m)), some (.int (nI u)), some (.int ((bst (-1) (fun k => daysP (pu p (50 + 5 * k + 3) 0) m 3) (k + 1)).1)), some (.int ((bst (-1) (fun k => daysP (pu p (50 + 5 * k + 3) 0) m 3) (k + 1)).2)), some (.int (nI (k + 1))), some (.int (nI ((daysP (pu p (50 + 5 * k + 3) 0) m) 3)))]) (by rw [e1]) ?_
              refine j_wk (lv2 := [some (.ref 160), some (.int (nI m)), some (.int (nI u)), some (.int ((bst (-1) (fun k => daysP (pu p (50 + 5 * k + 3) 0) m 3) (k + 1)).1)), some (.int ((bst (-1) (fun k => daysP (pu p (50 + 5 * k + 3) 0) m 3) (k + 1)).2)), some (.int (nI (k + 1))), none]) ⟨rfl, rfl, rfl, rfl, rfl, rfl, trivial⟩ ?_
              exact ih _ (by omega) (k + 1) _ rfl (by omega) ((hsc).tr hs6.w) (fun i hi => (congrFun (hs6 174 (by decide) (by decide)) i).trans (hcl i hi))
            · refine j_iload (n := 90) dX10_freed_88 rfl rfl ?_
              refine j_goto (n := 95) dX10_freed_90 rfl ?_
              refine j_istore (n := 97) (lv2 := [some (.ref 160), some (.int (nI m)), some (.int (nI u)), some (.int (nI k)), some (.int (nI ((daysP (pu p (50 + 5 * k + 3) 0) m) 3))), some (.int (nI k)), some (.int (nI ((daysP (pu p (50 + 5 * k + 3) 0) m) 3)))]) dX10_freed_95 rfl rfl (by decide) rfl ?_
              refine j_iinc (n := 100) (y := nI (k + 1)) (lv2 := [some (.ref 160), some (.int (nI m)), some (.int (nI u)), some (.int (nI k)), some (.int (nI ((daysP (pu p (50 + 5 * k + 3) 0) m) 3))), some (.int (nI (k + 1))), some (.int (nI ((daysP (pu p (50 + 5 * k + 3) 0) m) 3)))]) dX10_freed_97 rfl rfl (by decide) rfl (show nI k + nI 1 = nI (k + 1) by rw [nI_add]) rfl ?_
              refine j_goto (n := 23) dX10_freed_100 rfl ?_
              have e1 : bst (-1) (fun k => daysP (pu p (50 + 5 * k + 3) 0) m 3) (k + 1) = (nI k, nI ((daysP (pu p (50 + 5 * k + 3) 0) m) 3)) := by first | (exfalso; omega) | (rw [bst, if_pos (by omega)]; done) | (rw [bst, if_neg (by omega)])
              refine j_lv (lv2 := [some (.ref 160), some (.int (nI m)), some (.int (nI u)), some (.int ((bst (-1) (fun k => daysP (pu p (50 + 5 * k + 3) 0) m 3) (k + 1)).1)), some (.int ((bst (-1) (fun k => daysP (pu p (50 + 5 * k + 3) 0) m 3) (k + 1)).2)), some (.int (nI (k + 1))), some (.int (nI ((daysP (pu p (50 + 5 * k + 3) 0) m) 3)))]) (by rw [e1]) ?_
              refine j_wk (lv2 := [some (.ref 160), some (.int (nI m)), some (.int (nI u)), some (.int ((bst (-1) (fun k => daysP (pu p (50 + 5 * k + 3) 0) m 3) (k + 1)).1)), some (.int ((bst (-1) (fun k => daysP (pu p (50 + 5 * k + 3) 0) m 3) (k + 1)).2)), some (.int (nI (k + 1))), none]) ⟨rfl, rfl, rfl, rfl, rfl, rfl, trivial⟩ ?_
              exact ih _ (by omega) (k + 1) _ rfl (by omega) ((hsc).tr hs6.w) (fun i hi => (congrFun (hs6 174 (by decide) (by decide)) i).trans (hcl i hi))
    refine j_wk (lv2 := [some (.ref 160), some (.int (nI m)), some (.int (nI u)), some (.int ((bst (-1) (fun k => daysP (pu p (50 + 5 * k + 3) 0) m 3) 0).1)), some (.int ((bst (-1) (fun k => daysP (pu p (50 + 5 * k + 3) 0) m 3) 0).2)), some (.int (nI 0)), none]) ⟨rfl, rfl, rfl, rfl, rfl, rfl, trivial⟩ ?_
    exact loop _ 0 _ rfl (Nat.zero_le _) ((scw.rf M).tr hs2) hc2
  · refine j_ldc (n := 10) (v := -1000000001) dX10_freed_8 rfl kX10_93 ?_
    exact j_iret dX10_freed_10 rfl rfl (Nat.le_refl _) (Nat.le_refl _) ⟨_, rfl, (by unfold r_freed; repeat (first | rw [if_pos (by omega)] | rw [if_neg (by omega)])), rfl, _, scw.rf M, rfl⟩
theorem c_becomes (d : Nat) (G : zG) (M : zMem) (X : zX) (hk : kM X) (p : Nat → Nat) (b : Nat) (hw : wf p b 9999) (hb : b ≤ 800000000) (one n what : Int32) : zCall G miX10_becomes (d + 7) [.ref 160, .int one, .int n, .int what] (zIr (fun r0 M1 X1 => r0 = r_becomes p one n what ∧ X1 = X ∧ ∃ M2, scw M M2 ∧ M1 = mm M2 p)) (mm M p) X 0 0 := by
  refine zCall.of (lv := [some (.ref 160), some (.int one), some (.int n), some (.int what), none, none, none, none]) (by decide) (Nat.le_of_ble_eq_true rfl) rfl ?_
  have h8 := hw.1.1
  refine j_aload_n (n := 1) dX10_becomes_0 rfl rfl ?_
  refine j_iload_n (n := 2) dX10_becomes_1 rfl rfl ?_
  refine j_cV (n := 5) dX10_becomes_2 rfl sX10_120 (c_isOne (d + 5) G _ _ hk _ (by omega) _) (by omega) (by decide) rfl rfl (Nat.le_of_ble_eq_true rfl) (hk).2.1 (by decide) (kM_lt hk) (by decide) (by decide) ?_
  refine j_if_eqB (n := 8) (tg := 16) dX10_becomes_5 rfl rfl (fun h1 => ?_) (fun h1 => ?_)
  · refine j_ldc (n := 18) (v := -1000000001) dX10_becomes_16 rfl kX10_93 ?_
    exact j_iret dX10_becomes_18 rfl rfl (Nat.le_refl _) (Nat.le_refl _) ⟨_, rfl, (by unfold r_becomes; repeat (first | rw [if_pos (by omega)] | rw [if_neg (by omega)])), rfl, _, scw.rf M, rfl⟩
  · refine j_iload_n (n := 9) dX10_becomes_8 rfl rfl ?_
    refine j_iload_n (n := 10) dX10_becomes_9 rfl rfl ?_
    refine j_cS (n := 13) dX10_becomes_10 rfl sX10_208 (c_isAsked (d + 5) G _ _ _ _) (by omega) (by decide) rfl rfl (Nat.le_of_ble_eq_true rfl) (by decide) (by decide) ?_
    refine j_if_neB (n := 16) (tg := 19) dX10_becomes_13 rfl rfl (fun h2 => ?_) (fun h2 => ?_)
    · obtain ⟨k, hk1, rfl⟩ := i_of (x := one) (n := p 0) (by omega) (by omega)
      have ek : tN (nI k) = k := tN_nI (by omega)
      have ik : (nI k).toInt = k := i_N (by omega)
      obtain ⟨m, hm, rfl⟩ := i_of (x := n) (n := 61) (by omega) (by omega)
      have em : tN (nI m) = m := tN_nI (by omega)
      have im : (nI m).toInt = m := i_N (by omega)
      obtain ⟨u, hu, rfl⟩ := i_of (x := what) (n := 2) (by omega) (by omega)
      have eu : tN (nI u) = u := tN_nI (by omega)
      have iu : (nI u).toInt = u := i_N (by omega)
      refine j_aload_n (n := 20) dX10_becomes_19 rfl rfl ?_
      refine j_cVvr (n := 23) dX10_becomes_20 rfl sX10_200 (c_laysBy (d + 6) G _ _ hk _) (by omega) (by decide) rfl rfl (Nat.le_of_ble_eq_true rfl) (hk).2.1 (by decide) (kM_lt hk) (by decide) (by decide) (fun N3 Y3 hh3 => ?_)
      obtain ⟨e23, M_3, ⟨hs3, hc3⟩, e33⟩ := hh3
      rw [e23, e33]
      refine j_iconst (n := 24) (v := nI 0) dX10_becomes_23 rfl rfl ?_
      refine j_istore (n := 26) (lv2 := [some (.ref 160), some (.int (nI k)), some (.int (nI m)), some (.int (nI u)), some (.int (nI 0)), none, none, none]) dX10_becomes_24 rfl rfl (by decide) rfl ?_
      refine j_iconst (n := 27) (v := (-1)) dX10_becomes_26 rfl rfl ?_
      refine j_istore (n := 29) (lv2 := [some (.ref 160), some (.int (nI k)), some (.int (nI m)), some (.int (nI u)), some (.int (nI 0)), some (.int (-1)), none, none]) dX10_becomes_27 rfl rfl (by decide) rfl ?_
      refine j_iconst (n := 30) (v := nI 0) dX10_becomes_29 rfl rfl ?_
      refine j_istore (n := 32) (lv2 := [some (.ref 160), some (.int (nI k)), some (.int (nI m)), some (.int (nI u)), some (.int (nI 0)), some (.int (-1)), some (.int (nI 0)), none]) dX10_becomes_30 rfl rfl (by decide) rfl ?_
      have loop : ∀ (j q : Nat) (M1 : zMem), 6 - q = j → q ≤ 6 → scw M M1 → (∀ i, i < 100 → M1 174 i = nI (p i)) → zAt G miX10_becomes (zRm (d + 7) 0 0) (zQ G (zIr (fun r0 M1 X1 => r0 = r_becomes p (nI k) (nI m) (nI u) ∧ X1 = X ∧ ∃ M2, scw M M2 ∧ M1 = mm M2 p)) 0 0) 32 [some (.ref 160), some (.int (nI k)), some (.int (nI m)), some (.int (nI u)), some (.int ((bst (nI 0) (fun q => daysP (pu p (10 + 5 * k + 0) q) m 3) q).1)), some (.int ((bst (nI 0) (fun q => daysP (pu p (10 + 5 * k + 0) q) m 3) q).2)), some (.int (nI q)), none] [] (mm M1 p) X (0, 0) := by
        intro j
        induction j using Nat.strongRecOn with
        | ind j ih =>
          intro q M1 hj hk0 hsc hcl
          refine j_iload (n := 34) dX10_becomes_32 rfl rfl ?_
          refine j_bipush (n := 36) (v := nI 6) dX10_becomes_34 rfl (by decide) ?_
          refine j_icmp_geT (n := 39) (tg := 102) dX10_becomes_36 rfl rfl (i_N (by omega)) (i_N (by omega)) (fun h4 => ?_) (fun h4 => ?_)
          · refine j_iload_n (n := 103) dX10_becomes_102 rfl rfl ?_
            refine j_if_neN (n := 106) (tg := 111) dX10_becomes_103 rfl rfl (by omega) (fun h5 => ?_) (fun h5 => ?_)
            · refine j_iload (n := 113) dX10_becomes_111 rfl rfl ?_
              exact j_iret dX10_becomes_113 rfl rfl (Nat.le_refl _) (Nat.le_refl _) ⟨_, rfl, (by unfold r_becomes; rw [if_neg (by omega), em, ek, ← show q = 6 by omega]; first | rw [if_pos (by omega)] | rw [if_neg (by omega)]), rfl, _, hsc, rfl⟩
            · refine j_iload (n := 108) dX10_becomes_106 rfl rfl ?_
              refine j_goto (n := 113) dX10_becomes_108 rfl ?_
              exact j_iret dX10_becomes_113 rfl rfl (Nat.le_refl _) (Nat.le_refl _) ⟨_, rfl, (by unfold r_becomes; rw [if_neg (by omega), em, ek, ← show q = 6 by omega]; first | rw [if_pos (by omega)] | rw [if_neg (by omega)]), rfl, _, hsc, rfl⟩
          · refine j_aload_n (n := 40) dX10_becomes_39 rfl rfl ?_
            refine j_iload_n (n := 41) dX10_becomes_40 rfl rfl ?_
            refine j_iconst (n := 42) (v := nI 0) dX10_becomes_41 rfl rfl ?_
            refine j_iload (n := 44) dX10_becomes_42 rfl rfl ?_
            refine j_cVv (n := 47) dX10_becomes_44 rfl sX10_80 (c_gives (d + 6) G _ _ hk _ k 0 q (by omega)) (by omega) (by decide) rfl rfl (Nat.le_of_ble_eq_true rfl) (hk).2.1 (by decide) (kM_lt hk) (by decide) (by decide) ?_
            refine j_aload_n (n := 48) dX10_becomes_47 rfl rfl ?_
            refine j_iload_n (n := 49) dX10_becomes_48 rfl rfl ?_
            refine j_cVvr (n := 52) dX10_becomes_49 rfl sX10_185 (c_goesOnMany d G _ _ hk _ _ _ (wf_kind hw hk1 (v := q) (by omega)) m (by omega) (by omega) (by omega)) (by omega) (by decide) rfl rfl (Nat.le_of_ble_eq_true rfl) (hk).2.1 (by decide) (kM_lt hk) (by decide) (by decide) (fun N6 Y6 hh6 => ?_)
            obtain ⟨e26, M_6, hs6, e36⟩ := hh6
            rw [e26, e36]
            have hwd := wf_days (wf_kind hw hk1 (v := q) (by omega)) m
            have h3d := hwd.2.2.2.2.1
            refine j_aload_n (n := 53) dX10_becomes_52 rfl rfl ?_
            refine jm_get (n := 56) (k := 0) (b := 161) dX10_becomes_53 rfl fX10_7 rfl (by decide) hk ?_
            refine j_iconst (n := 57) (v := nI 3) dX10_becomes_56 rfl rfl ?_
            refine jm_ald (n := 58) (L := 3100) (a := 161) (i := 3) (v := nI ((daysP (pu p (10 + 5 * k + 0) q) m) 3)) dX10_becomes_57 rfl hk rfl (by omega) rfl ?_
            refine j_istore (n := 60) (lv2 := [some (.ref 160), some (.int (nI k)), some (.int (nI m)), some (.int (nI u)), some (.int ((bst (nI 0) (fun q => daysP (pu p (10 + 5 * k + 0) q) m 3) q).1)), some (.int ((bst (nI 0) (fun q => daysP (pu p (10 + 5 * k + 0) q) m 3) q).2)), some (.int (nI q)), some (.int (nI ((daysP (pu p (10 + 5 * k + 0) q) m) 3)))]) dX10_becomes_58 rfl rfl (by decide) rfl ?_
            refine j_aload_n (n := 61) dX10_becomes_60 rfl rfl ?_
            refine j_cVv (n := 64) dX10_becomes_61 rfl sX10_203 (c_laysBack (d + 6) G _ _ hk p _ (fun i hi => (congrFun (hs6 174 (by decide) (by decide)) i).trans (hcl i hi))) (by omega) (by decide) rfl rfl (Nat.le_of_ble_eq_true rfl) (hk).2.1 (by decide) (kM_lt hk) (by decide) (by decide) ?_
            refine j_mem (M2 := mm M_6 p) (congrArg (mm _) (bkP_all (fun i hi => (days_hi (wf_kind hw hk1 (v := q) (by omega)) hi m).trans (pu_ne _ _ (by omega))))) ?_
            refine j_iload (n := 66) dX10_becomes_64 rfl rfl ?_
            refine j_iload (n := 68) dX10_becomes_66 rfl rfl ?_
            refine j_icmp_leT (n := 71) (tg := 76) dX10_becomes_68 rfl rfl (i_N (by omega)) rfl (fun h7 => ?_) (fun h7 => ?_)
            · refine j_iload (n := 78) dX10_becomes_76 rfl rfl ?_
              refine j_istore (n := 80) (lv2 := [some (.ref 160), some (.int (nI k)), some (.int (nI m)), some (.int (nI u)), some (.int ((bst (nI 0) (fun q => daysP (pu p (10 + 5 * k + 0) q) m 3) q).1)), some (.int ((bst (nI 0) (fun q => daysP (pu p (10 + 5 * k + 0) q) m 3) q).2)), some (.int (nI q)), some (.int (nI ((daysP (pu p (10 + 5 * k + 0) q) m) 3)))]) dX10_becomes_78 rfl rfl (by decide) rfl ?_
              refine j_iload (n := 82) dX10_becomes_80 rfl rfl ?_
              refine j_iload (n := 84) dX10_becomes_82 rfl rfl ?_
              refine j_icmp_leT (n := 87) (tg := 92) dX10_becomes_84 rfl rfl (i_N (by omega)) rfl (fun h8 => ?_) (fun h8 => ?_)
              · refine j_iload (n := 94) dX10_becomes_92 rfl rfl ?_
                refine j_istore (n := 96) (lv2 := [some (.ref 160), some (.int (nI k)), some (.int (nI m)), some (.int (nI u)), some (.int ((bst (nI 0) (fun q => daysP (pu p (10 + 5 * k + 0) q) m 3) q).1)), some (.int ((bst (nI 0) (fun q => daysP (pu p (10 + 5 * k + 0) q) m 3) q).2)), some (.int (nI q)), some (.int (nI ((daysP (pu p (10 + 5 * k + 0) q) m) 3)))]) dX10_becomes_94 rfl rfl (by decide) rfl ?_
                refine j_iinc (n := 99) (y := nI (q + 1)) (lv2 := [some (.ref 160), some (.int (nI k)), some (.int (nI m)), some (.int (nI u)), some (.int ((bst (nI 0) (fun q => daysP (pu p (10 + 5 * k + 0) q) m 3) q).1)), some (.int ((bst (nI 0) (fun q => daysP (pu p (10 + 5 * k + 0) q) m 3) q).2)), some (.int (nI (q + 1))), some (.int (nI ((daysP (pu p (10 + 5 * k + 0) q) m) 3)))]) dX10_becomes_96 rfl rfl (by decide) rfl (show nI q + nI 1 = nI (q + 1) by rw [nI_add]) rfl ?_
                refine j_goto (n := 32) dX10_becomes_99 rfl ?_
                have e1 : bst (nI 0) (fun q => daysP (pu p (10 + 5 * k + 0) q) m 3) (q + 1) = ((bst (nI 0) (fun q => daysP (pu p (10 + 5 * k + 0) q) m 3) q).1, (bst (nI 0) (fun q => daysP (pu p (10 + 5 * k + 0) q) m 3) q).2) := by first | (exfalso; omega) | (rw [bst, if_pos (by omega)]; done) | (rw [bst, if_neg (by omega)])
                refine j_lv (lv2 := [some (.ref 160), some (.int (nI k)), some (.int (nI m)), some (.int (nI u)), some (.int ((bst (nI 0) (fun q => daysP (pu p (10 + 5 * k + 0) q) m 3) (q + 1)).1)), some (.int ((bst (nI 0) (fun q => daysP (pu p (10 + 5 * k + 0) q) m 3) (q + 1)).2)), some (.int (nI (q + 1))), some (.int (nI ((daysP (pu p (10 + 5 * k + 0) q) m) 3)))]) (by rw [e1]) ?_
                refine j_wk (lv2 := [some (.ref 160), some (.int (nI k)), some (.int (nI m)), some (.int (nI u)), some (.int ((bst (nI 0) (fun q => daysP (pu p (10 + 5 * k + 0) q) m 3) (q + 1)).1)), some (.int ((bst (nI 0) (fun q => daysP (pu p (10 + 5 * k + 0) q) m 3) (q + 1)).2)), some (.int (nI (q + 1))), none]) ⟨rfl, rfl, rfl, rfl, rfl, rfl, rfl, trivial⟩ ?_
                exact ih _ (by omega) (q + 1) _ rfl (by omega) ((hsc).tr hs6.w) (fun i hi => (congrFun (hs6 174 (by decide) (by decide)) i).trans (hcl i hi))
              · refine j_iload (n := 89) dX10_becomes_87 rfl rfl ?_
                refine j_goto (n := 94) dX10_becomes_89 rfl ?_
                refine j_istore (n := 96) (lv2 := [some (.ref 160), some (.int (nI k)), some (.int (nI m)), some (.int (nI u)), some (.int ((bst (nI 0) (fun q => daysP (pu p (10 + 5 * k + 0) q) m 3) q).1)), some (.int (nI ((daysP (pu p (10 + 5 * k + 0) q) m) 3))), some (.int (nI q)), some (.int (nI ((daysP (pu p (10 + 5 * k + 0) q) m) 3)))]) dX10_becomes_94 rfl rfl (by decide) rfl ?_
                refine j_iinc (n := 99) (y := nI (q + 1)) (lv2 := [some (.ref 160), some (.int (nI k)), some (.int (nI m)), some (.int (nI u)), some (.int ((bst (nI 0) (fun q => daysP (pu p (10 + 5 * k + 0) q) m 3) q).1)), some (.int (nI ((daysP (pu p (10 + 5 * k + 0) q) m) 3))), some (.int (nI (q + 1))), some (.int (nI ((daysP (pu p (10 + 5 * k + 0) q) m) 3)))]) dX10_becomes_96 rfl rfl (by decide) rfl (show nI q + nI 1 = nI (q + 1) by rw [nI_add]) rfl ?_
                refine j_goto (n := 32) dX10_becomes_99 rfl ?_
                have e1 : bst (nI 0) (fun q => daysP (pu p (10 + 5 * k + 0) q) m 3) (q + 1) = ((bst (nI 0) (fun q => daysP (pu p (10 + 5 * k + 0) q) m 3) q).1, nI ((daysP (pu p (10 + 5 * k + 0) q) m) 3)) := by first | (exfalso; omega) | (rw [bst, if_pos (by omega)]; done) | (rw [bst, if_neg (by omega)])
                refine j_lv (lv2 := [some (.ref 160), some (.int (nI k)), some (.int (nI m)), some (.int (nI u)), some (.int ((bst (nI 0) (fun q => daysP (pu p (10 + 5 * k + 0) q) m 3) (q + 1)).1)), some (.int ((bst (nI 0) (fun q => daysP (pu p (10 + 5 * k + 0) q) m 3) (q + 1)).2)), some (.int (nI (q + 1))), some (.int (nI ((daysP (pu p (10 + 5 * k + 0) q) m) 3)))]) (by rw [e1]) ?_
                refine j_wk (lv2 := [some (.ref 160), some (.int (nI k)), some (.int (nI m)), some (.int (nI u)), some (.int ((bst (nI 0) (fun q => daysP (pu p (10 + 5 * k + 0) q) m 3) (q + 1)).1)), some (.int ((bst (nI 0) (fun q => daysP (pu p (10 + 5 * k + 0) q) m 3) (q + 1)).2)), some (.int (nI (q + 1))), none]) ⟨rfl, rfl, rfl, rfl, rfl, rfl, rfl, trivial⟩ ?_
                exact ih _ (by omega) (q + 1) _ rfl (by omega) ((hsc).tr hs6.w) (fun i hi => (congrFun (hs6 174 (by decide) (by decide)) i).trans (hcl i hi))
            · refine j_iload (n := 73) dX10_becomes_71 rfl rfl ?_
              refine j_goto (n := 78) dX10_becomes_73 rfl ?_
              refine j_istore (n := 80) (lv2 := [some (.ref 160), some (.int (nI k)), some (.int (nI m)), some (.int (nI u)), some (.int (nI q)), some (.int ((bst (nI 0) (fun q => daysP (pu p (10 + 5 * k + 0) q) m 3) q).2)), some (.int (nI q)), some (.int (nI ((daysP (pu p (10 + 5 * k + 0) q) m) 3)))]) dX10_becomes_78 rfl rfl (by decide) rfl ?_
              refine j_iload (n := 82) dX10_becomes_80 rfl rfl ?_
              refine j_iload (n := 84) dX10_becomes_82 rfl rfl ?_
              refine j_icmp_leT (n := 87) (tg := 92) dX10_becomes_84 rfl rfl (i_N (by omega)) rfl (fun h9 => ?_) (fun h9 => ?_)
              · refine j_iload (n := 94) dX10_becomes_92 rfl rfl ?_
                refine j_istore (n := 96) (lv2 := [some (.ref 160), some (.int (nI k)), some (.int (nI m)), some (.int (nI u)), some (.int (nI q)), some (.int ((bst (nI 0) (fun q => daysP (pu p (10 + 5 * k + 0) q) m 3) q).2)), some (.int (nI q)), some (.int (nI ((daysP (pu p (10 + 5 * k + 0) q) m) 3)))]) dX10_becomes_94 rfl rfl (by decide) rfl ?_
                refine j_iinc (n := 99) (y := nI (q + 1)) (lv2 := [some (.ref 160), some (.int (nI k)), some (.int (nI m)), some (.int (nI u)), some (.int (nI q)), some (.int ((bst (nI 0) (fun q => daysP (pu p (10 + 5 * k + 0) q) m 3) q).2)), some (.int (nI (q + 1))), some (.int (nI ((daysP (pu p (10 + 5 * k + 0) q) m) 3)))]) dX10_becomes_96 rfl rfl (by decide) rfl (show nI q + nI 1 = nI (q + 1) by rw [nI_add]) rfl ?_
                refine j_goto (n := 32) dX10_becomes_99 rfl ?_
                have e1 : bst (nI 0) (fun q => daysP (pu p (10 + 5 * k + 0) q) m 3) (q + 1) = (nI q, (bst (nI 0) (fun q => daysP (pu p (10 + 5 * k + 0) q) m 3) q).2) := by first | (exfalso; omega) | (rw [bst, if_pos (by omega)]; done) | (rw [bst, if_neg (by omega)])
                refine j_lv (lv2 := [some (.ref 160), some (.int (nI k)), some (.int (nI m)), some (.int (nI u)), some (.int ((bst (nI 0) (fun q => daysP (pu p (10 + 5 * k + 0) q) m 3) (q + 1)).1)), some (.int ((bst (nI 0) (fun q => daysP (pu p (10 + 5 * k + 0) q) m 3) (q + 1)).2)), some (.int (nI (q + 1))), some (.int (nI ((daysP (pu p (10 + 5 * k + 0) q) m) 3)))]) (by rw [e1]) ?_
                refine j_wk (lv2 := [some (.ref 160), some (.int (nI k)), some (.int (nI m)), some (.int (nI u)), some (.int ((bst (nI 0) (fun q => daysP (pu p (10 + 5 * k + 0) q) m 3) (q + 1)).1)), some (.int ((bst (nI 0) (fun q => daysP (pu p (10 + 5 * k + 0) q) m 3) (q + 1)).2)), some (.int (nI (q + 1))), none]) ⟨rfl, rfl, rfl, rfl, rfl, rfl, rfl, trivial⟩ ?_
                exact ih _ (by omega) (q + 1) _ rfl (by omega) ((hsc).tr hs6.w) (fun i hi => (congrFun (hs6 174 (by decide) (by decide)) i).trans (hcl i hi))
              · refine j_iload (n := 89) dX10_becomes_87 rfl rfl ?_
                refine j_goto (n := 94) dX10_becomes_89 rfl ?_
                refine j_istore (n := 96) (lv2 := [some (.ref 160), some (.int (nI k)), some (.int (nI m)), some (.int (nI u)), some (.int (nI q)), some (.int (nI ((daysP (pu p (10 + 5 * k + 0) q) m) 3))), some (.int (nI q)), some (.int (nI ((daysP (pu p (10 + 5 * k + 0) q) m) 3)))]) dX10_becomes_94 rfl rfl (by decide) rfl ?_
                refine j_iinc (n := 99) (y := nI (q + 1)) (lv2 := [some (.ref 160), some (.int (nI k)), some (.int (nI m)), some (.int (nI u)), some (.int (nI q)), some (.int (nI ((daysP (pu p (10 + 5 * k + 0) q) m) 3))), some (.int (nI (q + 1))), some (.int (nI ((daysP (pu p (10 + 5 * k + 0) q) m) 3)))]) dX10_becomes_96 rfl rfl (by decide) rfl (show nI q + nI 1 = nI (q + 1) by rw [nI_add]) rfl ?_
                refine j_goto (n := 32) dX10_becomes_99 rfl ?_
                have e1 : bst (nI 0) (fun q => daysP (pu p (10 + 5 * k + 0) q) m 3) (q + 1) = (nI q, nI ((daysP (pu p (10 + 5 * k + 0) q) m) 3)) := by first | (exfalso; omega) | (rw [bst, if_pos (by omega)]; done) | (rw [bst, if_neg (by omega)])
                refine j_lv (lv2 := [some (.ref 160), some (.int (nI k)), some (.int (nI m)), some (.int (nI u)), some (.int ((bst (nI 0) (fun q => daysP (pu p (10 + 5 * k + 0) q) m 3) (q + 1)).1)), some (.int ((bst (nI 0) (fun q => daysP (pu p (10 + 5 * k + 0) q) m 3) (q + 1)).2)), some (.int (nI (q + 1))), some (.int (nI ((daysP (pu p (10 + 5 * k + 0) q) m) 3)))]) (by rw [e1]) ?_
                refine j_wk (lv2 := [some (.ref 160), some (.int (nI k)), some (.int (nI m)), some (.int (nI u)), some (.int ((bst (nI 0) (fun q => daysP (pu p (10 + 5 * k + 0) q) m 3) (q + 1)).1)), some (.int ((bst (nI 0) (fun q => daysP (pu p (10 + 5 * k + 0) q) m 3) (q + 1)).2)), some (.int (nI (q + 1))), none]) ⟨rfl, rfl, rfl, rfl, rfl, rfl, rfl, trivial⟩ ?_
                exact ih _ (by omega) (q + 1) _ rfl (by omega) ((hsc).tr hs6.w) (fun i hi => (congrFun (hs6 174 (by decide) (by decide)) i).trans (hcl i hi))
      refine j_wk (lv2 := [some (.ref 160), some (.int (nI k)), some (.int (nI m)), some (.int (nI u)), some (.int ((bst (nI 0) (fun q => daysP (pu p (10 + 5 * k + 0) q) m 3) 0).1)), some (.int ((bst (nI 0) (fun q => daysP (pu p (10 + 5 * k + 0) q) m 3) 0).2)), some (.int (nI 0)), none]) ⟨rfl, rfl, rfl, rfl, rfl, rfl, rfl, trivial⟩ ?_
      exact loop _ 0 _ rfl (Nat.zero_le _) ((scw.rf M).tr hs3) hc3
    · refine j_ldc (n := 18) (v := -1000000001) dX10_becomes_16 rfl kX10_93 ?_
      exact j_iret dX10_becomes_18 rfl rfl (Nat.le_refl _) (Nat.le_refl _) ⟨_, rfl, (by unfold r_becomes; repeat (first | rw [if_pos (by omega)] | rw [if_neg (by omega)])), rfl, _, scw.rf M, rfl⟩
