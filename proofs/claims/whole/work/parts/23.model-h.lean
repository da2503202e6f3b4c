-- MODEL H: by program (wip/whole/gen/b8.py)
theorem c_goesOnMany (d : Nat) (G : zG) (M : zMem) (X : zX) (hk : kM X) (p : Nat → Nat) (b D : Nat) (hw : wf p b D) (n : Nat) (hn : n ≤ 1000) (hb : b ≤ 900000000) (hD : D ≤ 900000000) : zCall G miX10_goesOnMany (d + 6) [.ref 160, .int (nI n)] (zVr (fun M1 X1 => X1 = X ∧ ∃ M2, scr M M2 ∧ M1 = mm M2 (daysP p n))) (mm M p) X 0 0 := by
  refine zCall.of (lv := [some (.ref 160), some (.int (nI n)), none]) (by decide) (Nat.le_of_ble_eq_true rfl) rfl ?_
  refine j_iconst (n := 1) (v := nI 0) dX10_goesOnMany_0 rfl rfl ?_
  refine j_istore_n (n := 2) (lv2 := [some (.ref 160), some (.int (nI n)), some (.int (nI 0))]) dX10_goesOnMany_1 rfl rfl (by decide) rfl ?_
  have loop : ∀ (j k : Nat) (M1 : zMem), n - k = j → k ≤ n → scr M M1 → zAt G miX10_goesOnMany (zRm (d + 6) 0 0) (zQ G (zVr (fun M1 X1 => X1 = X ∧ ∃ M2, scr M M2 ∧ M1 = mm M2 (daysP p n))) 0 0) 2 [some (.ref 160), some (.int (nI n)), some (.int (nI k))] [] (mm M1 (daysP p k)) X (0, 0) := by
    intro j
    induction j using Nat.strongRecOn with
    | ind j ih =>
      intro k M1 hj hk0 hsc
      refine j_iload_n (n := 3) dX10_goesOnMany_2 rfl rfl ?_
      refine j_iload_n (n := 4) dX10_goesOnMany_3 rfl rfl ?_
      refine j_icmp_geT (n := 7) (tg := 17) dX10_goesOnMany_4 rfl rfl (i_N (by omega)) (i_N (by omega)) (fun h1 => ?_) (fun h1 => ?_)
      · exact j_vret dX10_goesOnMany_17 rfl (Nat.le_refl _) (Nat.le_refl _) ⟨rfl, rfl, _, hsc, (by rw [show k = n by omega])⟩
      · refine j_aload_n (n := 8) dX10_goesOnMany_7 rfl rfl ?_
        refine j_cVvr (n := 11) dX10_goesOnMany_8 rfl sX10_182 (c_goesOn d G _ _ hk _ _ _ (wf_days hw k) (by omega) (by omega)) (by omega) (by decide) rfl rfl (Nat.le_of_ble_eq_true rfl) (hk).2.1 (by decide) (kM_lt hk) (by decide) (by decide) (fun N2 Y2 hh2 => ?_)
        obtain ⟨e22, M_2, hs2, e32⟩ := hh2
        rw [e22, e32]
        refine j_iinc (n := 14) (y := nI (k + 1)) (lv2 := [some (.ref 160), some (.int (nI n)), some (.int (nI (k + 1)))]) dX10_goesOnMany_11 rfl rfl (by decide) rfl (show nI k + nI 1 = nI (k + 1) by rw [nI_add]) rfl ?_
        refine j_goto (n := 2) dX10_goesOnMany_14 rfl ?_
        exact ih _ (by omega) (k + 1) _ rfl (by omega) ((hsc).tr hs2)
  exact loop _ 0 M rfl (Nat.zero_le _) (scr.rf M)
def r_days (p : Nat → Nat) (n : Int32) : Int32 := if ¬ (1 ≤ n.toInt ∧ n.toInt ≤ 100) then cBAD else nI (daysP p (min (tN n) (9999 - p 2)) 3) - nI (p 3)
def q_days (p : Nat → Nat) (n : Int32) : Nat → Nat := if ¬ (1 ≤ n.toInt ∧ n.toInt ≤ 100) then p else daysP p (min (tN n) (9999 - p 2))
theorem c_days (d : Nat) (G : zG) (M : zMem) (X : zX) (hk : kM X) (p : Nat → Nat) (b : Nat) (hw : wf p b 9999) (hb : b ≤ 900000000) (n : Int32) : zCall G miX10_days (d + 7) [.ref 160, .int n] (zIr (fun r0 M1 X1 => r0 = r_days p n ∧ X1 = X ∧ ∃ M2, scr M M2 ∧ M1 = mm M2 (q_days p n))) (mm M p) X 0 0 := by
  refine zCall.of (lv := [some (.ref 160), some (.int n), none, none]) (by decide) (Nat.le_of_ble_eq_true rfl) rfl ?_
  have h2 := hw.day
  refine j_iload_n (n := 1) dX10_days_0 rfl rfl ?_
  refine j_i2l (n := 2) dX10_days_1 rfl ?_
  refine j_lconst (n := 3) (v := lN 1) dX10_days_2 rfl rfl ?_
  refine j_ldc2 (n := 6) (v := lN 100) dX10_days_3 rfl kX10_159 ?_
  refine j_cS (n := 9) dX10_days_6 rfl sX10_71 (c_isInI (x := n.toInt) (a := 1) (b := 100) (d + 6) G _ _ _ _ _ (l_toInt _) rfl rfl) (by omega) (by decide) rfl rfl (Nat.le_of_ble_eq_true rfl) (by decide) (by decide) ?_
  refine j_if_neB (n := 12) (tg := 15) dX10_days_9 rfl rfl (fun h1 => ?_) (fun h1 => ?_)
  · obtain ⟨m, hm, rfl⟩ := i_of (x := n) (n := 101) (by omega) (by omega)
    have em : tN (nI m) = m := tN_nI (by omega)
    have im : (nI m).toInt = m := i_N (by omega)
    refine j_aload_n (n := 16) dX10_days_15 rfl rfl ?_
    refine jm_get (n := 19) (k := 0) (b := 161) dX10_days_16 rfl fX10_7 rfl (by decide) hk ?_
    refine j_iconst (n := 20) (v := nI 3) dX10_days_19 rfl rfl ?_
    refine jm_ald (n := 21) (L := 3100) (a := 161) (i := 3) (v := nI (p 3)) dX10_days_20 rfl hk rfl (by omega) rfl ?_
    refine j_istore_n (n := 22) (lv2 := [some (.ref 160), some (.int (nI m)), some (.int (nI (p 3))), none]) dX10_days_21 rfl rfl (by decide) rfl ?_
    refine j_sipush (n := 25) (v := nI 9999) dX10_days_22 rfl (by decide) ?_
    refine j_aload_n (n := 26) dX10_days_25 rfl rfl ?_
    refine jm_get (n := 29) (k := 0) (b := 161) dX10_days_26 rfl fX10_7 rfl (by decide) hk ?_
    refine j_iconst (n := 30) (v := nI 2) dX10_days_29 rfl rfl ?_
    refine jm_ald (n := 31) (L := 3100) (a := 161) (i := 2) (v := nI (p 2)) dX10_days_30 rfl hk rfl (by omega) rfl ?_
    refine j_isubN (n := 32) (c := 9999 - (p 2)) dX10_days_31 rfl (by omega) (by omega) ?_
    refine j_istore_n (n := 33) (lv2 := [some (.ref 160), some (.int (nI m)), some (.int (nI (p 3))), some (.int (nI (9999 - (p 2))))]) dX10_days_32 rfl rfl (by decide) rfl ?_
    refine j_aload_n (n := 34) dX10_days_33 rfl rfl ?_
    refine j_iload_n (n := 35) dX10_days_34 rfl rfl ?_
    refine j_iload_n (n := 36) dX10_days_35 rfl rfl ?_
    refine j_icmp_geT (n := 39) (tg := 43) dX10_days_36 rfl rfl (i_N (by omega)) (i_N (by omega)) (fun h2 => ?_) (fun h2 => ?_)
    · refine j_iload_n (n := 44) dX10_days_43 rfl rfl ?_
      refine j_cVvr (n := 47) dX10_days_44 rfl sX10_185 (c_goesOnMany d G _ _ hk _ _ _ hw (9999 - (p 2)) (by omega) (by omega) (by omega)) (by omega) (by decide) rfl rfl (Nat.le_of_ble_eq_true rfl) (hk).2.1 (by decide) (kM_lt hk) (by decide) (by decide) (fun N3 Y3 hh3 => ?_)
      obtain ⟨e23, M_3, hs3, e33⟩ := hh3
      rw [e23, e33]
      refine j_aload_n (n := 48) dX10_days_47 rfl rfl ?_
      refine jm_get (n := 51) (k := 0) (b := 161) dX10_days_48 rfl fX10_7 rfl (by decide) hk ?_
      refine j_iconst (n := 52) (v := nI 3) dX10_days_51 rfl rfl ?_
      refine jm_ald (n := 53) (L := 3100) (a := 161) (i := 3) (v := nI ((daysP p (9999 - (p 2))) 3)) dX10_days_52 rfl hk rfl (by omega) rfl ?_
      refine j_iload_n (n := 54) dX10_days_53 rfl rfl ?_
      refine j_isub (n := 55) dX10_days_54 rfl ?_
      exact j_iret dX10_days_55 rfl rfl (Nat.le_refl _) (Nat.le_refl _) ⟨_, rfl, (by unfold r_days; rw [if_neg (by omega), em]; first | rw [show min m (9999 - p 2) = m by omega] | rw [show min m (9999 - p 2) = 9999 - p 2 by omega]), rfl, _, (scr.rf M).tr hs3, (by unfold q_days; rw [if_neg (by omega), em]; first | rw [show min m (9999 - p 2) = m by omega] | rw [show min m (9999 - p 2) = 9999 - p 2 by omega])⟩
    · refine j_iload_n (n := 40) dX10_days_39 rfl rfl ?_
      refine j_goto (n := 44) dX10_days_40 rfl ?_
      refine j_cVvr (n := 47) dX10_days_44 rfl sX10_185 (c_goesOnMany d G _ _ hk _ _ _ hw m (by omega) (by omega) (by omega)) (by omega) (by decide) rfl rfl (Nat.le_of_ble_eq_true rfl) (hk).2.1 (by decide) (kM_lt hk) (by decide) (by decide) (fun N4 Y4 hh4 => ?_)
      obtain ⟨e24, M_4, hs4, e34⟩ := hh4
      rw [e24, e34]
      refine j_aload_n (n := 48) dX10_days_47 rfl rfl ?_
      refine jm_get (n := 51) (k := 0) (b := 161) dX10_days_48 rfl fX10_7 rfl (by decide) hk ?_
      refine j_iconst (n := 52) (v := nI 3) dX10_days_51 rfl rfl ?_
      refine jm_ald (n := 53) (L := 3100) (a := 161) (i := 3) (v := nI ((daysP p m) 3)) dX10_days_52 rfl hk rfl (by omega) rfl ?_
      refine j_iload_n (n := 54) dX10_days_53 rfl rfl ?_
      refine j_isub (n := 55) dX10_days_54 rfl ?_
      exact j_iret dX10_days_55 rfl rfl (Nat.le_refl _) (Nat.le_refl _) ⟨_, rfl, (by unfold r_days; rw [if_neg (by omega), em]; first | rw [show min m (9999 - p 2) = m by omega] | rw [show min m (9999 - p 2) = 9999 - p 2 by omega]), rfl, _, (scr.rf M).tr hs4, (by unfold q_days; rw [if_neg (by omega), em]; first | rw [show min m (9999 - p 2) = m by omega] | rw [show min m (9999 - p 2) = 9999 - p 2 by omega])⟩
  · refine j_ldc (n := 14) (v := -1000000001) dX10_days_12 rfl kX10_93 ?_
    exact j_iret dX10_days_14 rfl rfl (Nat.le_refl _) (Nat.le_refl _) ⟨_, rfl, (by unfold r_days; rw [if_pos (by omega)]), rfl, _, scr.rf M, (by unfold q_days; rw [if_pos (by omega)])⟩
def sumP (p : Nat → Nat) : Nat → Nat
  | 0 => 0
  | k + 1 => sumP p k + regsP p k
theorem sumP_le {p : Nat → Nat} (hw : wfO p) : ∀ k, k ≤ p 0 → sumP p k ≤ 297 * k
  | 0, _ => Nat.le_refl _
  | k + 1, h => by
    have := sumP_le hw k (by omega)
    have ho := hw.2 k (by omega)
    unfold sumP regsP
    omega
theorem c_regretsOfAll (d : Nat) (G : zG) (M : zMem) (X : zX) (hk : kM X) (p : Nat → Nat) (hw : wfO p) : zCall G miX10_regretsOfAll (d + 2) [.ref 160] (zI (nI (sumP p (p 0))) (mm M p) X) (mm M p) X 0 0 := by
  refine zCall.of (lv := [some (.ref 160), none, none]) (by decide) (Nat.le_of_ble_eq_true rfl) rfl ?_
  have hw0 := hw.1
  refine j_iconst (n := 1) (v := nI 0) dX10_regretsOfAll_0 rfl rfl ?_
  refine j_istore_n (n := 2) (lv2 := [some (.ref 160), some (.int (nI 0)), none]) dX10_regretsOfAll_1 rfl rfl (by decide) rfl ?_
  refine j_iconst (n := 3) (v := nI 0) dX10_regretsOfAll_2 rfl rfl ?_
  refine j_istore_n (n := 4) (lv2 := [some (.ref 160), some (.int (nI 0)), some (.int (nI 0))]) dX10_regretsOfAll_3 rfl rfl (by decide) rfl ?_
  have loop : ∀ (j : Nat) (k : Nat), p 0 - k = j → (k ≤ p 0) → zAt G miX10_regretsOfAll (zRm (d + 2) 0 0) (zQ G (zI (nI (sumP p (p 0))) (mm M p) X) 0 0) 4 [some (.ref 160), some (.int (nI (sumP p k))), some (.int (nI k))] [] (mm M p) X (0, 0) := by
    intro j
    induction j using Nat.strongRecOn with
    | ind j ih =>
      intro k hj hk0
      refine j_iload_n (n := 5) dX10_regretsOfAll_4 rfl rfl ?_
      refine j_aload_n (n := 6) dX10_regretsOfAll_5 rfl rfl ?_
      refine jm_get (n := 9) (k := 0) (b := 161) dX10_regretsOfAll_6 rfl fX10_7 rfl (by decide) hk ?_
      refine j_iconst (n := 10) (v := nI 0) dX10_regretsOfAll_9 rfl rfl ?_
      refine jm_ald (n := 11) (L := 3100) (a := 161) (i := 0) (v := nI (p 0)) dX10_regretsOfAll_10 rfl hk rfl (by omega) rfl ?_
      refine j_icmp_geT (n := 14) (tg := 28) dX10_regretsOfAll_11 rfl rfl (i_N (by omega)) (i_N (by omega)) (fun h1 => ?_) (fun h1 => ?_)
      · refine j_iload_n (n := 29) dX10_regretsOfAll_28 rfl rfl ?_
        exact j_ri dX10_regretsOfAll_29 rfl (Nat.le_refl _) (Nat.le_refl _) (by rw [show k = p 0 by omega]) rfl rfl
      · refine j_iload_n (n := 15) dX10_regretsOfAll_14 rfl rfl ?_
        refine j_aload_n (n := 16) dX10_regretsOfAll_15 rfl rfl ?_
        refine j_iload_n (n := 17) dX10_regretsOfAll_16 rfl rfl ?_
        refine j_cV (n := 20) dX10_regretsOfAll_17 rfl sX10_117 (c_regrets d G _ _ hk _ k (by omega)) (by omega) (by decide) rfl rfl (Nat.le_of_ble_eq_true rfl) (hk).2.1 (by decide) (kM_lt hk) (by decide) (by decide) ?_
        refine j_iaddN (n := 21) (c := sumP p k + regsP p k) dX10_regretsOfAll_20 rfl rfl ?_
        refine j_istore_n (n := 22) (lv2 := [some (.ref 160), some (.int (nI (sumP p k + regsP p k))), some (.int (nI k))]) dX10_regretsOfAll_21 rfl rfl (by decide) rfl ?_
        refine j_iinc (n := 25) (y := nI (k + 1)) (lv2 := [some (.ref 160), some (.int (nI (sumP p k + regsP p k))), some (.int (nI (k + 1)))]) dX10_regretsOfAll_22 rfl rfl (by decide) rfl (show nI k + nI 1 = nI (k + 1) by rw [nI_add]) rfl ?_
        refine j_goto (n := 4) dX10_regretsOfAll_25 rfl ?_
        exact ih _ (by omega) (k + 1) rfl (by omega)
  exact loop _ 0 rfl (Nat.zero_le _)
def r_town (p : Nat → Nat) (what : Int32) : Int32 := if ¬ (0 ≤ what.toInt ∧ what.toInt ≤ 4) then cBAD else if what.toInt < 3 then nI (p (3 + tN what)) else if what.toInt = 3 then nI (sumP p (p 0)) else setOf (fun k => p (50 + 5 * k + 4) = 1) (p 8)
theorem shl_0 (x : Int32) : nI 0 <<< x = nI 0 := by
  apply Int32.toBitVec_inj.mp
  show (0#32) <<< _ = 0#32
  simp
theorem c_town (d : Nat) (G : zG) (M : zMem) (X : zX) (hk : kM X) (p : Nat → Nat) (hw : wfO p) (hwl : wfL p) (what : Int32) : zCall G miX10_town (d + 3) [.ref 160, .int what] (zI (r_town p what) (mm M p) X) (mm M p) X 0 0 := by
  refine zCall.of (lv := [some (.ref 160), some (.int what), none, none]) (by decide) (Nat.le_of_ble_eq_true rfl) rfl ?_
  have hw0 := hw.1
  have hw1 := hwl.1
  refine j_iload_n (n := 1) dX10_town_0 rfl rfl ?_
  refine j_i2l (n := 2) dX10_town_1 rfl ?_
  refine j_lconst (n := 3) (v := lN 0) dX10_town_2 rfl rfl ?_
  refine j_ldc2 (n := 6) (v := lN 4) dX10_town_3 rfl kX10_139 ?_
  refine j_cS (n := 9) dX10_town_6 rfl sX10_71 (c_isInI (x := what.toInt) (a := 0) (b := 4) (d + 2) G _ _ _ _ _ (l_toInt _) rfl rfl) (by omega) (by decide) rfl rfl (Nat.le_of_ble_eq_true rfl) (by decide) (by decide) ?_
  refine j_if_neB (n := 12) (tg := 15) dX10_town_9 rfl rfl (fun h1 => ?_) (fun h1 => ?_)
  · obtain ⟨u, hu, rfl⟩ := i_of (x := what) (n := 5) (by omega) (by omega)
    have eu : tN (nI u) = u := tN_nI (by omega)
    have iu : (nI u).toInt = u := i_N (by omega)
    refine j_iconst (n := 16) (v := nI 0) dX10_town_15 rfl rfl ?_
    refine j_istore_n (n := 17) (lv2 := [some (.ref 160), some (.int (nI u)), some (.int (nI 0)), none]) dX10_town_16 rfl rfl (by decide) rfl ?_
    refine j_iconst (n := 18) (v := nI 0) dX10_town_17 rfl rfl ?_
    refine j_istore_n (n := 19) (lv2 := [some (.ref 160), some (.int (nI u)), some (.int (nI 0)), some (.int (nI 0))]) dX10_town_18 rfl rfl (by decide) rfl ?_
    have loop : ∀ (j : Nat) (k : Nat), p 8 - k = j → (k ≤ p 8) → zAt G miX10_town (zRm (d + 3) 0 0) (zQ G (zI (r_town p (nI u)) (mm M p) X) 0 0) 19 [some (.ref 160), some (.int (nI u)), some (.int (setOf (fun k => p (50 + 5 * k + 4) = 1) k)), some (.int (nI k))] [] (mm M p) X (0, 0) := by
      intro j
      induction j using Nat.strongRecOn with
      | ind j ih =>
        intro k hj hk0
        refine j_iload_n (n := 20) dX10_town_19 rfl rfl ?_
        refine j_aload_n (n := 21) dX10_town_20 rfl rfl ?_
        refine jm_get (n := 24) (k := 0) (b := 161) dX10_town_21 rfl fX10_7 rfl (by decide) hk ?_
        refine j_bipush (n := 26) (v := nI 8) dX10_town_24 rfl (by decide) ?_
        refine jm_ald (n := 27) (L := 3100) (a := 161) (i := 8) (v := nI (p 8)) dX10_town_26 rfl hk rfl (by omega) rfl ?_
        refine j_icmp_geT (n := 30) (tg := 47) dX10_town_27 rfl rfl (i_N (by omega)) (i_N (by omega)) (fun h2 => ?_) (fun h2 => ?_)
        · refine j_iload_n (n := 48) dX10_town_47 rfl rfl ?_
          refine j_iconst (n := 49) (v := nI 3) dX10_town_48 rfl rfl ?_
          refine j_icmp_geT (n := 52) (tg := 63) dX10_town_49 rfl rfl (i_N (by omega)) (i_N (by omega)) (fun h3 => ?_) (fun h3 => ?_)
          · refine j_iload_n (n := 64) dX10_town_63 rfl rfl ?_
            refine j_iconst (n := 65) (v := nI 3) dX10_town_64 rfl rfl ?_
            refine j_icmp_neT (n := 68) (tg := 75) dX10_town_65 rfl rfl (i_N (by omega)) (i_N (by omega)) (fun h4 => ?_) (fun h4 => ?_)
            · refine j_iload_n (n := 76) dX10_town_75 rfl rfl ?_
              exact j_ri dX10_town_76 rfl (Nat.le_refl _) (Nat.le_refl _) (by unfold r_town; first | (rw [if_pos (by omega)]; done) | (rw [if_neg (by omega), eu]; first | (rw [if_pos (by omega)]; done) | (rw [if_neg (by omega), if_pos (by omega)]; done) | rw [if_neg (by omega), if_neg (by omega), show k = p 8 by omega])) rfl rfl
            · refine j_aload_n (n := 69) dX10_town_68 rfl rfl ?_
              refine j_cV (n := 72) dX10_town_69 rfl sX10_188 (c_regretsOfAll d G _ _ hk _ hw) (by omega) (by decide) rfl rfl (Nat.le_of_ble_eq_true rfl) (hk).2.1 (by decide) (kM_lt hk) (by decide) (by decide) ?_
              refine j_goto (n := 76) dX10_town_72 rfl ?_
              exact j_ri dX10_town_76 rfl (Nat.le_refl _) (Nat.le_refl _) (by unfold r_town; first | (rw [if_pos (by omega)]; done) | (rw [if_neg (by omega), eu]; first | (rw [if_pos (by omega)]; done) | (rw [if_neg (by omega), if_pos (by omega)]; done) | rw [if_neg (by omega), if_neg (by omega), show k = p 8 by omega])) rfl rfl
          · refine j_aload_n (n := 53) dX10_town_52 rfl rfl ?_
            refine jm_get (n := 56) (k := 0) (b := 161) dX10_town_53 rfl fX10_7 rfl (by decide) hk ?_
            refine j_iconst (n := 57) (v := nI 3) dX10_town_56 rfl rfl ?_
            refine j_iload_n (n := 58) dX10_town_57 rfl rfl ?_
            refine j_iaddN (n := 59) (c := 3 + u) dX10_town_58 rfl rfl ?_
            refine jm_ald (n := 60) (L := 3100) (a := 161) (i := 3 + u) (v := nI (p (3 + u))) dX10_town_59 rfl hk rfl (by omega) rfl ?_
            refine j_goto (n := 76) dX10_town_60 rfl ?_
            exact j_ri dX10_town_76 rfl (Nat.le_refl _) (Nat.le_refl _) (by unfold r_town; first | (rw [if_pos (by omega)]; done) | (rw [if_neg (by omega), eu]; first | (rw [if_pos (by omega)]; done) | (rw [if_neg (by omega), if_pos (by omega)]; done) | rw [if_neg (by omega), if_neg (by omega), show k = p 8 by omega])) rfl rfl
        · refine j_iload_n (n := 31) dX10_town_30 rfl rfl ?_
          refine j_aload_n (n := 32) dX10_town_31 rfl rfl ?_
          refine j_iload_n (n := 33) dX10_town_32 rfl rfl ?_
          refine j_iconst (n := 34) (v := nI 4) dX10_town_33 rfl rfl ?_
          refine j_cV (n := 37) dX10_town_34 rfl sX10_147 (c_lockOf (d + 2) G _ _ hk _ k 4 (by omega)) (by omega) (by decide) rfl rfl (Nat.le_of_ble_eq_true rfl) (hk).2.1 (by decide) (kM_lt hk) (by decide) (by decide) ?_
          refine j_iload_n (n := 38) dX10_town_37 rfl rfl ?_
          refine j_ishl (n := 39) dX10_town_38 rfl ?_
          refine j_ior (n := 40) dX10_town_39 rfl ?_
          refine j_istore_n (n := 41) (lv2 := [some (.ref 160), some (.int (nI u)), some (.int ((setOf (fun k => p (50 + 5 * k + 4) = 1) k) ||| ((nI (p (50 + 5 * k + 4))) <<< ((nI k) &&& 31)))), some (.int (nI k))]) dX10_town_40 rfl rfl (by decide) rfl ?_
          refine j_iinc (n := 44) (y := nI (k + 1)) (lv2 := [some (.ref 160), some (.int (nI u)), some (.int ((setOf (fun k => p (50 + 5 * k + 4) = 1) k) ||| ((nI (p (50 + 5 * k + 4))) <<< ((nI k) &&& 31)))), some (.int (nI (k + 1)))]) dX10_town_41 rfl rfl (by decide) rfl (show nI k + nI 1 = nI (k + 1) by rw [nI_add]) rfl ?_
          refine j_goto (n := 19) dX10_town_44 rfl ?_
          have e1 : (setOf (fun k => p (50 + 5 * k + 4) = 1) k) ||| ((nI (p (50 + 5 * k + 4))) <<< ((nI k) &&& 31)) = setOf (fun k => p (50 + 5 * k + 4) = 1) (k + 1) := by
            have hl := hwl.2 k (by omega)
            by_cases hj1 : p (50 + 5 * k + 4) = 1
            · rw [setOf, if_pos hj1, hj1]
            · rw [setOf, if_neg hj1, show p (50 + 5 * k + 4) = 0 by omega, shl_0]
          rw [e1]
          exact ih _ (by omega) (k + 1) rfl (by omega)
    exact loop _ 0 rfl (Nat.zero_le _)
  · refine j_ldc (n := 14) (v := -1000000001) dX10_town_12 rfl kX10_93 ?_
    exact j_ri dX10_town_14 rfl (Nat.le_refl _) (Nat.le_refl _) (by unfold r_town; first | (rw [if_pos (by omega)]; done) | (rw [if_neg (by omega), eu]; first | (rw [if_pos (by omega)]; done) | (rw [if_neg (by omega), if_pos (by omega)]; done) | rw [if_neg (by omega), if_neg (by omega), show k = p 8 by omega])) rfl rfl
def comeD (p : Nat → Nat) : Nat → Nat := comesP (drawZ (drawZ (drawZ (drawZ (drawZ p))))) (drawV p % 6) (drawV (drawZ p) % 8) (drawV (drawZ (drawZ p)) % 60) (drawV (drawZ (drawZ (drawZ p))) % 60) (drawV (drawZ (drawZ (drawZ (drawZ p)))) % 60)
def dealP (p : Nat → Nat) : Nat → Nat → Nat
  | 0 => p
  | k + 1 => comeD (dealP p k)
theorem dealP_0 (p : Nat → Nat) : ∀ k, dealP p k 0 = p 0 + k
  | 0 => rfl
  | k + 1 => by
    have h : ∀ q : Nat → Nat, comeD q 0 = q 0 + 1 := fun q => by
      unfold comeD
      rw [comesP_0, drawZ_ne _ (by omega), drawZ_ne _ (by omega), drawZ_ne _ (by omega), drawZ_ne _ (by omega), drawZ_ne _ (by omega)]
    rw [dealP, h, dealP_0 p k]
    omega
def r_deal (p : Nat → Nat) (n : Int32) : Int32 := if ¬ (1 ≤ n.toInt ∧ n.toInt ≤ 8) then cBAD else nI (min (tN n) (8 - p 0))
def q_deal (p : Nat → Nat) (n : Int32) : Nat → Nat := if ¬ (1 ≤ n.toInt ∧ n.toInt ≤ 8) then p else dealP p (min (tN n) (8 - p 0))
theorem c_deal (d : Nat) (G : zG) (M : zMem) (X : zX) (hk : kM X) (p : Nat → Nat) (hn : p 0 ≤ 8) (n : Int32) : zCall G miX10_deal (d + 2) [.ref 160, .int n] (zI (r_deal p n) (mm M (q_deal p n)) X) (mm M p) X 0 0 := by
  refine zCall.of (lv := [some (.ref 160), some (.int n), none, none, none, none, none]) (by decide) (Nat.le_of_ble_eq_true rfl) rfl ?_
  refine j_iload_n (n := 1) dX10_deal_0 rfl rfl ?_
  refine j_i2l (n := 2) dX10_deal_1 rfl ?_
  refine j_lconst (n := 3) (v := lN 1) dX10_deal_2 rfl rfl ?_
  refine j_ldc2 (n := 6) (v := lN 8) dX10_deal_3 rfl kX10_123 ?_
  refine j_cS (n := 9) dX10_deal_6 rfl sX10_71 (c_isInI (x := n.toInt) (a := 1) (b := 8) (d + 1) G _ _ _ _ _ (l_toInt _) rfl rfl) (by omega) (by decide) rfl rfl (Nat.le_of_ble_eq_true rfl) (by decide) (by decide) ?_
  refine j_if_neB (n := 12) (tg := 15) dX10_deal_9 rfl rfl (fun h1 => ?_) (fun h1 => ?_)
  · obtain ⟨m, hm, rfl⟩ := i_of (x := n) (n := 9) (by omega) (by omega)
    have em : tN (nI m) = m := tN_nI (by omega)
    have im : (nI m).toInt = m := i_N (by omega)
    refine j_iconst (n := 16) (v := nI 0) dX10_deal_15 rfl rfl ?_
    refine j_istore_n (n := 17) (lv2 := [some (.ref 160), some (.int (nI m)), some (.int (nI 0)), none, none, none, none]) dX10_deal_16 rfl rfl (by decide) rfl ?_
    have loop : ∀ (j k : Nat), m - k = j → k ≤ m → k ≤ 8 - p 0 → zAt G miX10_deal (zRm (d + 2) 0 0) (zQ G (zI (r_deal p (nI m)) (mm M (q_deal p (nI m))) X) 0 0) 17 [some (.ref 160), some (.int (nI m)), some (.int (nI k)), none, none, none, none] [] (mm M (dealP p k)) X (0, 0) := by
      intro j
      induction j using Nat.strongRecOn with
      | ind j ih =>
        intro k hj hk0 hk8
        have hd0 := dealP_0 p k
        have hv0 := drawV_lt (dealP p k)
        have hv1 := drawV_lt (drawZ (dealP p k))
        have hv2 := drawV_lt (drawZ (drawZ (dealP p k)))
        have hv3 := drawV_lt (drawZ (drawZ (drawZ (dealP p k))))
        have hv4 := drawV_lt (drawZ (drawZ (drawZ (drawZ (dealP p k)))))
        refine j_iload_n (n := 18) dX10_deal_17 rfl rfl ?_
        refine j_iload_n (n := 19) dX10_deal_18 rfl rfl ?_
        refine j_icmp_geT (n := 22) (tg := 92) dX10_deal_19 rfl rfl (i_N (by omega)) (i_N (by omega)) (fun h2 => ?_) (fun h2 => ?_)
        · refine j_iload_n (n := 93) dX10_deal_92 rfl rfl ?_
          exact j_ri dX10_deal_93 rfl (Nat.le_refl _) (Nat.le_refl _) (by unfold r_deal; rw [if_neg (by omega), em, show min m (8 - p 0) = k by omega]) (by unfold q_deal; rw [if_neg (by omega), em, show min m (8 - p 0) = k by omega]) rfl
        · refine j_aload_n (n := 23) dX10_deal_22 rfl rfl ?_
          refine jm_get (n := 26) (k := 0) (b := 161) dX10_deal_23 rfl fX10_7 rfl (by decide) hk ?_
          refine j_iconst (n := 27) (v := nI 0) dX10_deal_26 rfl rfl ?_
          refine jm_ald (n := 28) (L := 3100) (a := 161) (i := 0) (v := nI (p 0 + k)) dX10_deal_27 rfl hk rfl (by omega) (congrArg nI (dealP_0 p k)) ?_
          refine j_bipush (n := 30) (v := nI 8) dX10_deal_28 rfl (by decide) ?_
          refine j_icmp_geT (n := 33) (tg := 92) dX10_deal_30 rfl rfl (i_N (by omega)) (i_N (by omega)) (fun h3 => ?_) (fun h3 => ?_)
          · refine j_iload_n (n := 93) dX10_deal_92 rfl rfl ?_
            exact j_ri dX10_deal_93 rfl (Nat.le_refl _) (Nat.le_refl _) (by unfold r_deal; rw [if_neg (by omega), em, show min m (8 - p 0) = k by omega]) (by unfold q_deal; rw [if_neg (by omega), em, show min m (8 - p 0) = k by omega]) rfl
          · refine j_aload_n (n := 34) dX10_deal_33 rfl rfl ?_
            refine j_cV (n := 37) dX10_deal_34 rfl sX10_161 (c_drawn (d + 1) G _ _ hk _) (by omega) (by decide) rfl rfl (Nat.le_of_ble_eq_true rfl) (hk).2.1 (by decide) (kM_lt hk) (by decide) (by decide) ?_
            refine j_bipush (n := 39) (v := nI 6) dX10_deal_37 rfl (by decide) ?_
            refine j_iremN (n := 40) (c := (drawV (dealP p k)) % 6) dX10_deal_39 rfl (by omega) (by omega) (by omega) rfl ?_
            refine j_istore_n (n := 41) (lv2 := [some (.ref 160), some (.int (nI m)), some (.int (nI k)), some (.int (nI ((drawV (dealP p k)) % 6))), none, none, none]) dX10_deal_40 rfl rfl (by decide) rfl ?_
            refine j_aload_n (n := 42) dX10_deal_41 rfl rfl ?_
            refine j_cV (n := 45) dX10_deal_42 rfl sX10_161 (c_drawn (d + 1) G _ _ hk _) (by omega) (by decide) rfl rfl (Nat.le_of_ble_eq_true rfl) (hk).2.1 (by decide) (kM_lt hk) (by decide) (by decide) ?_
            refine j_bipush (n := 47) (v := nI 8) dX10_deal_45 rfl (by decide) ?_
            refine j_iremN (n := 48) (c := (drawV (drawZ (dealP p k))) % 8) dX10_deal_47 rfl (by omega) (by omega) (by omega) rfl ?_
            refine j_istore (n := 50) (lv2 := [some (.ref 160), some (.int (nI m)), some (.int (nI k)), some (.int (nI ((drawV (dealP p k)) % 6))), some (.int (nI ((drawV (drawZ (dealP p k))) % 8))), none, none]) dX10_deal_48 rfl rfl (by decide) rfl ?_
            refine j_aload_n (n := 51) dX10_deal_50 rfl rfl ?_
            refine j_cV (n := 54) dX10_deal_51 rfl sX10_161 (c_drawn (d + 1) G _ _ hk _) (by omega) (by decide) rfl rfl (Nat.le_of_ble_eq_true rfl) (hk).2.1 (by decide) (kM_lt hk) (by decide) (by decide) ?_
            refine j_bipush (n := 56) (v := nI 60) dX10_deal_54 rfl (by decide) ?_
            refine j_iremN (n := 57) (c := (drawV (drawZ (drawZ (dealP p k)))) % 60) dX10_deal_56 rfl (by omega) (by omega) (by omega) rfl ?_
            refine j_istore (n := 59) (lv2 := [some (.ref 160), some (.int (nI m)), some (.int (nI k)), some (.int (nI ((drawV (dealP p k)) % 6))), some (.int (nI ((drawV (drawZ (dealP p k))) % 8))), some (.int (nI ((drawV (drawZ (drawZ (dealP p k)))) % 60))), none]) dX10_deal_57 rfl rfl (by decide) rfl ?_
            refine j_aload_n (n := 60) dX10_deal_59 rfl rfl ?_
            refine j_cV (n := 63) dX10_deal_60 rfl sX10_161 (c_drawn (d + 1) G _ _ hk _) (by omega) (by decide) rfl rfl (Nat.le_of_ble_eq_true rfl) (hk).2.1 (by decide) (kM_lt hk) (by decide) (by decide) ?_
            refine j_bipush (n := 65) (v := nI 60) dX10_deal_63 rfl (by decide) ?_
            refine j_iremN (n := 66) (c := (drawV (drawZ (drawZ (drawZ (dealP p k))))) % 60) dX10_deal_65 rfl (by omega) (by omega) (by omega) rfl ?_
            refine j_istore (n := 68) (lv2 := [some (.ref 160), some (.int (nI m)), some (.int (nI k)), some (.int (nI ((drawV (dealP p k)) % 6))), some (.int (nI ((drawV (drawZ (dealP p k))) % 8))), some (.int (nI ((drawV (drawZ (drawZ (dealP p k)))) % 60))), some (.int (nI ((drawV (drawZ (drawZ (drawZ (dealP p k))))) % 60)))]) dX10_deal_66 rfl rfl (by decide) rfl ?_
            refine j_aload_n (n := 69) dX10_deal_68 rfl rfl ?_
            refine j_iload_n (n := 70) dX10_deal_69 rfl rfl ?_
            refine j_iload (n := 72) dX10_deal_70 rfl rfl ?_
            refine j_iload (n := 74) dX10_deal_72 rfl rfl ?_
            refine j_iload (n := 76) dX10_deal_74 rfl rfl ?_
            refine j_aload_n (n := 77) dX10_deal_76 rfl rfl ?_
            refine j_cV (n := 80) dX10_deal_77 rfl sX10_161 (c_drawn (d + 1) G _ _ hk _) (by omega) (by decide) rfl rfl (Nat.le_of_ble_eq_true rfl) (hk).2.1 (by decide) (kM_lt hk) (by decide) (by decide) ?_
            refine j_bipush (n := 82) (v := nI 60) dX10_deal_80 rfl (by decide) ?_
            refine j_iremN (n := 83) (c := (drawV (drawZ (drawZ (drawZ (drawZ (dealP p k)))))) % 60) dX10_deal_82 rfl (by omega) (by omega) (by omega) rfl ?_
            refine j_cVv (n := 86) dX10_deal_83 rfl sX10_95 (c_comes d G _ _ hk _ (by (repeat rw [drawZ_ne _ (by omega)]); omega) ((drawV (dealP p k)) % 6) ((drawV (drawZ (dealP p k))) % 8) ((drawV (drawZ (drawZ (dealP p k)))) % 60) ((drawV (drawZ (drawZ (drawZ (dealP p k))))) % 60) ((drawV (drawZ (drawZ (drawZ (drawZ (dealP p k)))))) % 60)) (by omega) (by decide) rfl rfl (Nat.le_of_ble_eq_true rfl) (hk).2.1 (by decide) (kM_lt hk) (by decide) (by decide) ?_
            refine j_iinc (n := 89) (y := nI (k + 1)) (lv2 := [some (.ref 160), some (.int (nI m)), some (.int (nI (k + 1))), some (.int (nI ((drawV (dealP p k)) % 6))), some (.int (nI ((drawV (drawZ (dealP p k))) % 8))), some (.int (nI ((drawV (drawZ (drawZ (dealP p k)))) % 60))), some (.int (nI ((drawV (drawZ (drawZ (drawZ (dealP p k))))) % 60)))]) dX10_deal_86 rfl rfl (by decide) rfl (show nI k + nI 1 = nI (k + 1) by rw [nI_add]) rfl ?_
            refine j_goto (n := 17) dX10_deal_89 rfl ?_
            refine j_wk (lv2 := [some (.ref 160), some (.int (nI m)), some (.int (nI (k + 1))), none, none, none, none]) ⟨rfl, rfl, rfl, trivial⟩ ?_
            exact ih _ (by omega) (k + 1) rfl (by omega) (by omega)
    exact loop _ 0 rfl (Nat.zero_le _) (Nat.zero_le _)
  · refine j_ldc (n := 14) (v := -1000000001) dX10_deal_12 rfl kX10_93 ?_
    exact j_ri dX10_deal_14 rfl (Nat.le_refl _) (Nat.le_refl _) (by unfold r_deal; repeat (first | rw [if_pos (by omega)] | rw [if_neg (by omega)])) (by unfold q_deal; repeat (first | rw [if_pos (by omega)] | rw [if_neg (by omega)])) rfl
def r_fee (p : Nat → Nat) : Int32 := match cnt p 1 (p 1) with
  | none => nI (p 3)
  | some t => evT p t (nI (p 3)) (nI (p 4)) (nI 0)
def r_fine (p : Nat → Nat) (one : Int32) : Int32 := if ¬ (0 ≤ one.toInt ∧ one.toInt ≤ (p 0 : Int) - 1) then cBAD else match cnt p 2 (p 1) with
  | none => nI (regsP p (tN one))
  | some t => evT p t (nI (regsP p (tN one))) (nI (p (10 + 5 * tN one + 1))) (nI 0)
theorem c_fee (d : Nat) (G : zG) (M : zMem) (X : zX) (hk : kM X) (p : Nat → Nat) (hwt : wfT p) : zCall G miX10_fee (d + 2) [.ref 160] (zIr (fun r0 M1 X1 => r0 = r_fee p ∧ X1 = X ∧ ∃ M2, scr M M2 ∧ M1 = mm M2 p)) (mm M p) X 0 0 := by
  refine zCall.of (lv := [some (.ref 160), none]) (by decide) (Nat.le_of_ble_eq_true rfl) rfl ?_
  have hw1 := hwt.1
  refine j_aload_n (n := 1) dX10_fee_0 rfl rfl ?_
  refine j_iconst (n := 2) (v := nI 1) dX10_fee_1 rfl rfl ?_
  refine j_cV (n := 5) dX10_fee_2 rfl sX10_99 (c_counts d G _ _ hk _ hwt 1 (by omega)) (by omega) (by decide) rfl rfl (Nat.le_of_ble_eq_true rfl) (hk).2.1 (by decide) (kM_lt hk) (by decide) (by decide) ?_
  cases hc : cnt p 1 (p 1) with
  | none =>
    refine j_top (y := -1) rfl ?_
    refine j_istore_n (n := 6) (lv2 := [some (.ref 160), some (.int (-1))]) dX10_fee_5 rfl rfl (by decide) rfl ?_
    refine j_iload_n (n := 7) dX10_fee_6 rfl rfl ?_
    refine j_if_geT (n := 10) (tg := 17) dX10_fee_7 rfl rfl (fun h1 => ?_) (fun h1 => ?_)
    · exact absurd h1 (by decide)
    · refine j_aload_n (n := 11) dX10_fee_10 rfl rfl ?_
      refine jm_get (n := 14) (k := 0) (b := 161) dX10_fee_11 rfl fX10_7 rfl (by decide) hk ?_
      refine j_iconst (n := 15) (v := nI 3) dX10_fee_14 rfl rfl ?_
      refine jm_ald (n := 16) (L := 3100) (a := 161) (i := 3) (v := nI (p 3)) dX10_fee_15 rfl hk rfl (by omega) rfl ?_
      exact j_iret dX10_fee_16 rfl rfl (Nat.le_refl _) (Nat.le_refl _) ⟨_, rfl, (by unfold r_fee; rw [hc]), rfl, _, scr.rf M, rfl⟩
  | some t =>
    obtain ⟨ht, hkey⟩ := cnt_lt hc
    refine j_top (y := nI t) rfl ?_
    refine j_istore_n (n := 6) (lv2 := [some (.ref 160), some (.int (nI t))]) dX10_fee_5 rfl rfl (by decide) rfl ?_
    refine j_iload_n (n := 7) dX10_fee_6 rfl rfl ?_
    refine j_if_geM (n := 10) (tg := 17) dX10_fee_7 rfl rfl (by omega) (fun h2 => ?_) (fun h2 => ?_)
    · refine j_aload_n (n := 18) dX10_fee_17 rfl rfl ?_
      refine jm_get (n := 21) (k := 27) (b := 176) dX10_fee_18 rfl fX10_55 rfl (by decide) hk ?_
      refine j_bipush (n := 23) (v := nI 101) dX10_fee_21 rfl (by decide) ?_
      refine j_aload_n (n := 24) dX10_fee_23 rfl rfl ?_
      refine jm_get (n := 27) (k := 0) (b := 161) dX10_fee_24 rfl fX10_7 rfl (by decide) hk ?_
      refine j_iconst (n := 28) (v := nI 3) dX10_fee_27 rfl rfl ?_
      refine jm_ald (n := 29) (L := 3100) (a := 161) (i := 3) (v := nI (p 3)) dX10_fee_28 rfl hk rfl (by omega) rfl ?_
      refine jm_ast (n := 30) (L := 128) (a := 176) (i := 101) (x := nI (p 3)) (M2 := mm (zs M 176 (upd (M 176) 101 (nI (p 3)))) p) dX10_fee_29 rfl hk rfl (by omega) (mm_wo (by decide) rfl) ?_
      refine j_aload_n (n := 31) dX10_fee_30 rfl rfl ?_
      refine jm_get (n := 34) (k := 27) (b := 176) dX10_fee_31 rfl fX10_55 rfl (by decide) hk ?_
      refine j_bipush (n := 36) (v := nI 104) dX10_fee_34 rfl (by decide) ?_
      refine j_aload_n (n := 37) dX10_fee_36 rfl rfl ?_
      refine jm_get (n := 40) (k := 0) (b := 161) dX10_fee_37 rfl fX10_7 rfl (by decide) hk ?_
      refine j_iconst (n := 41) (v := nI 4) dX10_fee_40 rfl rfl ?_
      refine jm_ald (n := 42) (L := 3100) (a := 161) (i := 4) (v := nI (p 4)) dX10_fee_41 rfl hk rfl (by omega) rfl ?_
      refine jm_ast (n := 43) (L := 128) (a := 176) (i := 104) (x := nI (p 4)) (M2 := mm (zs M 176 (upd (upd (M 176) 101 (nI (p 3))) 104 (nI (p 4)))) p) dX10_fee_42 rfl hk rfl (by omega) (mm_wo (by decide) (by rw [zs_eq, zs_zs])) ?_
      refine j_aload_n (n := 44) dX10_fee_43 rfl rfl ?_
      refine j_iload_n (n := 45) dX10_fee_44 rfl rfl ?_
      refine j_cVr (n := 48) dX10_fee_45 rfl sX10_103 (c_worked d G _ _ hk _ hwt t ht (nI (p 3)) (nI (p 4)) (nI 0) (fun v hv => by rw [hkey] at hv ⊢; rw [zs_eq]; exact nm_fee _ _ _ _ hv)) (by omega) (by decide) rfl rfl (Nat.le_of_ble_eq_true rfl) (hk).2.1 (by decide) (kM_lt hk) (by decide) (by decide) (fun r3 N3 Y3 hh3 => ?_)
      obtain ⟨e13, e23, M_3, hs3, e33⟩ := hh3
      rw [e13, e23, e33]
      exact j_iret dX10_fee_48 rfl rfl (Nat.le_refl _) (Nat.le_refl _) ⟨_, rfl, (by unfold r_fee; rw [hc]), rfl, _, ((scr.rf M).tr (scr.n _ _)).tr hs3, rfl⟩
    · exact absurd (by omega) h2
theorem c_fine (d : Nat) (G : zG) (M : zMem) (X : zX) (hk : kM X) (p : Nat → Nat) (hw : wfO p) (hwt : wfT p) (one : Int32) : zCall G miX10_fine (d + 2) [.ref 160, .int one] (zIr (fun r0 M1 X1 => r0 = r_fine p one ∧ X1 = X ∧ ∃ M2, scr M M2 ∧ M1 = mm M2 p)) (mm M p) X 0 0 := by
  refine zCall.of (lv := [some (.ref 160), some (.int one), none]) (by decide) (Nat.le_of_ble_eq_true rfl) rfl ?_
  have hw0 := hw.1
  have hw1 := hwt.1
  refine j_aload_n (n := 1) dX10_fine_0 rfl rfl ?_
  refine j_iload_n (n := 2) dX10_fine_1 rfl rfl ?_
  refine j_cV (n := 5) dX10_fine_2 rfl sX10_120 (c_isOne d G _ _ hk _ (by omega) _) (by omega) (by decide) rfl rfl (Nat.le_of_ble_eq_true rfl) (hk).2.1 (by decide) (kM_lt hk) (by decide) (by decide) ?_
  refine j_if_neB (n := 8) (tg := 11) dX10_fine_5 rfl rfl (fun h1 => ?_) (fun h1 => ?_)
  · obtain ⟨k, hk1, rfl⟩ := i_of (x := one) (n := p 0) (by omega) (by omega)
    have ek : tN (nI k) = k := tN_nI (by omega)
    have ik : (nI k).toInt = k := i_N (by omega)
    refine j_aload_n (n := 12) dX10_fine_11 rfl rfl ?_
    refine j_iconst (n := 13) (v := nI 2) dX10_fine_12 rfl rfl ?_
    refine j_cV (n := 16) dX10_fine_13 rfl sX10_99 (c_counts d G _ _ hk _ hwt 2 (by omega)) (by omega) (by decide) rfl rfl (Nat.le_of_ble_eq_true rfl) (hk).2.1 (by decide) (kM_lt hk) (by decide) (by decide) ?_
    cases hc : cnt p 2 (p 1) with
    | none =>
      refine j_top (y := -1) rfl ?_
      refine j_istore_n (n := 17) (lv2 := [some (.ref 160), some (.int (nI k)), some (.int (-1))]) dX10_fine_16 rfl rfl (by decide) rfl ?_
      refine j_iload_n (n := 18) dX10_fine_17 rfl rfl ?_
      refine j_if_geT (n := 21) (tg := 27) dX10_fine_18 rfl rfl (fun h2 => ?_) (fun h2 => ?_)
      · exact absurd h2 (by decide)
      · refine j_aload_n (n := 22) dX10_fine_21 rfl rfl ?_
        refine j_iload_n (n := 23) dX10_fine_22 rfl rfl ?_
        refine j_cV (n := 26) dX10_fine_23 rfl sX10_117 (c_regrets d G _ _ hk _ k (by omega)) (by omega) (by decide) rfl rfl (Nat.le_of_ble_eq_true rfl) (hk).2.1 (by decide) (kM_lt hk) (by decide) (by decide) ?_
        exact j_iret dX10_fine_26 rfl rfl (Nat.le_refl _) (Nat.le_refl _) ⟨_, rfl, (by unfold r_fine; rw [if_neg (by omega), hc, ek]), rfl, _, scr.rf M, rfl⟩
    | some t =>
      obtain ⟨ht, hkey⟩ := cnt_lt hc
      refine j_top (y := nI t) rfl ?_
      refine j_istore_n (n := 17) (lv2 := [some (.ref 160), some (.int (nI k)), some (.int (nI t))]) dX10_fine_16 rfl rfl (by decide) rfl ?_
      refine j_iload_n (n := 18) dX10_fine_17 rfl rfl ?_
      refine j_if_geM (n := 21) (tg := 27) dX10_fine_18 rfl rfl (by omega) (fun h3 => ?_) (fun h3 => ?_)
      · refine j_aload_n (n := 28) dX10_fine_27 rfl rfl ?_
        refine jm_get (n := 31) (k := 27) (b := 176) dX10_fine_28 rfl fX10_55 rfl (by decide) hk ?_
        refine j_bipush (n := 33) (v := nI 114) dX10_fine_31 rfl (by decide) ?_
        refine j_aload_n (n := 34) dX10_fine_33 rfl rfl ?_
        refine j_iload_n (n := 35) dX10_fine_34 rfl rfl ?_
        refine j_cV (n := 38) dX10_fine_35 rfl sX10_117 (c_regrets d G _ _ hk _ k (by omega)) (by omega) (by decide) rfl rfl (Nat.le_of_ble_eq_true rfl) (hk).2.1 (by decide) (kM_lt hk) (by decide) (by decide) ?_
        refine jm_ast (n := 39) (L := 128) (a := 176) (i := 114) (x := nI (regsP p k)) (M2 := mm (zs M 176 (upd (M 176) 114 (nI (regsP p k)))) p) dX10_fine_38 rfl hk rfl (by omega) (mm_wo (by decide) rfl) ?_
        refine j_aload_n (n := 40) dX10_fine_39 rfl rfl ?_
        refine jm_get (n := 43) (k := 27) (b := 176) dX10_fine_40 rfl fX10_55 rfl (by decide) hk ?_
        refine j_bipush (n := 45) (v := nI 111) dX10_fine_43 rfl (by decide) ?_
        refine j_aload_n (n := 46) dX10_fine_45 rfl rfl ?_
        refine j_iload_n (n := 47) dX10_fine_46 rfl rfl ?_
        refine j_iconst (n := 48) (v := nI 1) dX10_fine_47 rfl rfl ?_
        refine j_cV (n := 51) dX10_fine_48 rfl sX10_114 (c_of (d + 1) G _ _ hk _ k 1 (by omega)) (by omega) (by decide) rfl rfl (Nat.le_of_ble_eq_true rfl) (hk).2.1 (by decide) (kM_lt hk) (by decide) (by decide) ?_
        refine jm_ast (n := 52) (L := 128) (a := 176) (i := 111) (x := nI (p (10 + 5 * k + 1))) (M2 := mm (zs M 176 (upd (upd (M 176) 114 (nI (regsP p k))) 111 (nI (p (10 + 5 * k + 1))))) p) dX10_fine_51 rfl hk rfl (by omega) (mm_wo (by decide) (by rw [zs_eq, zs_zs])) ?_
        refine j_aload_n (n := 53) dX10_fine_52 rfl rfl ?_
        refine j_iload_n (n := 54) dX10_fine_53 rfl rfl ?_
        refine j_cVr (n := 57) dX10_fine_54 rfl sX10_103 (c_worked d G _ _ hk _ hwt t ht (nI (regsP p k)) (nI (p (10 + 5 * k + 1))) (nI 0) (fun v hv => by rw [hkey] at hv ⊢; rw [zs_eq]; exact nm_fine _ _ _ _ hv)) (by omega) (by decide) rfl rfl (Nat.le_of_ble_eq_true rfl) (hk).2.1 (by decide) (kM_lt hk) (by decide) (by decide) (fun r4 N4 Y4 hh4 => ?_)
        obtain ⟨e14, e24, M_4, hs4, e34⟩ := hh4
        rw [e14, e24, e34]
        exact j_iret dX10_fine_57 rfl rfl (Nat.le_refl _) (Nat.le_refl _) ⟨_, rfl, (by unfold r_fine; rw [if_neg (by omega), hc, ek]), rfl, _, ((scr.rf M).tr (scr.n _ _)).tr hs4, rfl⟩
      · exact absurd (by omega) h3
  · refine j_ldc (n := 10) (v := -1000000001) dX10_fine_8 rfl kX10_93 ?_
    exact j_iret dX10_fine_10 rfl rfl (Nat.le_refl _) (Nat.le_refl _) ⟨_, rfl, (by unfold r_fine; rw [if_pos (by omega)]), rfl, _, scr.rf M, rfl⟩
