-- MODEL M: by program (wip/whole/gen/b13.py)
def sorF (p : Nat → Nat) (k l : Nat) : Nat := fi (fun v => p (50 + 5 * l + 3) ≤ feelsN (p (10 + 5 * k + 0)) v) (100 - p (10 + 5 * k + (2 + p (50 + 5 * l + 2)))) (p (10 + 5 * k + (2 + p (50 + 5 * l + 2))))
def r_sorry (p : Nat → Nat) (one lock : Int32) : Int32 := if ¬ ((0 ≤ one.toInt ∧ one.toInt ≤ (p 0 : Int) - 1) ∧ (0 ≤ lock.toInt ∧ lock.toInt ≤ (p 8 : Int) - 1)) then cBAD else if sorF p (tN one) (tN lock) ≤ 99 then nI (sorF p (tN one) (tN lock) - p (10 + 5 * tN one + (2 + p (50 + 5 * tN lock + 2)))) else cNONE
theorem c_sorry (d : Nat) (G : zG) (M : zMem) (X : zX) (hk : kM X) (p : Nat → Nat) (hw : wfO p) (hwl : wfL p) (one lock : Int32) : zCall G miX10_sorry (d + 2) [.ref 160, .int one, .int lock] (zI (r_sorry p one lock) (mm M p) X) (mm M p) X 0 0 := by
  refine zCall.of (lv := [some (.ref 160), some (.int one), some (.int lock), none, none]) (by decide) (Nat.le_of_ble_eq_true rfl) rfl ?_
  have hw0 := hw.1
  have hw1 := hwl.1
  refine j_aload_n (n := 1) dX10_sorry_0 rfl rfl ?_
  refine j_iload_n (n := 2) dX10_sorry_1 rfl rfl ?_
  refine j_cV (n := 5) dX10_sorry_2 rfl sX10_120 (c_isOne d G _ _ hk _ (by omega) _) (by omega) (by decide) rfl rfl (Nat.le_of_ble_eq_true rfl) (hk).2.1 (by decide) (kM_lt hk) (by decide) (by decide) ?_
  refine j_if_eqB (n := 8) (tg := 16) dX10_sorry_5 rfl rfl (fun h1 => ?_) (fun h1 => ?_)
  · refine j_ldc (n := 18) (v := -1000000001) dX10_sorry_16 rfl kX10_93 ?_
    exact j_ri dX10_sorry_18 rfl (Nat.le_refl _) (Nat.le_refl _) (by unfold r_sorry; repeat (first | rw [if_pos (by omega)] | rw [if_neg (by omega)])) rfl rfl
  · refine j_aload_n (n := 9) dX10_sorry_8 rfl rfl ?_
    refine j_iload_n (n := 10) dX10_sorry_9 rfl rfl ?_
    refine j_cV (n := 13) dX10_sorry_10 rfl sX10_150 (c_isLock d G _ _ hk _ (by omega) _) (by omega) (by decide) rfl rfl (Nat.le_of_ble_eq_true rfl) (hk).2.1 (by decide) (kM_lt hk) (by decide) (by decide) ?_
    refine j_if_neB (n := 16) (tg := 19) dX10_sorry_13 rfl rfl (fun h2 => ?_) (fun h2 => ?_)
    · obtain ⟨k, hk1, rfl⟩ := i_of (x := one) (n := p 0) (by omega) (by omega)
      have ek : tN (nI k) = k := tN_nI (by omega)
      have ik : (nI k).toInt = k := i_N (by omega)
      obtain ⟨l, hl1, rfl⟩ := i_of (x := lock) (n := p 8) (by omega) (by omega)
      have el : tN (nI l) = l := tN_nI (by omega)
      have il : (nI l).toInt = l := i_N (by omega)
      have ho := hw.2 k hk1
      have hl := hwl.2 l hl1
      have hr := hw.reg hk1 (j := p (50 + 5 * l + 2)) (by omega)
      refine j_aload_n (n := 20) dX10_sorry_19 rfl rfl ?_
      refine j_iload_n (n := 21) dX10_sorry_20 rfl rfl ?_
      refine j_iconst (n := 22) (v := nI 2) dX10_sorry_21 rfl rfl ?_
      refine j_aload_n (n := 23) dX10_sorry_22 rfl rfl ?_
      refine j_iload_n (n := 24) dX10_sorry_23 rfl rfl ?_
      refine j_iconst (n := 25) (v := nI 2) dX10_sorry_24 rfl rfl ?_
      refine j_cV (n := 28) dX10_sorry_25 rfl sX10_147 (c_lockOf (d + 1) G _ _ hk _ l 2 (by omega)) (by omega) (by decide) rfl rfl (Nat.le_of_ble_eq_true rfl) (hk).2.1 (by decide) (kM_lt hk) (by decide) (by decide) ?_
      refine j_iaddN (n := 29) (c := 2 + (p (50 + 5 * l + 2))) dX10_sorry_28 rfl (by omega) ?_
      refine j_cV (n := 32) dX10_sorry_29 rfl sX10_114 (c_of (d + 1) G _ _ hk _ k (2 + (p (50 + 5 * l + 2))) (by omega)) (by omega) (by decide) rfl rfl (Nat.le_of_ble_eq_true rfl) (hk).2.1 (by decide) (kM_lt hk) (by decide) (by decide) ?_
      refine j_istore_n (n := 33) (lv2 := [some (.ref 160), some (.int (nI k)), some (.int (nI l)), some (.int (nI (p (10 + 5 * k + (2 + (p (50 + 5 * l + 2))))))), none]) dX10_sorry_32 rfl rfl (by decide) rfl ?_
      refine j_iload_n (n := 34) dX10_sorry_33 rfl rfl ?_
      refine j_istore (n := 36) (lv2 := [some (.ref 160), some (.int (nI k)), some (.int (nI l)), some (.int (nI (p (10 + 5 * k + (2 + (p (50 + 5 * l + 2))))))), some (.int (nI (p (10 + 5 * k + (2 + (p (50 + 5 * l + 2)))))))]) dX10_sorry_34 rfl rfl (by decide) rfl ?_
      have fin : ∀ v : Nat, v = sorF p k l → p (10 + 5 * k + (2 + p (50 + 5 * l + 2))) ≤ v → v ≤ 100 → zAt G miX10_sorry (zRm (d + 2) 0 0) (zQ G (zI (r_sorry p (nI k) (nI l)) (mm M p) X) 0 0) 69 [some (.ref 160), some (.int (nI k)), some (.int (nI l)), some (.int (nI (p (10 + 5 * k + (2 + p (50 + 5 * l + 2)))))), some (.int (nI v))] [] (mm M p) X (0, 0) := by
        intro v ev hv1 hv2
        refine j_iload (n := 71) dX10_sorry_69 rfl rfl ?_
        refine j_bipush (n := 73) (v := nI 99) dX10_sorry_71 rfl (by decide) ?_
        refine j_icmp_gtT (n := 76) (tg := 83) dX10_sorry_73 rfl rfl (i_N (by omega)) (i_N (by omega)) (fun h3 => ?_) (fun h3 => ?_)
        · refine j_ldc (n := 85) (v := -1000000005) dX10_sorry_83 rfl kX10_70 ?_
          exact j_ri dX10_sorry_85 rfl (Nat.le_refl _) (Nat.le_refl _) (by unfold r_sorry; rw [ek, el, if_neg (by omega), ← ev]; first | rw [if_pos (by omega)] | rw [if_neg (by omega)]) rfl rfl
        · refine j_iload (n := 78) dX10_sorry_76 rfl rfl ?_
          refine j_iload_n (n := 79) dX10_sorry_78 rfl rfl ?_
          refine j_isubN (n := 80) (c := v - (p (10 + 5 * k + (2 + p (50 + 5 * l + 2))))) dX10_sorry_79 rfl (by omega) (by omega) ?_
          refine j_goto (n := 85) dX10_sorry_80 rfl ?_
          exact j_ri dX10_sorry_85 rfl (Nat.le_refl _) (Nat.le_refl _) (by unfold r_sorry; rw [ek, el, if_neg (by omega), ← ev]; first | rw [if_pos (by omega)] | rw [if_neg (by omega)]) rfl rfl
      have loop : ∀ (j v : Nat), 100 - v = j → p (10 + 5 * k + (2 + p (50 + 5 * l + 2))) ≤ v → v ≤ 100 → sorF p k l = fi (fun v => p (50 + 5 * l + 3) ≤ feelsN (p (10 + 5 * k + 0)) v) (100 - v) v → zAt G miX10_sorry (zRm (d + 2) 0 0) (zQ G (zI (r_sorry p (nI k) (nI l)) (mm M p) X) 0 0) 36 [some (.ref 160), some (.int (nI k)), some (.int (nI l)), some (.int (nI (p (10 + 5 * k + (2 + p (50 + 5 * l + 2)))))), some (.int (nI v))] [] (mm M p) X (0, 0) := by
        intro j
        induction j using Nat.strongRecOn with
        | ind j ih =>
          intro v hj hv1 hv2 hF
          have hfe := feelsN_le (k := p (10 + 5 * k + 0)) (r := min v 99) (by omega)
          refine j_iload (n := 38) dX10_sorry_36 rfl rfl ?_
          refine j_bipush (n := 40) (v := nI 99) dX10_sorry_38 rfl (by decide) ?_
          refine j_icmp_gtT (n := 43) (tg := 69) dX10_sorry_40 rfl rfl (i_N (by omega)) (i_N (by omega)) (fun h4 => ?_) (fun h4 => ?_)
          · exact fin v (hF.trans (by first | exact fi_n (by omega) | exact fi_t (by omega) (by omega))).symm hv1 hv2
          · refine j_aload_n (n := 44) dX10_sorry_43 rfl rfl ?_
            refine j_iload_n (n := 45) dX10_sorry_44 rfl rfl ?_
            refine j_iconst (n := 46) (v := nI 0) dX10_sorry_45 rfl rfl ?_
            refine j_cV (n := 49) dX10_sorry_46 rfl sX10_114 (c_of (d + 1) G _ _ hk _ k 0 (by omega)) (by omega) (by decide) rfl rfl (Nat.le_of_ble_eq_true rfl) (hk).2.1 (by decide) (kM_lt hk) (by decide) (by decide) ?_
            refine j_iload (n := 51) dX10_sorry_49 rfl rfl ?_
            refine j_cS (n := 54) dX10_sorry_51 rfl sX10_128 (c_feels (d + 1) G _ _ (p (10 + 5 * k + 0)) v (by omega) (by omega)) (by omega) (by decide) rfl rfl (Nat.le_of_ble_eq_true rfl) (by decide) (by decide) ?_
            have hfe2 := feelsN_le (k := p (10 + 5 * k + 0)) (r := v) (by omega)
            refine j_aload_n (n := 55) dX10_sorry_54 rfl rfl ?_
            refine j_iload_n (n := 56) dX10_sorry_55 rfl rfl ?_
            refine j_iconst (n := 57) (v := nI 3) dX10_sorry_56 rfl rfl ?_
            refine j_cV (n := 60) dX10_sorry_57 rfl sX10_147 (c_lockOf (d + 1) G _ _ hk _ l 3 (by omega)) (by omega) (by decide) rfl rfl (Nat.le_of_ble_eq_true rfl) (hk).2.1 (by decide) (kM_lt hk) (by decide) (by decide) ?_
            refine j_icmp_geT (n := 63) (tg := 69) dX10_sorry_60 rfl rfl (i_N (by omega)) (i_N (by omega)) (fun h5 => ?_) (fun h5 => ?_)
            · exact fin v (hF.trans (by first | exact fi_n (by omega) | exact fi_t (by omega) (by omega))).symm hv1 hv2
            · refine j_iinc (n := 66) (y := nI (v + 1)) (lv2 := [some (.ref 160), some (.int (nI k)), some (.int (nI l)), some (.int (nI (p (10 + 5 * k + (2 + p (50 + 5 * l + 2)))))), some (.int (nI (v + 1)))]) dX10_sorry_63 rfl rfl (by decide) rfl (show nI v + nI 1 = nI (v + 1) by rw [nI_add]) rfl ?_
              refine j_goto (n := 36) dX10_sorry_66 rfl ?_
              exact ih _ (by omega) (v + 1) rfl (by omega) (by omega) (hF.trans (fi_s (by omega) (by omega)))
      exact loop _ _ rfl (Nat.le_refl _) (by omega) rfl
    · refine j_ldc (n := 18) (v := -1000000001) dX10_sorry_16 rfl kX10_93 ?_
      exact j_ri dX10_sorry_18 rfl (Nat.le_refl _) (Nat.le_refl _) (by unfold r_sorry; repeat (first | rw [if_pos (by omega)] | rw [if_neg (by omega)])) rfl rfl
def feelS (p : Nat → Nat) (s v : Nat) : Int32 := setOf (fun k => v ≤ feelsN (p (10 + 5 * k + 0)) (p (10 + 5 * k + (2 + s)))) (p 0)
def r_just (p : Nat → Nat) (lock people : Int32) : Int32 := if ¬ ((0 ≤ lock.toInt ∧ lock.toInt ≤ (p 8 : Int) - 1) ∧ (0 ≤ people.toInt ∧ people.toInt ≤ ((2 ^ p 0 : Nat) : Int) - 1)) then cBAD else if fi (fun v => (feelS p (p (50 + 5 * tN lock + 2)) v).toInt = people.toInt) (100 - 0) 0 < 100 then nI (fi (fun v => (feelS p (p (50 + 5 * tN lock + 2)) v).toInt = people.toInt) (100 - 0) 0) else cNONE
theorem pow8 : ∀ n, n ≤ 8 → 2 ^ n ≤ 256 := by decide
theorem c_just (d : Nat) (G : zG) (M : zMem) (X : zX) (hk : kM X) (p : Nat → Nat) (hw : wfO p) (hwl : wfL p) (lock people : Int32) : zCall G miX10_just (d + 2) [.ref 160, .int lock, .int people] (zI (r_just p lock people) (mm M p) X) (mm M p) X 0 0 := by
  refine zCall.of (lv := [some (.ref 160), some (.int lock), some (.int people), none, none, none]) (by decide) (Nat.le_of_ble_eq_true rfl) rfl ?_
  have hw0 := hw.1
  have hw1 := hwl.1
  have h2p := pow8 (p 0) hw0
  have ebit : ((nI 1 <<< (nI (p 0) &&& 31)) - nI 1).toInt = ((2 ^ p 0 : Nat) : Int) - 1 := by rw [one_shl _ hw0]; exact pk_sub_toInt (b := 1) (by omega) (by decide)
  refine j_aload_n (n := 1) dX10_just_0 rfl rfl ?_
  refine j_iload_n (n := 2) dX10_just_1 rfl rfl ?_
  refine j_cV (n := 5) dX10_just_2 rfl sX10_150 (c_isLock d G _ _ hk _ (by omega) _) (by omega) (by decide) rfl rfl (Nat.le_of_ble_eq_true rfl) (hk).2.1 (by decide) (kM_lt hk) (by decide) (by decide) ?_
  refine j_if_eqB (n := 8) (tg := 28) dX10_just_5 rfl rfl (fun h1 => ?_) (fun h1 => ?_)
  · refine j_ldc (n := 30) (v := -1000000001) dX10_just_28 rfl kX10_93 ?_
    exact j_ri dX10_just_30 rfl (Nat.le_refl _) (Nat.le_refl _) (by unfold r_just; repeat (first | rw [if_pos (by omega)] | rw [if_neg (by omega)])) rfl rfl
  · refine j_iload_n (n := 9) dX10_just_8 rfl rfl ?_
    refine j_i2l (n := 10) dX10_just_9 rfl ?_
    refine j_lconst (n := 11) (v := lN 0) dX10_just_10 rfl rfl ?_
    refine j_iconst (n := 12) (v := nI 1) dX10_just_11 rfl rfl ?_
    refine j_aload_n (n := 13) dX10_just_12 rfl rfl ?_
    refine jm_get (n := 16) (k := 0) (b := 161) dX10_just_13 rfl fX10_7 rfl (by decide) hk ?_
    refine j_iconst (n := 17) (v := nI 0) dX10_just_16 rfl rfl ?_
    refine jm_ald (n := 18) (L := 3100) (a := 161) (i := 0) (v := nI (p 0)) dX10_just_17 rfl hk rfl (by omega) rfl ?_
    refine j_ishl (n := 19) dX10_just_18 rfl ?_
    refine j_iconst (n := 20) (v := nI 1) dX10_just_19 rfl rfl ?_
    refine j_isub (n := 21) dX10_just_20 rfl ?_
    refine j_i2l (n := 22) dX10_just_21 rfl ?_
    refine j_cS (n := 25) dX10_just_22 rfl sX10_71 (c_isInI (x := people.toInt) (a := 0) (b := (((nI 1) <<< ((nI (p 0)) &&& 31)) - (nI 1)).toInt) (d + 1) G _ _ _ _ _ (l_toInt _) rfl (l_toInt _)) (by omega) (by decide) rfl rfl (Nat.le_of_ble_eq_true rfl) (by decide) (by decide) ?_
    refine j_if_neB (n := 28) (tg := 31) dX10_just_25 rfl rfl (fun h2 => ?_) (fun h2 => ?_)
    · obtain ⟨l, hl1, rfl⟩ := i_of (x := lock) (n := p 8) (by omega) (by omega)
      have el : tN (nI l) = l := tN_nI (by omega)
      have il : (nI l).toInt = l := i_N (by omega)
      have hl := hwl.2 l hl1
      refine j_iconst (n := 32) (v := nI 0) dX10_just_31 rfl rfl ?_
      refine j_istore_n (n := 33) (lv2 := [some (.ref 160), some (.int (nI l)), some (.int people), some (.int (nI 0)), none, none]) dX10_just_32 rfl rfl (by decide) rfl ?_
      have loop : ∀ (j v : Nat), 100 - v = j → v ≤ 100 → fi (fun v => (feelS p (p (50 + 5 * l + 2)) v).toInt = people.toInt) (100 - 0) 0 = fi (fun v => (feelS p (p (50 + 5 * l + 2)) v).toInt = people.toInt) (100 - v) v → zAt G miX10_just (zRm (d + 2) 0 0) (zQ G (zI (r_just p (nI l) people) (mm M p) X) 0 0) 33 [some (.ref 160), some (.int (nI l)), some (.int people), some (.int (nI v)), none, none] [] (mm M p) X (0, 0) := by
        intro j
        induction j using Nat.strongRecOn with
        | ind j ih =>
          intro v hj hv hF
          refine j_iload_n (n := 34) dX10_just_33 rfl rfl ?_
          refine j_bipush (n := 36) (v := nI 99) dX10_just_34 rfl (by decide) ?_
          refine j_icmp_gtT (n := 39) (tg := 117) dX10_just_36 rfl rfl (i_N (by omega)) (i_N (by omega)) (fun h3 => ?_) (fun h3 => ?_)
          · refine j_ldc (n := 119) (v := -1000000005) dX10_just_117 rfl kX10_70 ?_
            exact j_ri dX10_just_119 rfl (Nat.le_refl _) (Nat.le_refl _) (by unfold r_just; rw [el, if_neg (by omega)]; have hF2 := hF.trans (fi_n (by omega)); rw [hF2, if_neg (by omega)]) rfl rfl
          · refine j_iconst (n := 40) (v := nI 0) dX10_just_39 rfl rfl ?_
            refine j_istore (n := 42) (lv2 := [some (.ref 160), some (.int (nI l)), some (.int people), some (.int (nI v)), some (.int (nI 0)), none]) dX10_just_40 rfl rfl (by decide) rfl ?_
            refine j_iconst (n := 43) (v := nI 0) dX10_just_42 rfl rfl ?_
            refine j_istore (n := 45) (lv2 := [some (.ref 160), some (.int (nI l)), some (.int people), some (.int (nI v)), some (.int (nI 0)), some (.int (nI 0))]) dX10_just_43 rfl rfl (by decide) rfl ?_
            have inner : ∀ (i k : Nat), p 0 - k = i → k ≤ p 0 → zAt G miX10_just (zRm (d + 2) 0 0) (zQ G (zI (r_just p (nI l) people) (mm M p) X) 0 0) 45 [some (.ref 160), some (.int (nI l)), some (.int people), some (.int (nI v)), some (.int (setOf (fun k => v ≤ feelsN (p (10 + 5 * k + 0)) (p (10 + 5 * k + (2 + p (50 + 5 * l + 2))))) k)), some (.int (nI k))] [] (mm M p) X (0, 0) := by
              intro i
              induction i using Nat.strongRecOn with
              | ind i ih2 =>
                intro k hi hk0
                refine j_iload (n := 47) dX10_just_45 rfl rfl ?_
                refine j_aload_n (n := 48) dX10_just_47 rfl rfl ?_
                refine jm_get (n := 51) (k := 0) (b := 161) dX10_just_48 rfl fX10_7 rfl (by decide) hk ?_
                refine j_iconst (n := 52) (v := nI 0) dX10_just_51 rfl rfl ?_
                refine jm_ald (n := 53) (L := 3100) (a := 161) (i := 0) (v := nI (p 0)) dX10_just_52 rfl hk rfl (by omega) rfl ?_
                refine j_icmp_geT (n := 56) (tg := 103) dX10_just_53 rfl rfl (i_N (by omega)) (i_N (by omega)) (fun h4 => ?_) (fun h4 => ?_)
                · refine j_lv (lv2 := [some (.ref 160), some (.int (nI l)), some (.int people), some (.int (nI v)), some (.int (feelS p (p (50 + 5 * l + 2)) v)), some (.int (nI (p 0)))]) (by rw [show k = p 0 by omega]; rfl) ?_
                  refine j_iload (n := 105) dX10_just_103 rfl rfl ?_
                  refine j_iload_n (n := 106) dX10_just_105 rfl rfl ?_
                  refine j_icmp_neT (n := 109) (tg := 111) dX10_just_106 rfl rfl rfl rfl (fun h5 => ?_) (fun h5 => ?_)
                  · refine j_iinc (n := 114) (y := nI (v + 1)) (lv2 := [some (.ref 160), some (.int (nI l)), some (.int people), some (.int (nI (v + 1))), some (.int (feelS p (p (50 + 5 * l + 2)) v)), some (.int (nI (p 0)))]) dX10_just_111 rfl rfl (by decide) rfl (show nI v + nI 1 = nI (v + 1) by rw [nI_add]) rfl ?_
                    refine j_goto (n := 33) dX10_just_114 rfl ?_
                    refine j_wk (lv2 := [some (.ref 160), some (.int (nI l)), some (.int people), some (.int (nI (v + 1))), none, none]) ⟨rfl, rfl, rfl, rfl, trivial⟩ ?_
                    exact ih _ (by omega) (v + 1) rfl (by omega) (hF.trans (fi_s (by omega) (by assumption)))
                  · refine j_iload_n (n := 110) dX10_just_109 rfl rfl ?_
                    exact j_ri dX10_just_110 rfl (Nat.le_refl _) (Nat.le_refl _) (by unfold r_just; rw [el, if_neg (by omega)]; have hF2 := hF.trans (fi_t (by omega) (by assumption)); rw [hF2, if_pos (by omega)]) rfl rfl
                · have ho := hw.2 k (by omega)
                  have hr := hw.reg (k := k) (j := p (50 + 5 * l + 2)) (by omega) (by omega)
                  have hfe := feelsN_le (k := p (10 + 5 * k + 0)) hr
                  refine j_iload (n := 58) dX10_just_56 rfl rfl ?_
                  refine j_aload_n (n := 59) dX10_just_58 rfl rfl ?_
                  refine j_iload (n := 61) dX10_just_59 rfl rfl ?_
                  refine j_iconst (n := 62) (v := nI 0) dX10_just_61 rfl rfl ?_
                  refine j_cV (n := 65) dX10_just_62 rfl sX10_114 (c_of (d + 1) G _ _ hk _ k 0 (by omega)) (by omega) (by decide) rfl rfl (Nat.le_of_ble_eq_true rfl) (hk).2.1 (by decide) (kM_lt hk) (by decide) (by decide) ?_
                  refine j_aload_n (n := 66) dX10_just_65 rfl rfl ?_
                  refine j_iload (n := 68) dX10_just_66 rfl rfl ?_
                  refine j_iconst (n := 69) (v := nI 2) dX10_just_68 rfl rfl ?_
                  refine j_aload_n (n := 70) dX10_just_69 rfl rfl ?_
                  refine j_iload_n (n := 71) dX10_just_70 rfl rfl ?_
                  refine j_iconst (n := 72) (v := nI 2) dX10_just_71 rfl rfl ?_
                  refine j_cV (n := 75) dX10_just_72 rfl sX10_147 (c_lockOf (d + 1) G _ _ hk _ l 2 (by omega)) (by omega) (by decide) rfl rfl (Nat.le_of_ble_eq_true rfl) (hk).2.1 (by decide) (kM_lt hk) (by decide) (by decide) ?_
                  refine j_iaddN (n := 76) (c := 2 + (p (50 + 5 * l + 2))) dX10_just_75 rfl (by omega) ?_
                  refine j_cV (n := 79) dX10_just_76 rfl sX10_114 (c_of (d + 1) G _ _ hk _ k (2 + (p (50 + 5 * l + 2))) (by omega)) (by omega) (by decide) rfl rfl (Nat.le_of_ble_eq_true rfl) (hk).2.1 (by decide) (kM_lt hk) (by decide) (by decide) ?_
                  refine j_cS (n := 82) dX10_just_79 rfl sX10_128 (c_feels (d + 1) G _ _ (p (10 + 5 * k + 0)) (p (10 + 5 * k + (2 + (p (50 + 5 * l + 2))))) (by omega) (by omega)) (by omega) (by decide) rfl rfl (Nat.le_of_ble_eq_true rfl) (by decide) (by decide) ?_
                  refine j_iload_n (n := 83) dX10_just_82 rfl rfl ?_
                  refine j_icmp_ltT (n := 86) (tg := 93) dX10_just_83 rfl rfl (i_N (by omega)) (i_N (by omega)) (fun h6 => ?_) (fun h6 => ?_)
                  · refine j_iconst (n := 94) (v := nI 0) dX10_just_93 rfl rfl ?_
                    refine j_ior (n := 95) dX10_just_94 rfl ?_
                    refine j_istore (n := 97) (lv2 := [some (.ref 160), some (.int (nI l)), some (.int people), some (.int (nI v)), some (.int ((setOf (fun k => v ≤ feelsN (p (10 + 5 * k + 0)) (p (10 + 5 * k + (2 + p (50 + 5 * l + 2))))) k) ||| (nI 0))), some (.int (nI k))]) dX10_just_95 rfl rfl (by decide) rfl ?_
                    refine j_iinc (n := 100) (y := nI (k + 1)) (lv2 := [some (.ref 160), some (.int (nI l)), some (.int people), some (.int (nI v)), some (.int ((setOf (fun k => v ≤ feelsN (p (10 + 5 * k + 0)) (p (10 + 5 * k + (2 + p (50 + 5 * l + 2))))) k) ||| (nI 0))), some (.int (nI (k + 1)))]) dX10_just_97 rfl rfl (by decide) rfl (show nI k + nI 1 = nI (k + 1) by rw [nI_add]) rfl ?_
                    refine j_goto (n := 45) dX10_just_100 rfl ?_
                    have e1 : (setOf (fun k => v ≤ feelsN (p (10 + 5 * k + 0)) (p (10 + 5 * k + (2 + p (50 + 5 * l + 2))))) k) ||| (nI 0) = setOf (fun k => v ≤ feelsN (p (10 + 5 * k + 0)) (p (10 + 5 * k + (2 + p (50 + 5 * l + 2))))) (k + 1) := by first | (rw [setOf, if_pos (by omega)]; done) | (rw [setOf, if_neg (by omega)])
                    rw [e1]
                    exact ih2 _ (by omega) (k + 1) rfl (by omega)
                  · refine j_iconst (n := 87) (v := nI 1) dX10_just_86 rfl rfl ?_
                    refine j_iload (n := 89) dX10_just_87 rfl rfl ?_
                    refine j_ishl (n := 90) dX10_just_89 rfl ?_
                    refine j_goto (n := 94) dX10_just_90 rfl ?_
                    refine j_ior (n := 95) dX10_just_94 rfl ?_
                    refine j_istore (n := 97) (lv2 := [some (.ref 160), some (.int (nI l)), some (.int people), some (.int (nI v)), some (.int ((setOf (fun k => v ≤ feelsN (p (10 + 5 * k + 0)) (p (10 + 5 * k + (2 + p (50 + 5 * l + 2))))) k) ||| ((nI 1) <<< ((nI k) &&& 31)))), some (.int (nI k))]) dX10_just_95 rfl rfl (by decide) rfl ?_
                    refine j_iinc (n := 100) (y := nI (k + 1)) (lv2 := [some (.ref 160), some (.int (nI l)), some (.int people), some (.int (nI v)), some (.int ((setOf (fun k => v ≤ feelsN (p (10 + 5 * k + 0)) (p (10 + 5 * k + (2 + p (50 + 5 * l + 2))))) k) ||| ((nI 1) <<< ((nI k) &&& 31)))), some (.int (nI (k + 1)))]) dX10_just_97 rfl rfl (by decide) rfl (show nI k + nI 1 = nI (k + 1) by rw [nI_add]) rfl ?_
                    refine j_goto (n := 45) dX10_just_100 rfl ?_
                    have e1 : (setOf (fun k => v ≤ feelsN (p (10 + 5 * k + 0)) (p (10 + 5 * k + (2 + p (50 + 5 * l + 2))))) k) ||| ((nI 1) <<< ((nI k) &&& 31)) = setOf (fun k => v ≤ feelsN (p (10 + 5 * k + 0)) (p (10 + 5 * k + (2 + p (50 + 5 * l + 2))))) (k + 1) := by first | (rw [setOf, if_pos (by omega)]; done) | (rw [setOf, if_neg (by omega)])
                    rw [e1]
                    exact ih2 _ (by omega) (k + 1) rfl (by omega)
            exact inner _ 0 rfl (Nat.zero_le _)
      exact loop _ 0 rfl (Nat.zero_le _) rfl
    · refine j_ldc (n := 30) (v := -1000000001) dX10_just_28 rfl kX10_93 ?_
      exact j_ri dX10_just_30 rfl (Nat.le_refl _) (Nat.le_refl _) (by unfold r_just; repeat (first | rw [if_pos (by omega)] | rw [if_neg (by omega)])) rfl rfl
def pvP (p : Nat → Nat) (row : Nat → Int32) (k : Nat) : Nat := if (row k).toInt = -1000000005 then p (10 + 5 * k + 2) else min 99 (row k).toInt.toNat
def pourP (p : Nat → Nat) (row : Nat → Int32) : Nat → Nat → Nat
  | 0 => p
  | k + 1 => pu (pourP p row k) (10 + 5 * k + 2) (pvP p row k)
def pourC (p : Nat → Nat) (row : Nat → Int32) : Nat → Nat
  | 0 => 0
  | k + 1 => pourC p row k + (if pvP p row k = p (10 + 5 * k + 2) then 0 else 1)
theorem pourP_ne (p : Nat → Nat) (row : Nat → Int32) {i : Nat} : ∀ k, (∀ j, j < k → i ≠ 10 + 5 * j + 2) → pourP p row k i = p i
  | 0, _ => rfl
  | k + 1, h => by rw [pourP, pu_ne _ _ (h k (by omega)), pourP_ne p row k (fun j hj => h j (by omega))]
theorem pourC_le (p : Nat → Nat) (row : Nat → Int32) : ∀ k, pourC p row k ≤ k
  | 0 => Nat.le_refl _
  | k + 1 => by
    have := pourC_le p row k
    unfold pourC
    split <;> omega
def r_pour (p : Nat → Nat) (sheet srt : Int32) (len : Nat) (row : Nat → Int32) : Int32 := if ¬ (0 ≤ sheet.toInt ∧ sheet.toInt ≤ 3) then cBAD else if srt.toInt < 0 then cNOTHING else nI (pourC p row (min len (p 0)))
def q_pour (p : Nat → Nat) (sheet srt : Int32) (len : Nat) (row : Nat → Int32) : Nat → Nat := if ¬ (0 ≤ sheet.toInt ∧ sheet.toInt ≤ 3) then p else if srt.toInt < 0 then p else pourP p row (min len (p 0))
theorem c_pour (d : Nat) (G : zG) (M : zMem) (X : zX) (hk : kM X) (p : Nat → Nat) (hs : wfS M) (hw : wfO p) (sheet : Int32) : zCall G miX10_pour (d + 2) [.ref 160, .int sheet] (zI (r_pour p sheet (M 164 (tN sheet)) (tN (M 165 (tN sheet))) (fun i => M 166 (24 * tN sheet + i))) (mm M (q_pour p sheet (M 164 (tN sheet)) (tN (M 165 (tN sheet))) (fun i => M 166 (24 * tN sheet + i)))) X) (mm M p) X 0 0 := by
  refine zCall.of (lv := [some (.ref 160), some (.int sheet), none, none, none, none]) (by decide) (Nat.le_of_ble_eq_true rfl) rfl ?_
  have hw0 := hw.1
  refine j_iload_n (n := 1) dX10_pour_0 rfl rfl ?_
  refine j_cS (n := 4) dX10_pour_1 rfl sX10_310 (c_isSheet d G _ _ _) (by omega) (by decide) rfl rfl (Nat.le_of_ble_eq_true rfl) (by decide) (by decide) ?_
  refine j_if_neB (n := 7) (tg := 10) dX10_pour_4 rfl rfl (fun h1 => ?_) (fun h1 => ?_)
  · obtain ⟨q, hq, rfl⟩ := i_of (x := sheet) (n := 4) (by omega) (by omega)
    have eq : tN (nI q) = q := tN_nI (by omega)
    have iq : (nI q).toInt = q := i_N (by omega)
    have hq1 := hs q hq
    refine j_aload_n (n := 11) dX10_pour_10 rfl rfl ?_
    refine jm_get (n := 14) (k := 4) (b := 164) dX10_pour_11 rfl fX10_19 rfl (by decide) hk ?_
    refine j_iload_n (n := 15) dX10_pour_14 rfl rfl ?_
    refine jm_ald (n := 16) (L := 4) (a := 164) (i := q) (v := M 164 q) dX10_pour_15 rfl hk rfl (by omega) rfl ?_
    refine j_if_geT (n := 19) (tg := 23) dX10_pour_16 rfl rfl (fun h2 => ?_) (fun h2 => ?_)
    · refine j_iconst (n := 24) (v := nI 0) dX10_pour_23 rfl rfl ?_
      refine j_istore_n (n := 25) (lv2 := [some (.ref 160), some (.int (nI q)), some (.int (nI 0)), none, none, none]) dX10_pour_24 rfl rfl (by decide) rfl ?_
      refine j_iconst (n := 26) (v := nI 0) dX10_pour_25 rfl rfl ?_
      refine j_istore_n (n := 27) (lv2 := [some (.ref 160), some (.int (nI q)), some (.int (nI 0)), some (.int (nI 0)), none, none]) dX10_pour_26 rfl rfl (by decide) rfl ?_
      have loop : ∀ (j k : Nat), tN (M 165 q) - k = j → k ≤ tN (M 165 q) → k ≤ p 0 → zAt G miX10_pour (zRm (d + 2) 0 0) (zQ G (zI (r_pour p (nI q) (M 164 (tN (nI q))) (tN (M 165 (tN (nI q)))) (fun i => M 166 (24 * tN (nI q) + i))) (mm M (q_pour p (nI q) (M 164 (tN (nI q))) (tN (M 165 (tN (nI q)))) (fun i => M 166 (24 * tN (nI q) + i)))) X) 0 0) 27 [some (.ref 160), some (.int (nI q)), some (.int (nI (pourC p (fun i => M 166 (24 * q + i)) k))), some (.int (nI k)), none, none] [] (mm M (pourP p (fun i => M 166 (24 * q + i)) k)) X (0, 0) := by
        intro j
        induction j using Nat.strongRecOn with
        | ind j ih =>
          intro k hj hk0 hk1
          have hcl := pourC_le p (fun i => M 166 (24 * q + i)) k
          refine j_iload_n (n := 28) dX10_pour_27 rfl rfl ?_
          refine j_aload_n (n := 29) dX10_pour_28 rfl rfl ?_
          refine jm_get (n := 32) (k := 5) (b := 165) dX10_pour_29 rfl fX10_22 rfl (by decide) hk ?_
          refine j_iload_n (n := 33) dX10_pour_32 rfl rfl ?_
          refine jm_ald (n := 34) (L := 4) (a := 165) (i := q) (v := nI (tN (M 165 q))) dX10_pour_33 rfl hk rfl (by omega) (nI_tN (M 165 q)).symm ?_
          refine j_icmp_geT (n := 37) (tg := 125) dX10_pour_34 rfl rfl (i_N (by omega)) (i_N (by omega)) (fun h3 => ?_) (fun h3 => ?_)
          · refine j_iload_n (n := 126) dX10_pour_125 rfl rfl ?_
            exact j_ri dX10_pour_126 rfl (Nat.le_refl _) (Nat.le_refl _) (by unfold r_pour; rw [eq, if_neg (by omega), if_neg (by omega), show min (tN (M 165 q)) (p 0) = k by omega]) (by unfold q_pour; rw [eq, if_neg (by omega), if_neg (by omega), show min (tN (M 165 q)) (p 0) = k by omega]) rfl
          · refine j_iload_n (n := 38) dX10_pour_37 rfl rfl ?_
            refine j_aload_n (n := 39) dX10_pour_38 rfl rfl ?_
            refine jm_get (n := 42) (k := 0) (b := 161) dX10_pour_39 rfl fX10_7 rfl (by decide) hk ?_
            refine j_iconst (n := 43) (v := nI 0) dX10_pour_42 rfl rfl ?_
            refine jm_ald (n := 44) (L := 3100) (a := 161) (i := 0) (v := nI (p 0)) dX10_pour_43 rfl hk rfl (by omega) (congrArg nI (pourP_ne p (fun i => M 166 (24 * q + i)) k (fun j hj => by omega))) ?_
            refine j_icmp_geT (n := 47) (tg := 125) dX10_pour_44 rfl rfl (i_N (by omega)) (i_N (by omega)) (fun h4 => ?_) (fun h4 => ?_)
            · refine j_iload_n (n := 126) dX10_pour_125 rfl rfl ?_
              exact j_ri dX10_pour_126 rfl (Nat.le_refl _) (Nat.le_refl _) (by unfold r_pour; rw [eq, if_neg (by omega), if_neg (by omega), show min (tN (M 165 q)) (p 0) = k by omega]) (by unfold q_pour; rw [eq, if_neg (by omega), if_neg (by omega), show min (tN (M 165 q)) (p 0) = k by omega]) rfl
            · have ho := hw.2 k (by omega)
              refine j_aload_n (n := 48) dX10_pour_47 rfl rfl ?_
              refine jm_get (n := 51) (k := 6) (b := 166) dX10_pour_48 rfl fX10_25 rfl (by decide) hk ?_
              refine j_bipush (n := 53) (v := nI 24) dX10_pour_51 rfl (by decide) ?_
              refine j_iload_n (n := 54) dX10_pour_53 rfl rfl ?_
              refine j_imulN (n := 55) (c := 24 * q) dX10_pour_54 rfl rfl ?_
              refine j_iload_n (n := 56) dX10_pour_55 rfl rfl ?_
              refine j_iaddN (n := 57) (c := 24 * q + k) dX10_pour_56 rfl rfl ?_
              refine jm_ald (n := 58) (L := 96) (a := 166) (i := 24 * q + k) (v := M 166 (24 * q + k)) dX10_pour_57 rfl hk rfl (by omega) rfl ?_
              refine j_istore (n := 60) (lv2 := [some (.ref 160), some (.int (nI q)), some (.int (nI (pourC p (fun i => M 166 (24 * q + i)) k))), some (.int (nI k)), some (.int (M 166 (24 * q + k))), none]) dX10_pour_58 rfl rfl (by decide) rfl ?_
              refine j_iload (n := 62) dX10_pour_60 rfl rfl ?_
              refine j_ldc (n := 64) (v := -1000000005) dX10_pour_62 rfl kX10_70 ?_
              refine j_icmp_neT (n := 67) (tg := 83) dX10_pour_64 rfl rfl rfl (show Int32.toInt (-1000000005) = (-1000000005 : Int) from by decide) (fun h5 => ?_) (fun h5 => ?_)
              · refine j_iload (n := 85) dX10_pour_83 rfl rfl ?_
                refine j_bipush (n := 87) (v := nI 99) dX10_pour_85 rfl (by decide) ?_
                refine j_cS (n := 90) dX10_pour_87 rfl sX10_106 (c_within (d + 1) G _ _ _ 99 (by omega)) (by omega) (by decide) rfl rfl (Nat.le_of_ble_eq_true rfl) (by decide) (by decide) ?_
                refine j_istore (n := 92) (lv2 := [some (.ref 160), some (.int (nI q)), some (.int (nI (pourC p (fun i => M 166 (24 * q + i)) k))), some (.int (nI k)), some (.int (M 166 (24 * q + k))), some (.int (nI (min 99 (M 166 (24 * q + k)).toInt.toNat)))]) dX10_pour_90 rfl rfl (by decide) rfl ?_
                refine j_iload_n (n := 93) dX10_pour_92 rfl rfl ?_
                refine j_iload (n := 95) dX10_pour_93 rfl rfl ?_
                refine j_aload_n (n := 96) dX10_pour_95 rfl rfl ?_
                refine j_bipush (n := 98) (v := nI 10) dX10_pour_96 rfl (by decide) ?_
                refine j_iconst (n := 99) (v := nI 5) dX10_pour_98 rfl rfl ?_
                refine j_iload_n (n := 100) dX10_pour_99 rfl rfl ?_
                refine j_imulN (n := 101) (c := 5 * k) dX10_pour_100 rfl rfl ?_
                refine j_iaddN (n := 102) (c := 10 + 5 * k) dX10_pour_101 rfl rfl ?_
                refine j_iconst (n := 103) (v := nI 2) dX10_pour_102 rfl rfl ?_
                refine j_iaddN (n := 104) (c := 10 + 5 * k + 2) dX10_pour_103 rfl rfl ?_
                refine j_iload (n := 106) dX10_pour_104 rfl rfl ?_
                refine j_cV (n := 109) dX10_pour_106 rfl sX10_136 (c_changes (d + 1) G _ _ hk _ (10 + 5 * k + 2) (min 99 (M 166 (24 * q + k)).toInt.toNat) (by omega)) (by omega) (by decide) rfl rfl (Nat.le_of_ble_eq_true rfl) (hk).2.1 (by decide) (kM_lt hk) (by decide) (by decide) ?_
                refine j_top (y := nI (p (10 + 5 * k + 2))) (congrArg nI (pourP_ne p (fun i => M 166 (24 * q + i)) k (fun j hj => by omega))) ?_
                refine j_icmp_neT (n := 112) (tg := 116) dX10_pour_109 rfl rfl (i_N (by omega)) (i_N (by omega)) (fun h6 => ?_) (fun h6 => ?_)
                · refine j_iconst (n := 117) (v := nI 1) dX10_pour_116 rfl rfl ?_
                  refine j_iaddN (n := 118) (c := pourC p (fun i => M 166 (24 * q + i)) k + 1) dX10_pour_117 rfl rfl ?_
                  refine j_istore_n (n := 119) (lv2 := [some (.ref 160), some (.int (nI q)), some (.int (nI (pourC p (fun i => M 166 (24 * q + i)) k + 1))), some (.int (nI k)), some (.int (M 166 (24 * q + k))), some (.int (nI (min 99 (M 166 (24 * q + k)).toInt.toNat)))]) dX10_pour_118 rfl rfl (by decide) rfl ?_
                  refine j_iinc (n := 122) (y := nI (k + 1)) (lv2 := [some (.ref 160), some (.int (nI q)), some (.int (nI (pourC p (fun i => M 166 (24 * q + i)) k + 1))), some (.int (nI (k + 1))), some (.int (M 166 (24 * q + k))), some (.int (nI (min 99 (M 166 (24 * q + k)).toInt.toNat)))]) dX10_pour_119 rfl rfl (by decide) rfl (show nI k + nI 1 = nI (k + 1) by rw [nI_add]) rfl ?_
                  refine j_goto (n := 27) dX10_pour_122 rfl ?_
                  have ev : pvP p (fun i => M 166 (24 * q + i)) k = min 99 (M 166 (24 * q + k)).toInt.toNat := by unfold pvP; first | rw [if_pos (by omega)] | rw [if_neg (by omega)]
                  have ec : pourC p (fun i => M 166 (24 * q + i)) (k + 1) = pourC p (fun i => M 166 (24 * q + i)) k + 1 := by first | (exfalso; omega) | (rw [pourC, ev, if_pos (by omega), Nat.add_zero]; done) | (rw [pourC, ev, if_neg (by omega)])
                  refine j_mem (M2 := mm M (pourP p (fun i => M 166 (24 * q + i)) (k + 1))) (by rw [pourP, ev]) ?_
                  refine j_lv (lv2 := [some (.ref 160), some (.int (nI q)), some (.int (nI (pourC p (fun i => M 166 (24 * q + i)) (k + 1)))), some (.int (nI (k + 1))), some (.int (M 166 (24 * q + k))), some (.int (nI (min 99 (M 166 (24 * q + k)).toInt.toNat)))]) (by rw [ec]) ?_
                  refine j_wk (lv2 := [some (.ref 160), some (.int (nI q)), some (.int (nI (pourC p (fun i => M 166 (24 * q + i)) (k + 1)))), some (.int (nI (k + 1))), none, none]) ⟨rfl, rfl, rfl, rfl, trivial⟩ ?_
                  exact ih _ (by omega) (k + 1) rfl (by omega) (by omega)
                · refine j_iconst (n := 113) (v := nI 0) dX10_pour_112 rfl rfl ?_
                  refine j_goto (n := 117) dX10_pour_113 rfl ?_
                  refine j_iaddN (n := 118) (c := pourC p (fun i => M 166 (24 * q + i)) k) dX10_pour_117 rfl (by omega) ?_
                  refine j_istore_n (n := 119) (lv2 := [some (.ref 160), some (.int (nI q)), some (.int (nI (pourC p (fun i => M 166 (24 * q + i)) k))), some (.int (nI k)), some (.int (M 166 (24 * q + k))), some (.int (nI (min 99 (M 166 (24 * q + k)).toInt.toNat)))]) dX10_pour_118 rfl rfl (by decide) rfl ?_
                  refine j_iinc (n := 122) (y := nI (k + 1)) (lv2 := [some (.ref 160), some (.int (nI q)), some (.int (nI (pourC p (fun i => M 166 (24 * q + i)) k))), some (.int (nI (k + 1))), some (.int (M 166 (24 * q + k))), some (.int (nI (min 99 (M 166 (24 * q + k)).toInt.toNat)))]) dX10_pour_119 rfl rfl (by decide) rfl (show nI k + nI 1 = nI (k + 1) by rw [nI_add]) rfl ?_
                  refine j_goto (n := 27) dX10_pour_122 rfl ?_
                  have ev : pvP p (fun i => M 166 (24 * q + i)) k = min 99 (M 166 (24 * q + k)).toInt.toNat := by unfold pvP; first | rw [if_pos (by omega)] | rw [if_neg (by omega)]
                  have ec : pourC p (fun i => M 166 (24 * q + i)) (k + 1) = pourC p (fun i => M 166 (24 * q + i)) k := by first | (exfalso; omega) | (rw [pourC, ev, if_pos (by omega), Nat.add_zero]; done) | (rw [pourC, ev, if_neg (by omega)])
                  refine j_mem (M2 := mm M (pourP p (fun i => M 166 (24 * q + i)) (k + 1))) (by rw [pourP, ev]) ?_
                  refine j_lv (lv2 := [some (.ref 160), some (.int (nI q)), some (.int (nI (pourC p (fun i => M 166 (24 * q + i)) (k + 1)))), some (.int (nI (k + 1))), some (.int (M 166 (24 * q + k))), some (.int (nI (min 99 (M 166 (24 * q + k)).toInt.toNat)))]) (by rw [ec]) ?_
                  refine j_wk (lv2 := [some (.ref 160), some (.int (nI q)), some (.int (nI (pourC p (fun i => M 166 (24 * q + i)) (k + 1)))), some (.int (nI (k + 1))), none, none]) ⟨rfl, rfl, rfl, rfl, trivial⟩ ?_
                  exact ih _ (by omega) (k + 1) rfl (by omega) (by omega)
              · refine j_aload_n (n := 68) dX10_pour_67 rfl rfl ?_
                refine jm_get (n := 71) (k := 0) (b := 161) dX10_pour_68 rfl fX10_7 rfl (by decide) hk ?_
                refine j_bipush (n := 73) (v := nI 10) dX10_pour_71 rfl (by decide) ?_
                refine j_iconst (n := 74) (v := nI 5) dX10_pour_73 rfl rfl ?_
                refine j_iload_n (n := 75) dX10_pour_74 rfl rfl ?_
                refine j_imulN (n := 76) (c := 5 * k) dX10_pour_75 rfl rfl ?_
                refine j_iaddN (n := 77) (c := 10 + 5 * k) dX10_pour_76 rfl rfl ?_
                refine j_iconst (n := 78) (v := nI 2) dX10_pour_77 rfl rfl ?_
                refine j_iaddN (n := 79) (c := 10 + 5 * k + 2) dX10_pour_78 rfl rfl ?_
                refine jm_ald (n := 80) (L := 3100) (a := 161) (i := 10 + 5 * k + 2) (v := nI (p (10 + 5 * k + 2))) dX10_pour_79 rfl hk rfl (by omega) (congrArg nI (pourP_ne p (fun i => M 166 (24 * q + i)) k (fun j hj => by omega))) ?_
                refine j_goto (n := 90) dX10_pour_80 rfl ?_
                refine j_istore (n := 92) (lv2 := [some (.ref 160), some (.int (nI q)), some (.int (nI (pourC p (fun i => M 166 (24 * q + i)) k))), some (.int (nI k)), some (.int (M 166 (24 * q + k))), some (.int (nI (p (10 + 5 * k + 2))))]) dX10_pour_90 rfl rfl (by decide) rfl ?_
                refine j_iload_n (n := 93) dX10_pour_92 rfl rfl ?_
                refine j_iload (n := 95) dX10_pour_93 rfl rfl ?_
                refine j_aload_n (n := 96) dX10_pour_95 rfl rfl ?_
                refine j_bipush (n := 98) (v := nI 10) dX10_pour_96 rfl (by decide) ?_
                refine j_iconst (n := 99) (v := nI 5) dX10_pour_98 rfl rfl ?_
                refine j_iload_n (n := 100) dX10_pour_99 rfl rfl ?_
                refine j_imulN (n := 101) (c := 5 * k) dX10_pour_100 rfl rfl ?_
                refine j_iaddN (n := 102) (c := 10 + 5 * k) dX10_pour_101 rfl rfl ?_
                refine j_iconst (n := 103) (v := nI 2) dX10_pour_102 rfl rfl ?_
                refine j_iaddN (n := 104) (c := 10 + 5 * k + 2) dX10_pour_103 rfl rfl ?_
                refine j_iload (n := 106) dX10_pour_104 rfl rfl ?_
                refine j_cV (n := 109) dX10_pour_106 rfl sX10_136 (c_changes (d + 1) G _ _ hk _ (10 + 5 * k + 2) (p (10 + 5 * k + 2)) (by omega)) (by omega) (by decide) rfl rfl (Nat.le_of_ble_eq_true rfl) (hk).2.1 (by decide) (kM_lt hk) (by decide) (by decide) ?_
                refine j_top (y := nI (p (10 + 5 * k + 2))) (congrArg nI (pourP_ne p (fun i => M 166 (24 * q + i)) k (fun j hj => by omega))) ?_
                refine j_icmp_neT (n := 112) (tg := 116) dX10_pour_109 rfl rfl (i_N (by omega)) (i_N (by omega)) (fun h7 => ?_) (fun h7 => ?_)
                · refine j_iconst (n := 117) (v := nI 1) dX10_pour_116 rfl rfl ?_
                  refine j_iaddN (n := 118) (c := pourC p (fun i => M 166 (24 * q + i)) k + 1) dX10_pour_117 rfl rfl ?_
                  refine j_istore_n (n := 119) (lv2 := [some (.ref 160), some (.int (nI q)), some (.int (nI (pourC p (fun i => M 166 (24 * q + i)) k + 1))), some (.int (nI k)), some (.int (M 166 (24 * q + k))), some (.int (nI (p (10 + 5 * k + 2))))]) dX10_pour_118 rfl rfl (by decide) rfl ?_
                  refine j_iinc (n := 122) (y := nI (k + 1)) (lv2 := [some (.ref 160), some (.int (nI q)), some (.int (nI (pourC p (fun i => M 166 (24 * q + i)) k + 1))), some (.int (nI (k + 1))), some (.int (M 166 (24 * q + k))), some (.int (nI (p (10 + 5 * k + 2))))]) dX10_pour_119 rfl rfl (by decide) rfl (show nI k + nI 1 = nI (k + 1) by rw [nI_add]) rfl ?_
                  refine j_goto (n := 27) dX10_pour_122 rfl ?_
                  have ev : pvP p (fun i => M 166 (24 * q + i)) k = p (10 + 5 * k + 2) := by unfold pvP; first | rw [if_pos (by omega)] | rw [if_neg (by omega)]
                  have ec : pourC p (fun i => M 166 (24 * q + i)) (k + 1) = pourC p (fun i => M 166 (24 * q + i)) k + 1 := by first | (exfalso; omega) | (rw [pourC, ev, if_pos (by omega), Nat.add_zero]; done) | (rw [pourC, ev, if_neg (by omega)])
                  refine j_mem (M2 := mm M (pourP p (fun i => M 166 (24 * q + i)) (k + 1))) (by rw [pourP, ev]) ?_
                  refine j_lv (lv2 := [some (.ref 160), some (.int (nI q)), some (.int (nI (pourC p (fun i => M 166 (24 * q + i)) (k + 1)))), some (.int (nI (k + 1))), some (.int (M 166 (24 * q + k))), some (.int (nI (p (10 + 5 * k + 2))))]) (by rw [ec]) ?_
                  refine j_wk (lv2 := [some (.ref 160), some (.int (nI q)), some (.int (nI (pourC p (fun i => M 166 (24 * q + i)) (k + 1)))), some (.int (nI (k + 1))), none, none]) ⟨rfl, rfl, rfl, rfl, trivial⟩ ?_
                  exact ih _ (by omega) (k + 1) rfl (by omega) (by omega)
                · refine j_iconst (n := 113) (v := nI 0) dX10_pour_112 rfl rfl ?_
                  refine j_goto (n := 117) dX10_pour_113 rfl ?_
                  refine j_iaddN (n := 118) (c := pourC p (fun i => M 166 (24 * q + i)) k) dX10_pour_117 rfl (by omega) ?_
                  refine j_istore_n (n := 119) (lv2 := [some (.ref 160), some (.int (nI q)), some (.int (nI (pourC p (fun i => M 166 (24 * q + i)) k))), some (.int (nI k)), some (.int (M 166 (24 * q + k))), some (.int (nI (p (10 + 5 * k + 2))))]) dX10_pour_118 rfl rfl (by decide) rfl ?_
                  refine j_iinc (n := 122) (y := nI (k + 1)) (lv2 := [some (.ref 160), some (.int (nI q)), some (.int (nI (pourC p (fun i => M 166 (24 * q + i)) k))), some (.int (nI (k + 1))), some (.int (M 166 (24 * q + k))), some (.int (nI (p (10 + 5 * k + 2))))]) dX10_pour_119 rfl rfl (by decide) rfl (show nI k + nI 1 = nI (k + 1) by rw [nI_add]) rfl ?_
                  refine j_goto (n := 27) dX10_pour_122 rfl ?_
                  have ev : pvP p (fun i => M 166 (24 * q + i)) k = p (10 + 5 * k + 2) := by unfold pvP; first | rw [if_pos (by omega)] | rw [if_neg (by omega)]
                  have ec : pourC p (fun i => M 166 (24 * q + i)) (k + 1) = pourC p (fun i => M 166 (24 * q + i)) k := by first | (exfalso; omega) | (rw [pourC, ev, if_pos (by omega), Nat.add_zero]; done) | (rw [pourC, ev, if_neg (by omega)])
                  refine j_mem (M2 := mm M (pourP p (fun i => M 166 (24 * q + i)) (k + 1))) (by rw [pourP, ev]) ?_
                  refine j_lv (lv2 := [some (.ref 160), some (.int (nI q)), some (.int (nI (pourC p (fun i => M 166 (24 * q + i)) (k + 1)))), some (.int (nI (k + 1))), some (.int (M 166 (24 * q + k))), some (.int (nI (p (10 + 5 * k + 2))))]) (by rw [ec]) ?_
                  refine j_wk (lv2 := [some (.ref 160), some (.int (nI q)), some (.int (nI (pourC p (fun i => M 166 (24 * q + i)) (k + 1)))), some (.int (nI (k + 1))), none, none]) ⟨rfl, rfl, rfl, rfl, trivial⟩ ?_
                  exact ih _ (by omega) (k + 1) rfl (by omega) (by omega)
      refine j_wk (lv2 := [some (.ref 160), some (.int (nI q)), some (.int (nI 0)), some (.int (nI 0)), none, none]) ⟨rfl, rfl, rfl, rfl, trivial⟩ ?_
      exact loop _ 0 rfl (Nat.zero_le _) (Nat.zero_le _)
    · refine j_ldcw (n := 22) (v := -1000000011) dX10_pour_19 rfl kX10_316 ?_
      exact j_ri dX10_pour_22 rfl (Nat.le_refl _) (Nat.le_refl _) (by unfold r_pour; first | (rw [if_pos (by omega)]; done) | (rw [eq, if_neg (by omega), if_pos (by omega)])) (by unfold q_pour; first | (rw [if_pos (by omega)]; done) | (rw [eq, if_neg (by omega), if_pos (by omega)])) rfl
  · refine j_ldc (n := 9) (v := -1000000001) dX10_pour_7 rfl kX10_93 ?_
    exact j_ri dX10_pour_9 rfl (Nat.le_refl _) (Nat.le_refl _) (by unfold r_pour; first | (rw [if_pos (by omega)]; done) | (rw [eq, if_neg (by omega), if_pos (by omega)])) (by unfold q_pour; first | (rw [if_pos (by omega)]; done) | (rw [eq, if_neg (by omega), if_pos (by omega)])) rfl
