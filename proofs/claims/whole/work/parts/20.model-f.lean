-- MODEL F: by program (wip/whole/gen/b6.py)
theorem c_tries (d : Nat) (G : zG) (M : zMem) (X : zX) (hk : kM X) (p : Nat → Nat) (hw : wfO p) (hwl : wfL p) (k : Nat) (hk1 : k < p 0) (hj5 : p 5 < 2147483647) : zCall G miX10_tries (d + 1) [.ref 160, .int (nI k)] (zV (mm M (triesP p k)) X) (mm M p) X 0 0 := by
  refine zCall.of (lv := [some (.ref 160), some (.int (nI k)), none]) (by decide) (Nat.le_of_ble_eq_true rfl) rfl ?_
  have hw0 := hw.1
  have hw1 := hwl.1
  have ho := hw.2 k hk1
  have hdv := drawV_lt p
  refine j_iconst (n := 1) (v := nI 0) dX10_tries_0 rfl rfl ?_
  refine j_istore_n (n := 2) (lv2 := [some (.ref 160), some (.int (nI k)), some (.int (nI 0))]) dX10_tries_1 rfl rfl (by decide) rfl ?_
  have fin : ∀ l : Nat, l = fi (fun l => p (50 + 5 * l + 0) = p (10 + 5 * k + 1) ∧ ¬ p (50 + 5 * l + 4) = 1) (p 8 - 0) 0 → zAt G miX10_tries (zRm (d + 1) 0 0) (zQ G (zV (mm M (triesP p k)) X) 0 0) 44 [some (.ref 160), some (.int (nI k)), some (.int (nI l))] [] (mm M p) X (0, 0) := by
    intro l el
    have hfl : fi (fun l => p (50 + 5 * l + 0) = p (10 + 5 * k + 1) ∧ ¬ p (50 + 5 * l + 4) = 1) (p 8 - 0) 0 ≤ p 8 := by have := fi_le (fun l => p (50 + 5 * l + 0) = p (10 + 5 * k + 1) ∧ ¬ p (50 + 5 * l + 4) = 1) (p 8 - 0) 0; omega
    refine j_iload_n (n := 45) dX10_tries_44 rfl rfl ?_
    refine j_aload_n (n := 46) dX10_tries_45 rfl rfl ?_
    refine jm_get (n := 49) (k := 0) (b := 161) dX10_tries_46 rfl fX10_7 rfl (by decide) hk ?_
    refine j_bipush (n := 51) (v := nI 8) dX10_tries_49 rfl (by decide) ?_
    refine jm_ald (n := 52) (L := 3100) (a := 161) (i := 8) (v := nI (p 8)) dX10_tries_51 rfl hk rfl (by omega) rfl ?_
    refine j_icmp_geT (n := 55) (tg := 91) dX10_tries_52 rfl rfl (i_N (by omega)) (i_N (by omega)) (fun h1 => ?_) (fun h1 => ?_)
    · exact j_rv dX10_tries_91 rfl (Nat.le_refl _) (Nat.le_refl _) (by unfold triesP; rw [← el]; repeat (first | rw [if_pos (by omega)] | rw [if_neg (by omega)])) rfl
    · refine j_aload_n (n := 56) dX10_tries_55 rfl rfl ?_
      refine j_cV (n := 59) dX10_tries_56 rfl sX10_161 (c_drawn d G _ _ hk _) (by omega) (by decide) rfl rfl (Nat.le_of_ble_eq_true rfl) (hk).2.1 (by decide) (kM_lt hk) (by decide) (by decide) ?_
      refine j_bipush (n := 61) (v := nI 100) dX10_tries_59 rfl (by decide) ?_
      refine j_iremN (n := 62) (c := (drawV p) % 100) dX10_tries_61 rfl (by omega) (by omega) (by omega) rfl ?_
      refine j_bipush (n := 64) (v := nI 30) dX10_tries_62 rfl (by decide) ?_
      refine j_icmp_geT (n := 67) (tg := 91) dX10_tries_64 rfl rfl (i_N (by omega)) (i_N (by omega)) (fun h2 => ?_) (fun h2 => ?_)
      · exact j_rv dX10_tries_91 rfl (Nat.le_refl _) (Nat.le_refl _) (by unfold triesP; rw [← el]; repeat (first | rw [if_pos (by omega)] | rw [if_neg (by omega)])) rfl
      · refine j_aload_n (n := 68) dX10_tries_67 rfl rfl ?_
        refine jm_get (n := 71) (k := 0) (b := 161) dX10_tries_68 rfl fX10_7 rfl (by decide) hk ?_
        refine j_bipush (n := 73) (v := nI 50) dX10_tries_71 rfl (by decide) ?_
        refine j_iconst (n := 74) (v := nI 5) dX10_tries_73 rfl rfl ?_
        refine j_iload_n (n := 75) dX10_tries_74 rfl rfl ?_
        refine j_imulN (n := 76) (c := 5 * l) dX10_tries_75 rfl rfl ?_
        refine j_iaddN (n := 77) (c := 50 + 5 * l) dX10_tries_76 rfl rfl ?_
        refine j_iconst (n := 78) (v := nI 4) dX10_tries_77 rfl rfl ?_
        refine j_iaddN (n := 79) (c := 50 + 5 * l + 4) dX10_tries_78 rfl rfl ?_
        refine j_iconst (n := 80) (v := nI 1) dX10_tries_79 rfl rfl ?_
        refine jm_ast (n := 81) (L := 3100) (a := 161) (i := 50 + 5 * l + 4) (x := nI 1) (M2 := mm M (pu (drawZ p) (50 + 5 * l + 4) 1)) dX10_tries_80 rfl hk rfl (by omega) (mm_w _ _ _ _) ?_
        refine j_aload_n (n := 82) dX10_tries_81 rfl rfl ?_
        refine jm_get (n := 85) (k := 0) (b := 161) dX10_tries_82 rfl fX10_7 rfl (by decide) hk ?_
        refine j_iconst (n := 86) (v := nI 5) dX10_tries_85 rfl rfl ?_
        refine j_dup2 (n := 87) dX10_tries_86 rfl rfl rfl ?_
        refine jm_ald (n := 88) (L := 3100) (a := 161) (i := 5) (v := nI (p 5)) dX10_tries_87 rfl hk rfl (by omega) (congrArg nI (by repeat (first | rw [pu_eq] | rw [pu_ne _ _ (by omega)] | rw [drawZ_ne _ (by omega)]))) ?_
        refine j_iconst (n := 89) (v := nI 1) dX10_tries_88 rfl rfl ?_
        refine j_iaddN (n := 90) (c := p 5 + 1) dX10_tries_89 rfl rfl ?_
        refine jm_ast (n := 91) (L := 3100) (a := 161) (i := 5) (x := nI (p 5 + 1)) (M2 := mm M (pu (pu (drawZ p) (50 + 5 * l + 4) 1) 5 (p 5 + 1))) dX10_tries_90 rfl hk rfl (by omega) (mm_w _ _ _ _) ?_
        exact j_rv dX10_tries_91 rfl (Nat.le_refl _) (Nat.le_refl _) (by unfold triesP; rw [← el]; repeat (first | rw [if_pos (by omega)] | rw [if_neg (by omega)])) rfl
  have loop : ∀ (j l : Nat), p 8 - l = j → l ≤ p 8 → fi (fun l => p (50 + 5 * l + 0) = p (10 + 5 * k + 1) ∧ ¬ p (50 + 5 * l + 4) = 1) (p 8 - 0) 0 = fi (fun l => p (50 + 5 * l + 0) = p (10 + 5 * k + 1) ∧ ¬ p (50 + 5 * l + 4) = 1) (p 8 - l) l → zAt G miX10_tries (zRm (d + 1) 0 0) (zQ G (zV (mm M (triesP p k)) X) 0 0) 2 [some (.ref 160), some (.int (nI k)), some (.int (nI l))] [] (mm M p) X (0, 0) := by
    intro j
    induction j using Nat.strongRecOn with
    | ind j ih =>
      intro l hj hl0 hF
      refine j_iload_n (n := 3) dX10_tries_2 rfl rfl ?_
      refine j_aload_n (n := 4) dX10_tries_3 rfl rfl ?_
      refine jm_get (n := 7) (k := 0) (b := 161) dX10_tries_4 rfl fX10_7 rfl (by decide) hk ?_
      refine j_bipush (n := 9) (v := nI 8) dX10_tries_7 rfl (by decide) ?_
      refine jm_ald (n := 10) (L := 3100) (a := 161) (i := 8) (v := nI (p 8)) dX10_tries_9 rfl hk rfl (by omega) rfl ?_
      refine j_icmp_geT (n := 13) (tg := 44) dX10_tries_10 rfl rfl (i_N (by omega)) (i_N (by omega)) (fun h3 => ?_) (fun h3 => ?_)
      · exact fin l (hF.trans (by first | exact fi_n (by omega) | exact fi_t (by omega) (by omega))).symm
      · have hl := hwl.2 l (by omega)
        refine j_aload_n (n := 14) dX10_tries_13 rfl rfl ?_
        refine j_iload_n (n := 15) dX10_tries_14 rfl rfl ?_
        refine j_iconst (n := 16) (v := nI 0) dX10_tries_15 rfl rfl ?_
        refine j_cV (n := 19) dX10_tries_16 rfl sX10_147 (c_lockOf d G _ _ hk _ l 0 (by omega)) (by omega) (by decide) rfl rfl (Nat.le_of_ble_eq_true rfl) (hk).2.1 (by decide) (kM_lt hk) (by decide) (by decide) ?_
        refine j_aload_n (n := 20) dX10_tries_19 rfl rfl ?_
        refine j_iload_n (n := 21) dX10_tries_20 rfl rfl ?_
        refine j_iconst (n := 22) (v := nI 1) dX10_tries_21 rfl rfl ?_
        refine j_cV (n := 25) dX10_tries_22 rfl sX10_114 (c_of d G _ _ hk _ k 1 (by omega)) (by omega) (by decide) rfl rfl (Nat.le_of_ble_eq_true rfl) (hk).2.1 (by decide) (kM_lt hk) (by decide) (by decide) ?_
        refine j_icmp_neT (n := 28) (tg := 38) dX10_tries_25 rfl rfl (i_N (by omega)) (i_N (by omega)) (fun h4 => ?_) (fun h4 => ?_)
        · refine j_iinc (n := 41) (y := nI (l + 1)) (lv2 := [some (.ref 160), some (.int (nI k)), some (.int (nI (l + 1)))]) dX10_tries_38 rfl rfl (by decide) rfl (show nI l + nI 1 = nI (l + 1) by rw [nI_add]) rfl ?_
          refine j_goto (n := 2) dX10_tries_41 rfl ?_
          exact ih _ (by omega) (l + 1) rfl (by omega) (hF.trans (fi_s (by omega) (by omega)))
        · refine j_aload_n (n := 29) dX10_tries_28 rfl rfl ?_
          refine j_iload_n (n := 30) dX10_tries_29 rfl rfl ?_
          refine j_iconst (n := 31) (v := nI 4) dX10_tries_30 rfl rfl ?_
          refine j_cV (n := 34) dX10_tries_31 rfl sX10_147 (c_lockOf d G _ _ hk _ l 4 (by omega)) (by omega) (by decide) rfl rfl (Nat.le_of_ble_eq_true rfl) (hk).2.1 (by decide) (kM_lt hk) (by decide) (by decide) ?_
          refine j_iconst (n := 35) (v := nI 1) dX10_tries_34 rfl rfl ?_
          refine j_icmp_neT (n := 38) (tg := 44) dX10_tries_35 rfl rfl (i_N (by omega)) (i_N (by omega)) (fun h5 => ?_) (fun h5 => ?_)
          · exact fin l (hF.trans (by first | exact fi_n (by omega) | exact fi_t (by omega) (by omega))).symm
          · refine j_iinc (n := 41) (y := nI (l + 1)) (lv2 := [some (.ref 160), some (.int (nI k)), some (.int (nI (l + 1)))]) dX10_tries_38 rfl rfl (by decide) rfl (show nI l + nI 1 = nI (l + 1) by rw [nI_add]) rfl ?_
            refine j_goto (n := 2) dX10_tries_41 rfl ?_
            exact ih _ (by omega) (l + 1) rfl (by omega) (hF.trans (fi_s (by omega) (by omega)))
  exact loop _ 0 rfl (Nat.zero_le _) rfl
theorem c_more (d : Nat) (G : zG) (M : zMem) (X : zX) (hk : kM X) (p : Nat → Nat) (k j b : Nat) (hk1 : k ≤ 8) (hj : j ≤ 2) (hb : b ≤ 10) (hr : p (10 + 5 * k + (2 + j)) ≤ 99) : zCall G miX10_more (d + 1) [.ref 160, .int (nI k), .int (nI j), .int (nI b)] (zV (mm M (moreP p k j b)) X) (mm M p) X 0 0 := by
  refine zCall.of (lv := [some (.ref 160), some (.int (nI k)), some (.int (nI j)), some (.int (nI b))]) (by decide) (Nat.le_of_ble_eq_true rfl) rfl ?_
  refine j_aload_n (n := 1) dX10_more_0 rfl rfl ?_
  refine j_iload_n (n := 2) dX10_more_1 rfl rfl ?_
  refine j_iconst (n := 3) (v := nI 2) dX10_more_2 rfl rfl ?_
  refine j_iload_n (n := 4) dX10_more_3 rfl rfl ?_
  refine j_iaddN (n := 5) (c := 2 + j) dX10_more_4 rfl rfl ?_
  refine j_aload_n (n := 6) dX10_more_5 rfl rfl ?_
  refine j_iload_n (n := 7) dX10_more_6 rfl rfl ?_
  refine j_iconst (n := 8) (v := nI 2) dX10_more_7 rfl rfl ?_
  refine j_iload_n (n := 9) dX10_more_8 rfl rfl ?_
  refine j_iaddN (n := 10) (c := 2 + j) dX10_more_9 rfl rfl ?_
  refine j_cV (n := 13) dX10_more_10 rfl sX10_114 (c_of d G _ _ hk _ k (2 + j) (by omega)) (by omega) (by decide) rfl rfl (Nat.le_of_ble_eq_true rfl) (hk).2.1 (by decide) (kM_lt hk) (by decide) (by decide) ?_
  refine j_iload_n (n := 14) dX10_more_13 rfl rfl ?_
  refine j_iaddN (n := 15) (c := p (10 + 5 * k + (2 + j)) + b) dX10_more_14 rfl rfl ?_
  refine j_bipush (n := 17) (v := nI 99) dX10_more_15 rfl (by decide) ?_
  refine j_cS (n := 20) dX10_more_17 rfl sX10_106 (c_withinN d G _ _ (p (10 + 5 * k + (2 + j)) + b) 99 (by omega) (by omega)) (by omega) (by decide) rfl rfl (Nat.le_of_ble_eq_true rfl) (by decide) (by decide) ?_
  refine j_cVv (n := 23) dX10_more_20 rfl sX10_80 (c_gives d G _ _ hk _ k (2 + j) (min 99 (p (10 + 5 * k + (2 + j)) + b)) (by omega)) (by omega) (by decide) rfl rfl (Nat.le_of_ble_eq_true rfl) (hk).2.1 (by decide) (kM_lt hk) (by decide) (by decide) ?_
  exact j_rv dX10_more_23 rfl (Nat.le_refl _) (Nat.le_refl _) rfl rfl
theorem c_halves (d : Nat) (G : zG) (M : zMem) (X : zX) (hk : kM X) (p : Nat → Nat) (k : Nat) (hk1 : k ≤ 8) (h2 : p (10 + 5 * k + 2) ≤ 99) (h3 : p (10 + 5 * k + 3) ≤ 99) (h4 : p (10 + 5 * k + 4) ≤ 99) : zCall G miX10_halves (d + 1) [.ref 160, .int (nI k)] (zV (mm M (halvesP p k)) X) (mm M p) X 0 0 := by
  refine zCall.of (lv := [some (.ref 160), some (.int (nI k)), none]) (by decide) (Nat.le_of_ble_eq_true rfl) rfl ?_
  refine j_iconst (n := 1) (v := nI 0) dX10_halves_0 rfl rfl ?_
  refine j_istore_n (n := 2) (lv2 := [some (.ref 160), some (.int (nI k)), some (.int (nI 0))]) dX10_halves_1 rfl rfl (by decide) rfl ?_
  refine j_iload_n (n := 3) dX10_halves_2 rfl rfl ?_
  refine j_iconst (n := 4) (v := nI 3) dX10_halves_3 rfl rfl ?_
  refine j_icmp_geT (n := 7) (tg := 31) dX10_halves_4 rfl rfl (i_N (by omega)) (i_N (by omega)) (fun h1 => ?_) (fun h1 => ?_)
  · exact absurd h1 (by decide)
  · refine j_aload_n (n := 8) dX10_halves_7 rfl rfl ?_
    refine j_iload_n (n := 9) dX10_halves_8 rfl rfl ?_
    refine j_iconst (n := 10) (v := nI 2) dX10_halves_9 rfl rfl ?_
    refine j_iload_n (n := 11) dX10_halves_10 rfl rfl ?_
    refine j_iaddN (n := 12) (c := 2) dX10_halves_11 rfl rfl ?_
    refine j_aload_n (n := 13) dX10_halves_12 rfl rfl ?_
    refine j_iload_n (n := 14) dX10_halves_13 rfl rfl ?_
    refine j_iconst (n := 15) (v := nI 2) dX10_halves_14 rfl rfl ?_
    refine j_iload_n (n := 16) dX10_halves_15 rfl rfl ?_
    refine j_iaddN (n := 17) (c := 2) dX10_halves_16 rfl rfl ?_
    refine j_cV (n := 20) dX10_halves_17 rfl sX10_114 (c_of d G _ _ hk _ k 2 (by omega)) (by omega) (by decide) rfl rfl (Nat.le_of_ble_eq_true rfl) (hk).2.1 (by decide) (kM_lt hk) (by decide) (by decide) ?_
    refine j_iconst (n := 21) (v := nI 2) dX10_halves_20 rfl rfl ?_
    refine j_idivN (n := 22) (c := (p (10 + 5 * k + 2)) / 2) dX10_halves_21 rfl (by omega) (by omega) (by omega) rfl ?_
    refine j_cVv (n := 25) dX10_halves_22 rfl sX10_80 (c_gives d G _ _ hk _ k 2 ((p (10 + 5 * k + 2)) / 2) (by omega)) (by omega) (by decide) rfl rfl (Nat.le_of_ble_eq_true rfl) (hk).2.1 (by decide) (kM_lt hk) (by decide) (by decide) ?_
    refine j_iinc (n := 28) (y := nI 1) (lv2 := [some (.ref 160), some (.int (nI k)), some (.int (nI 1))]) dX10_halves_25 rfl rfl (by decide) rfl (show nI 0 + nI 1 = nI 1 by rw [nI_add]; try (congr 1)) rfl ?_
    refine j_goto (n := 2) dX10_halves_28 rfl ?_
    refine j_iload_n (n := 3) dX10_halves_2 rfl rfl ?_
    refine j_iconst (n := 4) (v := nI 3) dX10_halves_3 rfl rfl ?_
    refine j_icmp_geT (n := 7) (tg := 31) dX10_halves_4 rfl rfl (i_N (by omega)) (i_N (by omega)) (fun h2 => ?_) (fun h2 => ?_)
    · exact absurd h2 (by decide)
    · refine j_aload_n (n := 8) dX10_halves_7 rfl rfl ?_
      refine j_iload_n (n := 9) dX10_halves_8 rfl rfl ?_
      refine j_iconst (n := 10) (v := nI 2) dX10_halves_9 rfl rfl ?_
      refine j_iload_n (n := 11) dX10_halves_10 rfl rfl ?_
      refine j_iaddN (n := 12) (c := 3) dX10_halves_11 rfl rfl ?_
      refine j_aload_n (n := 13) dX10_halves_12 rfl rfl ?_
      refine j_iload_n (n := 14) dX10_halves_13 rfl rfl ?_
      refine j_iconst (n := 15) (v := nI 2) dX10_halves_14 rfl rfl ?_
      refine j_iload_n (n := 16) dX10_halves_15 rfl rfl ?_
      refine j_iaddN (n := 17) (c := 3) dX10_halves_16 rfl rfl ?_
      refine j_cV (n := 20) dX10_halves_17 rfl sX10_114 (c_of d G _ _ hk _ k 3 (by omega)) (by omega) (by decide) rfl rfl (Nat.le_of_ble_eq_true rfl) (hk).2.1 (by decide) (kM_lt hk) (by decide) (by decide) ?_
      refine j_top (y := nI (p (10 + 5 * k + 3))) (congrArg nI (by repeat (first | rw [pu_eq] | rw [pu_ne _ _ (by omega)] | rw [drawZ_ne _ (by omega)]))) ?_
      refine j_iconst (n := 21) (v := nI 2) dX10_halves_20 rfl rfl ?_
      refine j_idivN (n := 22) (c := (p (10 + 5 * k + 3)) / 2) dX10_halves_21 rfl (by omega) (by omega) (by omega) rfl ?_
      refine j_cVv (n := 25) dX10_halves_22 rfl sX10_80 (c_gives d G _ _ hk _ k 3 ((p (10 + 5 * k + 3)) / 2) (by omega)) (by omega) (by decide) rfl rfl (Nat.le_of_ble_eq_true rfl) (hk).2.1 (by decide) (kM_lt hk) (by decide) (by decide) ?_
      refine j_iinc (n := 28) (y := nI 2) (lv2 := [some (.ref 160), some (.int (nI k)), some (.int (nI 2))]) dX10_halves_25 rfl rfl (by decide) rfl (show nI 1 + nI 1 = nI 2 by rw [nI_add]; try (congr 1)) rfl ?_
      refine j_goto (n := 2) dX10_halves_28 rfl ?_
      refine j_iload_n (n := 3) dX10_halves_2 rfl rfl ?_
      refine j_iconst (n := 4) (v := nI 3) dX10_halves_3 rfl rfl ?_
      refine j_icmp_geT (n := 7) (tg := 31) dX10_halves_4 rfl rfl (i_N (by omega)) (i_N (by omega)) (fun h3 => ?_) (fun h3 => ?_)
      · exact absurd h3 (by decide)
      · refine j_aload_n (n := 8) dX10_halves_7 rfl rfl ?_
        refine j_iload_n (n := 9) dX10_halves_8 rfl rfl ?_
        refine j_iconst (n := 10) (v := nI 2) dX10_halves_9 rfl rfl ?_
        refine j_iload_n (n := 11) dX10_halves_10 rfl rfl ?_
        refine j_iaddN (n := 12) (c := 4) dX10_halves_11 rfl rfl ?_
        refine j_aload_n (n := 13) dX10_halves_12 rfl rfl ?_
        refine j_iload_n (n := 14) dX10_halves_13 rfl rfl ?_
        refine j_iconst (n := 15) (v := nI 2) dX10_halves_14 rfl rfl ?_
        refine j_iload_n (n := 16) dX10_halves_15 rfl rfl ?_
        refine j_iaddN (n := 17) (c := 4) dX10_halves_16 rfl rfl ?_
        refine j_cV (n := 20) dX10_halves_17 rfl sX10_114 (c_of d G _ _ hk _ k 4 (by omega)) (by omega) (by decide) rfl rfl (Nat.le_of_ble_eq_true rfl) (hk).2.1 (by decide) (kM_lt hk) (by decide) (by decide) ?_
        refine j_top (y := nI (p (10 + 5 * k + 4))) (congrArg nI (by repeat (first | rw [pu_eq] | rw [pu_ne _ _ (by omega)] | rw [drawZ_ne _ (by omega)]))) ?_
        refine j_iconst (n := 21) (v := nI 2) dX10_halves_20 rfl rfl ?_
        refine j_idivN (n := 22) (c := (p (10 + 5 * k + 4)) / 2) dX10_halves_21 rfl (by omega) (by omega) (by omega) rfl ?_
        refine j_cVv (n := 25) dX10_halves_22 rfl sX10_80 (c_gives d G _ _ hk _ k 4 ((p (10 + 5 * k + 4)) / 2) (by omega)) (by omega) (by decide) rfl rfl (Nat.le_of_ble_eq_true rfl) (hk).2.1 (by decide) (kM_lt hk) (by decide) (by decide) ?_
        refine j_iinc (n := 28) (y := nI 3) (lv2 := [some (.ref 160), some (.int (nI k)), some (.int (nI 3))]) dX10_halves_25 rfl rfl (by decide) rfl (show nI 2 + nI 1 = nI 3 by rw [nI_add]; try (congr 1)) rfl ?_
        refine j_goto (n := 2) dX10_halves_28 rfl ?_
        refine j_iload_n (n := 3) dX10_halves_2 rfl rfl ?_
        refine j_iconst (n := 4) (v := nI 3) dX10_halves_3 rfl rfl ?_
        refine j_icmp_geT (n := 7) (tg := 31) dX10_halves_4 rfl rfl (i_N (by omega)) (i_N (by omega)) (fun h4 => ?_) (fun h4 => ?_)
        · exact j_rv dX10_halves_31 rfl (Nat.le_refl _) (Nat.le_refl _) rfl rfl
        · exact absurd h4 (by decide)
