-- CLASS D: by program (wip/whole/gen/c4.py)
theorem c_goThrough (d : Nat) (G : zG) (M : zMem) (X : zX) (B : Nat) (hT : kT X B) (c : Nat → Nat) (hx : tx M X B c) (b D : Nat) (hw : wf c b D) (hb : b ≤ 1000000000) (hD : D ≤ 1000000000) (k : Nat) (hk1 : k < c 0) (l : Nat) (hl1 : l < c 8) : zCall G miX7_goThrough (d + 3) [.ref B, .ref (B + 5 + 2 * k), .ref (B + 21 + l)] (zVr (fun M1 X1 => X1 = X ∧ ∃ M2, scT M M2 ∧ M1 = cm M2 B (goP c k l))) (cm M B c) X 0 0 := by
  refine zCall.of (lv := [some (.ref B), some (.ref (B + 5 + 2 * k)), some (.ref (B + 21 + l))]) (by decide) (Nat.le_of_ble_eq_true rfl) rfl ?_
  have hwO := hw.1
  have hwl := hw.2.1
  have hwt := hw.2.2.1
  have h0 := hw.1.1
  have h8 := hw.2.1.1
  have h2 := hw.day
  have h3 := hw.2.2.2.2.1
  have h4 := hw.2.2.2.2.2.1
  have h5 := hw.2.2.2.2.2.2.1
  have h6 := hw.2.2.2.2.2.2.2.1
  have h7 := hw.2.2.2.2.2.2.2.2
  have hd2 : c 2 < 2147483648 := by omega
  have ho := hw.1.2 k hk1
  have hl := hwl.2 l hl1
  have hr := hw.1.reg hk1 (j := c (50 + 5 * l + 2)) (by omega)
  refine j_aload_n (n := 1) dX7_goThrough_0 rfl rfl ?_
  refine j_getr (n := 4) (k := 2) (b := B + 6 + 2 * k) dX7_goThrough_1 rfl fX7_123 ((hT).p (by omega)).2.2.1 ((hT).p (by omega)).1 ((hT).hi (by omega)) ((hT).pr (by omega)) ?_
  refine j_aload_n (n := 5) dX7_goThrough_4 rfl rfl ?_
  refine jc_get (n := 8) (k := 2) (v := nI (c (50 + 5 * l + 2))) dX7_goThrough_5 rfl fX7_127 ((hT).l (by omega)) (by have := (hT).lo; omega) ((hT).hi (by omega)) (cm_r (ix_l (by omega) (by decide) rfl)) ?_
  refine j_aload_n (n := 9) dX7_goThrough_8 rfl rfl ?_
  refine j_aload_n (n := 10) dX7_goThrough_9 rfl rfl ?_
  refine jc_get (n := 13) (k := 0) (v := nI (c (10 + 5 * k + 0))) dX7_goThrough_10 rfl fX7_83 ((hT).p (by omega)).2.2.1 ((hT).p (by omega)).1 ((hT).hi (by omega)) (cm_r (ix_p (by omega) (by decide) rfl)) ?_
  refine j_aload_n (n := 14) dX7_goThrough_13 rfl rfl ?_
  refine jc_get (n := 17) (k := 2) (v := nI (c (50 + 5 * l + 2))) dX7_goThrough_14 rfl fX7_127 ((hT).l (by omega)) (by have := (hT).lo; omega) ((hT).hi (by omega)) (cm_r (ix_l (by omega) (by decide) rfl)) ?_
  refine j_aload_n (n := 18) dX7_goThrough_17 rfl rfl ?_
  refine j_getr (n := 21) (k := 2) (b := B + 6 + 2 * k) dX7_goThrough_18 rfl fX7_123 ((hT).p (by omega)).2.2.1 ((hT).p (by omega)).1 ((hT).hi (by omega)) ((hT).pr (by omega)) ?_
  refine j_aload_n (n := 22) dX7_goThrough_21 rfl rfl ?_
  refine jc_get (n := 25) (k := 2) (v := nI (c (50 + 5 * l + 2))) dX7_goThrough_22 rfl fX7_127 ((hT).l (by omega)) (by have := (hT).lo; omega) ((hT).hi (by omega)) (cm_r (ix_l (by omega) (by decide) rfl)) ?_
  refine j_ialdN (n := 26) (L := 3) (a := B + 6 + 2 * k) (i := c (50 + 5 * l + 2)) (v := nI (c (10 + 5 * k + (2 + (c (50 + 5 * l + 2)))))) dX7_goThrough_25 rfl ((hT).pa (by omega)).1 ((hT).pa (by omega)).2 (by omega) (by decide) (by have := (hT).lo; omega) ((hT).hi (by omega)) (cm_r (ix_r (by omega) (by omega) rfl)) ?_
  refine j_cVr (n := 29) dX7_goThrough_26 rfl sX7_130 (c_leftOf d G _ _ _ hT _ hx hwt hd2 (c (10 + 5 * k + 0)) (c (50 + 5 * l + 2)) (c (10 + 5 * k + (2 + (c (50 + 5 * l + 2))))) (by omega) (by omega) (by omega)) (by omega) (by decide) rfl rfl (Nat.le_of_ble_eq_true rfl) (hT).c (hT).lo ((hT).hi (by omega)) (by decide) (by decide) (fun r101 N101 Y101 hh101 => ?_)
  obtain ⟨e1101, e2101, M_101, hs101, e3101⟩ := hh101
  rw [e1101, e2101, e3101]
  refine j_iastN (n := 30) (L := 3) (a := B + 6 + 2 * k) (i := c (50 + 5 * l + 2)) (x := nI (wornP c (c (10 + 5 * k + 0)) (c (10 + 5 * k + (2 + (c (50 + 5 * l + 2))))) (c (50 + 5 * l + 2)))) (M2 := cm M_101 B (pu c (10 + 5 * k + (2 + (c (50 + 5 * l + 2)))) (wornP c (c (10 + 5 * k + 0)) (c (10 + 5 * k + (2 + (c (50 + 5 * l + 2))))) (c (50 + 5 * l + 2))))) dX7_goThrough_29 rfl ((hT).pa (by omega)).1 ((hT).pa (by omega)).2 (by omega) (by decide) (by have := (hT).lo; omega) ((hT).hi (by omega)) (cm_w (ix_r (by omega) (by omega) rfl) _) ?_
  refine j_aload_n (n := 31) dX7_goThrough_30 rfl rfl ?_
  refine j_aload_n (n := 32) dX7_goThrough_31 rfl rfl ?_
  refine jc_get (n := 35) (k := 1) (v := nI (c (50 + 5 * l + 1))) dX7_goThrough_32 rfl fX7_134 ((hT).l (by omega)) (by have := (hT).lo; omega) ((hT).hi (by omega)) ((cm_r (ix_l (by omega) (by decide) rfl)).trans (congrArg nI (by repeat (first | rw [pu_eq] | rw [pu_ne _ _ (by omega)] | rw [drawZ_ne _ (by omega)])))) ?_
  refine jc_put (n := 38) (k := 1) (x := nI (c (50 + 5 * l + 1))) (M2 := cm M_101 B (pu (pu c (10 + 5 * k + (2 + (c (50 + 5 * l + 2)))) (wornP c (c (10 + 5 * k + 0)) (c (10 + 5 * k + (2 + (c (50 + 5 * l + 2))))) (c (50 + 5 * l + 2)))) (10 + 5 * k + 1) (c (50 + 5 * l + 1)))) dX7_goThrough_35 rfl pX7_104 (fun h => by cases h) rfl rfl ((hT).p (by omega)).2.2.1 ((hT).p (by omega)).1 ((hT).hi (by omega)) (cm_w (ix_p (by omega) (by decide) rfl) _) ?_
  refine j_aload_n (n := 39) dX7_goThrough_38 rfl rfl ?_
  refine j_dup (n := 40) dX7_goThrough_39 rfl rfl ?_
  refine jc_get (n := 43) (k := 9) (v := nI (c 3)) dX7_goThrough_40 rfl fX7_60 (hT).c (hT).lo ((hT).hi (by omega)) ((cm_r (ix_t rfl)).trans (congrArg nI (by repeat (first | rw [pu_eq] | rw [pu_ne _ _ (by omega)] | rw [drawZ_ne _ (by omega)])))) ?_
  refine j_iconst (n := 44) (v := nI 1) dX7_goThrough_43 rfl rfl ?_
  refine j_iaddN (n := 45) (c := c 3 + 1) dX7_goThrough_44 rfl rfl ?_
  refine jc_put (n := 48) (k := 9) (x := nI (c 3 + 1)) (M2 := cm M_101 B (pu (pu (pu c (10 + 5 * k + (2 + (c (50 + 5 * l + 2)))) (wornP c (c (10 + 5 * k + 0)) (c (10 + 5 * k + (2 + (c (50 + 5 * l + 2))))) (c (50 + 5 * l + 2)))) (10 + 5 * k + 1) (c (50 + 5 * l + 1))) 3 (c 3 + 1))) dX7_goThrough_45 rfl pX7_60 (fun h => by cases h) rfl rfl (hT).c (hT).lo ((hT).hi (by omega)) (cm_w (ix_t rfl) _) ?_
  exact j_vret dX7_goThrough_48 rfl (Nat.le_refl _) (Nat.le_refl _) ⟨rfl, rfl, _, (scT.rf M).tr hs101, rfl⟩
theorem c_tryFalsely (d : Nat) (G : zG) (M : zMem) (X : zX) (B : Nat) (hT : kT X B) (c : Nat → Nat) (b D : Nat) (hw : wf c b D) (hb : b ≤ 1000000000) (hD : D ≤ 1000000000) (k : Nat) (hk1 : k < c 0) : zCall G miX7_tryFalsely (d + 1) [.ref B, .ref (B + 5 + 2 * k)] (zV (cm M B (triesP c k)) X) (cm M B c) X 0 0 := by
  refine zCall.of (lv := [some (.ref B), some (.ref (B + 5 + 2 * k)), none]) (by decide) (Nat.le_of_ble_eq_true rfl) rfl ?_
  have hwO := hw.1
  have hwl := hw.2.1
  have hwt := hw.2.2.1
  have h0 := hw.1.1
  have h8 := hw.2.1.1
  have h2 := hw.day
  have h3 := hw.2.2.2.2.1
  have h4 := hw.2.2.2.2.2.1
  have h5 := hw.2.2.2.2.2.2.1
  have h6 := hw.2.2.2.2.2.2.2.1
  have h7 := hw.2.2.2.2.2.2.2.2
  have hd2 : c 2 < 2147483648 := by omega
  have ho := hw.1.2 k hk1
  have hdv := drawV_lt c
  refine j_iconst (n := 1) (v := nI 0) dX7_tryFalsely_0 rfl rfl ?_
  refine j_istore_n (n := 2) (lv2 := [some (.ref B), some (.ref (B + 5 + 2 * k)), some (.int (nI 0))]) dX7_tryFalsely_1 rfl rfl (by decide) rfl ?_
  have loop : ∀ (j l : Nat), c 8 - l = j → l ≤ c 8 → fi (fun l => c (50 + 5 * l + 0) = c (10 + 5 * k + 1) ∧ ¬ c (50 + 5 * l + 4) = 1) (c 8 - 0) 0 = fi (fun l => c (50 + 5 * l + 0) = c (10 + 5 * k + 1) ∧ ¬ c (50 + 5 * l + 4) = 1) (c 8 - l) l → zAt G miX7_tryFalsely (zRm (d + 1) 0 0) (zQ G (zV (cm M B (triesP c k)) X) 0 0) 2 [some (.ref B), some (.ref (B + 5 + 2 * k)), some (.int (nI l))] [] (cm M B c) X (0, 0) := by
    intro j
    induction j using Nat.strongRecOn with
    | ind j ih =>
      intro l hj hl0 hF
      refine j_iload_n (n := 3) dX7_tryFalsely_2 rfl rfl ?_
      refine j_aload_n (n := 4) dX7_tryFalsely_3 rfl rfl ?_
      refine jc_get (n := 7) (k := 3) (v := nI (c 8)) dX7_tryFalsely_4 rfl fX7_51 (hT).c (hT).lo ((hT).hi (by omega)) (cm_r (ix_t rfl)) ?_
      refine j_icmp_geT (n := 10) (tg := 77) dX7_tryFalsely_7 rfl rfl (i_N (by omega)) (i_N (by omega)) (fun h101 => ?_) (fun h101 => ?_)
      · exact j_rv dX7_tryFalsely_77 rfl (Nat.le_refl _) (Nat.le_refl _) (by have eF := (hF.trans (by first | exact fi_n (by omega) | exact fi_t (by omega) (by omega))); unfold triesP; rw [eF]; repeat (first | rw [if_pos (by omega)] | rw [if_neg (by omega)])) rfl
      · have hl := hwl.2 l (by omega)
        refine j_aload_n (n := 11) dX7_tryFalsely_10 rfl rfl ?_
        refine j_getr (n := 14) (k := 2) (b := B + 2) dX7_tryFalsely_11 rfl fX7_19 (hT).c (hT).lo ((hT).hi (by omega)) (hT).r2 ?_
        refine j_iload_n (n := 15) dX7_tryFalsely_14 rfl rfl ?_
        refine jc_aald (n := 16) (t := 3) (L := 10) (i := l) (b := B + 21 + l) dX7_tryFalsely_15 rfl ((hT).a2).1 (by decide) rfl ((hT).a2).2 (by omega) (by decide) (by have := (hT).lo; omega) ((hT).hi (by omega)) ((hT).e2 (by omega)) ?_
        refine jc_get (n := 19) (k := 0) (v := nI (c (50 + 5 * l + 0))) dX7_tryFalsely_16 rfl fX7_101 ((hT).l (by omega)) (by have := (hT).lo; omega) ((hT).hi (by omega)) (cm_r (ix_l (by omega) (by decide) rfl)) ?_
        refine j_aload_n (n := 20) dX7_tryFalsely_19 rfl rfl ?_
        refine jc_get (n := 23) (k := 1) (v := nI (c (10 + 5 * k + 1))) dX7_tryFalsely_20 rfl fX7_104 ((hT).p (by omega)).2.2.1 ((hT).p (by omega)).1 ((hT).hi (by omega)) (cm_r (ix_p (by omega) (by decide) rfl)) ?_
        refine j_icmp_neT (n := 26) (tg := 71) dX7_tryFalsely_23 rfl rfl (i_N (by omega)) (i_N (by omega)) (fun h102 => ?_) (fun h102 => ?_)
        · refine j_iinc (n := 74) (y := nI (l + 1)) (lv2 := [some (.ref B), some (.ref (B + 5 + 2 * k)), some (.int (nI (l + 1)))]) dX7_tryFalsely_71 rfl rfl (by decide) rfl (show nI l + nI 1 = nI (l + 1) by rw [nI_add]) rfl ?_
          refine j_goto (n := 2) dX7_tryFalsely_74 rfl ?_
          exact ih _ (by omega) (l + 1) rfl (by omega) (hF.trans (fi_s (by omega) (by omega)))
        · refine j_aload_n (n := 27) dX7_tryFalsely_26 rfl rfl ?_
          refine j_getr (n := 30) (k := 2) (b := B + 2) dX7_tryFalsely_27 rfl fX7_19 (hT).c (hT).lo ((hT).hi (by omega)) (hT).r2 ?_
          refine j_iload_n (n := 31) dX7_tryFalsely_30 rfl rfl ?_
          refine jc_aald (n := 32) (t := 3) (L := 10) (i := l) (b := B + 21 + l) dX7_tryFalsely_31 rfl ((hT).a2).1 (by decide) rfl ((hT).a2).2 (by omega) (by decide) (by have := (hT).lo; omega) ((hT).hi (by omega)) ((hT).e2 (by omega)) ?_
          refine jc_get (n := 35) (k := 4) (v := nI (c (50 + 5 * l + 4))) dX7_tryFalsely_32 rfl fX7_107 ((hT).l (by omega)) (by have := (hT).lo; omega) ((hT).hi (by omega)) (cm_r (ix_l (by omega) (by decide) rfl)) ?_
          refine j_if_neN (n := 38) (tg := 71) dX7_tryFalsely_35 rfl rfl (by omega) (fun h103 => ?_) (fun h103 => ?_)
          · refine j_iinc (n := 74) (y := nI (l + 1)) (lv2 := [some (.ref B), some (.ref (B + 5 + 2 * k)), some (.int (nI (l + 1)))]) dX7_tryFalsely_71 rfl rfl (by decide) rfl (show nI l + nI 1 = nI (l + 1) by rw [nI_add]) rfl ?_
            refine j_goto (n := 2) dX7_tryFalsely_74 rfl ?_
            exact ih _ (by omega) (l + 1) rfl (by omega) (hF.trans (fi_s (by omega) (by omega)))
          · refine j_aload_n (n := 39) dX7_tryFalsely_38 rfl rfl ?_
            refine j_cV (n := 42) dX7_tryFalsely_39 rfl sX7_73 (c_draw d G _ _ _ hT _) (by omega) (by decide) rfl rfl (Nat.le_of_ble_eq_true rfl) (hT).c (hT).lo ((hT).hi (by omega)) (by decide) (by decide) ?_
            refine j_bipush (n := 44) (v := nI 100) dX7_tryFalsely_42 rfl (by decide) ?_
            refine j_iremN (n := 45) (c := (drawV c) % 100) dX7_tryFalsely_44 rfl (by omega) (by omega) (by omega) rfl ?_
            refine j_bipush (n := 47) (v := nI 30) dX7_tryFalsely_45 rfl (by decide) ?_
            refine j_icmp_geT (n := 50) (tg := 70) dX7_tryFalsely_47 rfl rfl (i_N (by omega)) (i_N (by omega)) (fun h104 => ?_) (fun h104 => ?_)
            · exact j_rv dX7_tryFalsely_70 rfl (Nat.le_refl _) (Nat.le_refl _) (by have eF := (hF.trans (by first | exact fi_n (by omega) | exact fi_t (by omega) (by omega))); unfold triesP; rw [eF]; repeat (first | rw [if_pos (by omega)] | rw [if_neg (by omega)])) rfl
            · refine j_aload_n (n := 51) dX7_tryFalsely_50 rfl rfl ?_
              refine j_getr (n := 54) (k := 2) (b := B + 2) dX7_tryFalsely_51 rfl fX7_19 (hT).c (hT).lo ((hT).hi (by omega)) (hT).r2 ?_
              refine j_iload_n (n := 55) dX7_tryFalsely_54 rfl rfl ?_
              refine jc_aald (n := 56) (t := 3) (L := 10) (i := l) (b := B + 21 + l) dX7_tryFalsely_55 rfl ((hT).a2).1 (by decide) rfl ((hT).a2).2 (by omega) (by decide) (by have := (hT).lo; omega) ((hT).hi (by omega)) ((hT).e2 (by omega)) ?_
              refine j_iconst (n := 57) (v := nI 1) dX7_tryFalsely_56 rfl rfl ?_
              refine jc_put (n := 60) (k := 4) (x := nI 1) (M2 := cm M B (pu (drawZ c) (50 + 5 * l + 4) 1)) dX7_tryFalsely_57 rfl pX7_107 (fun h => by cases h) rfl rfl ((hT).l (by omega)) (by have := (hT).lo; omega) ((hT).hi (by omega)) (cm_w (ix_l (by omega) (by decide) rfl) _) ?_
              refine j_aload_n (n := 61) dX7_tryFalsely_60 rfl rfl ?_
              refine j_dup (n := 62) dX7_tryFalsely_61 rfl rfl ?_
              refine jc_get (n := 65) (k := 11) (v := nI (c 5)) dX7_tryFalsely_62 rfl fX7_66 (hT).c (hT).lo ((hT).hi (by omega)) ((cm_r (ix_t rfl)).trans (congrArg nI (by repeat (first | rw [pu_eq] | rw [pu_ne _ _ (by omega)] | rw [drawZ_ne _ (by omega)])))) ?_
              refine j_iconst (n := 66) (v := nI 1) dX7_tryFalsely_65 rfl rfl ?_
              refine j_iaddN (n := 67) (c := c 5 + 1) dX7_tryFalsely_66 rfl rfl ?_
              refine jc_put (n := 70) (k := 11) (x := nI (c 5 + 1)) (M2 := cm M B (pu (pu (drawZ c) (50 + 5 * l + 4) 1) 5 (c 5 + 1))) dX7_tryFalsely_67 rfl pX7_66 (fun h => by cases h) rfl rfl (hT).c (hT).lo ((hT).hi (by omega)) (cm_w (ix_t rfl) _) ?_
              exact j_rv dX7_tryFalsely_70 rfl (Nat.le_refl _) (Nat.le_refl _) (by have eF := (hF.trans (by first | exact fi_n (by omega) | exact fi_t (by omega) (by omega))); unfold triesP; rw [eF]; repeat (first | rw [if_pos (by omega)] | rw [if_neg (by omega)])) rfl
  exact loop _ 0 rfl (Nat.zero_le _) rfl
theorem c_goOn (d : Nat) (G : zG) (M : zMem) (X : zX) (B : Nat) (hT : kT X B) (c : Nat → Nat) (hx : tx M X B c) (b D : Nat) (hw : wf c b D) (hb : b ≤ 1000000000) (hD : D ≤ 1000000000) (k : Nat) (hk1 : k < c 0) : zCall G miX7_goOn (d + 4) [.ref B, .ref (B + 5 + 2 * k)] (zVr (fun M1 X1 => X1 = X ∧ ∃ M2, scT M M2 ∧ M1 = cm M2 B (onP c k))) (cm M B c) X 0 0 := by
  refine zCall.of (lv := [some (.ref B), some (.ref (B + 5 + 2 * k)), none]) (by decide) (Nat.le_of_ble_eq_true rfl) rfl ?_
  have hwO := hw.1
  have hwl := hw.2.1
  have hwt := hw.2.2.1
  have h0 := hw.1.1
  have h8 := hw.2.1.1
  have h2 := hw.day
  have h3 := hw.2.2.2.2.1
  have h4 := hw.2.2.2.2.2.1
  have h5 := hw.2.2.2.2.2.2.1
  have h6 := hw.2.2.2.2.2.2.2.1
  have h7 := hw.2.2.2.2.2.2.2.2
  have hd2 : c 2 < 2147483648 := by omega
  have ho := hw.1.2 k hk1
  have hr3 := hw.1.reg hk1 (j := c 2 % 3) (by omega)
  refine j_iconst (n := 1) (v := nI 0) dX7_goOn_0 rfl rfl ?_
  refine j_istore_n (n := 2) (lv2 := [some (.ref B), some (.ref (B + 5 + 2 * k)), some (.int (nI 0))]) dX7_goOn_1 rfl rfl (by decide) rfl ?_
  have loop : ∀ (j l : Nat), c 8 - l = j → l ≤ c 8 → doorP c k = fi (fun l => c (50 + 5 * l + 0) = c (10 + 5 * k + 1) ∧ c (50 + 5 * l + 4) = 0 ∧ c (50 + 5 * l + 3) ≤ feelsN (c (10 + 5 * k + 0)) (c (10 + 5 * k + (2 + c (50 + 5 * l + 2))))) (c 8 - l) l → zAt G miX7_goOn (zRm (d + 4) 0 0) (zQ G (zVr (fun M1 X1 => X1 = X ∧ ∃ M2, scT M M2 ∧ M1 = cm M2 B (onP c k))) 0 0) 2 [some (.ref B), some (.ref (B + 5 + 2 * k)), some (.int (nI l))] [] (cm M B c) X (0, 0) := by
    intro j
    induction j using Nat.strongRecOn with
    | ind j ih =>
      intro l hj hl0 hF
      refine j_iload_n (n := 3) dX7_goOn_2 rfl rfl ?_
      refine j_aload_n (n := 4) dX7_goOn_3 rfl rfl ?_
      refine jc_get (n := 7) (k := 3) (v := nI (c 8)) dX7_goOn_4 rfl fX7_51 (hT).c (hT).lo ((hT).hi (by omega)) (cm_r (ix_t rfl)) ?_
      refine j_icmp_geT (n := 10) (tg := 57) dX7_goOn_7 rfl rfl (i_N (by omega)) (i_N (by omega)) (fun h101 => ?_) (fun h101 => ?_)
      · refine j_aload_n (n := 58) dX7_goOn_57 rfl rfl ?_
        refine j_dup (n := 59) dX7_goOn_58 rfl rfl ?_
        refine jc_get (n := 62) (k := 10) (v := nI (c 4)) dX7_goOn_59 rfl fX7_63 (hT).c (hT).lo ((hT).hi (by omega)) (cm_r (ix_t rfl)) ?_
        refine j_iconst (n := 63) (v := nI 1) dX7_goOn_62 rfl rfl ?_
        refine j_iaddN (n := 64) (c := c 4 + 1) dX7_goOn_63 rfl rfl ?_
        refine jc_put (n := 67) (k := 10) (x := nI (c 4 + 1)) (M2 := cm M B (pu c 4 (c 4 + 1))) dX7_goOn_64 rfl pX7_63 (fun h => by cases h) rfl rfl (hT).c (hT).lo ((hT).hi (by omega)) (cm_w (ix_t rfl) _) ?_
        refine j_aload_n (n := 68) dX7_goOn_67 rfl rfl ?_
        refine j_aload_n (n := 69) dX7_goOn_68 rfl rfl ?_
        refine jc_get (n := 72) (k := 12) (v := nI (c 2)) dX7_goOn_69 rfl fX7_69 (hT).c (hT).lo ((hT).hi (by omega)) ((cm_r (ix_t rfl)).trans (congrArg nI (by repeat (first | rw [pu_eq] | rw [pu_ne _ _ (by omega)] | rw [drawZ_ne _ (by omega)])))) ?_
        refine j_iconst (n := 73) (v := nI 3) dX7_goOn_72 rfl rfl ?_
        refine j_iremN (n := 74) (c := (c 2) % 3) dX7_goOn_73 rfl (by omega) (by omega) (by omega) rfl ?_
        refine j_iconst (n := 75) (v := nI 1) dX7_goOn_74 rfl rfl ?_
        refine j_cVv (n := 78) dX7_goOn_75 rfl sX7_119 (c_regretMore (d + 2) G _ _ (B + 5 + 2 * k) ((hT).p (by omega)) ((c 2) % 3) 1 (c (10 + 5 * k + (2 + ((c 2) % 3)))) (by omega) (by omega) (by omega) ((cm_r (ix_r1 (by omega) (by omega) rfl)).trans (congrArg nI (by repeat (first | rw [pu_eq] | rw [pu_ne _ _ (by omega)] | rw [drawZ_ne _ (by omega)]))))) (by omega) (by decide) rfl rfl (Nat.le_of_ble_eq_true rfl) ((hT).p (by omega)).2.2.1 ((hT).p (by omega)).1 ((hT).hi (by omega)) (by decide) (by decide) ?_
        refine j_mem (M2 := cm M B (pu (pu c 4 (c 4 + 1)) (10 + 5 * k + (2 + ((c 2) % 3))) (min 99 (c (10 + 5 * k + (2 + ((c 2) % 3))) + 1)))) (cm_w (ix_r1 (by omega) (by omega) rfl) _) ?_
        exact j_vret dX7_goOn_78 rfl (Nat.le_refl _) (Nat.le_refl _) ⟨rfl, rfl, _, scT.rf M, (by have eF := (hF.trans (by first | exact fi_n (by omega) | exact fi_t (by omega) (by omega))); unfold onP; rw [eF, if_neg (by omega)]; unfold moreP; rw [pu_ne _ _ (show 10 + 5 * k + (2 + c 2 % 3) ≠ 4 by omega)])⟩
      · have hl := hwl.2 l (by omega)
        have hr := hw.1.reg hk1 (j := c (50 + 5 * l + 2)) (by omega)
        refine j_aload_n (n := 11) dX7_goOn_10 rfl rfl ?_
        refine j_getr (n := 14) (k := 2) (b := B + 2) dX7_goOn_11 rfl fX7_19 (hT).c (hT).lo ((hT).hi (by omega)) (hT).r2 ?_
        refine j_iload_n (n := 15) dX7_goOn_14 rfl rfl ?_
        refine jc_aald (n := 16) (t := 3) (L := 10) (i := l) (b := B + 21 + l) dX7_goOn_15 rfl ((hT).a2).1 (by decide) rfl ((hT).a2).2 (by omega) (by decide) (by have := (hT).lo; omega) ((hT).hi (by omega)) ((hT).e2 (by omega)) ?_
        refine jc_get (n := 19) (k := 0) (v := nI (c (50 + 5 * l + 0))) dX7_goOn_16 rfl fX7_101 ((hT).l (by omega)) (by have := (hT).lo; omega) ((hT).hi (by omega)) (cm_r (ix_l (by omega) (by decide) rfl)) ?_
        refine j_aload_n (n := 20) dX7_goOn_19 rfl rfl ?_
        refine jc_get (n := 23) (k := 1) (v := nI (c (10 + 5 * k + 1))) dX7_goOn_20 rfl fX7_104 ((hT).p (by omega)).2.2.1 ((hT).p (by omega)).1 ((hT).hi (by omega)) (cm_r (ix_p (by omega) (by decide) rfl)) ?_
        refine j_icmp_neT (n := 26) (tg := 51) dX7_goOn_23 rfl rfl (i_N (by omega)) (i_N (by omega)) (fun h102 => ?_) (fun h102 => ?_)
        · refine j_iinc (n := 54) (y := nI (l + 1)) (lv2 := [some (.ref B), some (.ref (B + 5 + 2 * k)), some (.int (nI (l + 1)))]) dX7_goOn_51 rfl rfl (by decide) rfl (show nI l + nI 1 = nI (l + 1) by rw [nI_add]) rfl ?_
          refine j_goto (n := 2) dX7_goOn_54 rfl ?_
          exact ih _ (by omega) (l + 1) rfl (by omega) (hF.trans (fi_s (by omega) (by omega)))
        · refine j_aload_n (n := 27) dX7_goOn_26 rfl rfl ?_
          refine j_getr (n := 30) (k := 2) (b := B + 2) dX7_goOn_27 rfl fX7_19 (hT).c (hT).lo ((hT).hi (by omega)) (hT).r2 ?_
          refine j_iload_n (n := 31) dX7_goOn_30 rfl rfl ?_
          refine jc_aald (n := 32) (t := 3) (L := 10) (i := l) (b := B + 21 + l) dX7_goOn_31 rfl ((hT).a2).1 (by decide) rfl ((hT).a2).2 (by omega) (by decide) (by have := (hT).lo; omega) ((hT).hi (by omega)) ((hT).e2 (by omega)) ?_
          refine j_aload_n (n := 33) dX7_goOn_32 rfl rfl ?_
          refine j_cV (n := 36) dX7_goOn_33 rfl sX7_111 (c_opensFor (d + 1) G _ _ (B + 21 + l) ⟨((hT).l (by omega)), (by have := (hT).lo; omega), ((hT).hi (by omega))⟩ (B + 5 + 2 * k) ((hT).p (by omega)) (c (50 + 5 * l + 4)) (c (50 + 5 * l + 2)) (c (50 + 5 * l + 3)) (c (10 + 5 * k + 0)) (c (10 + 5 * k + (2 + (c (50 + 5 * l + 2))))) (cm_r (ix_l (by omega) (by decide) rfl)) (cm_r (ix_l (by omega) (by decide) rfl)) (cm_r (ix_l (by omega) (by decide) rfl)) (by omega) (by omega) (by omega) (cm_r (ix_p (by omega) (by decide) rfl)) (cm_r (ix_r1 (by omega) (by omega) rfl)) (by omega) (by omega)) (by omega) (by decide) rfl rfl (Nat.le_of_ble_eq_true rfl) ((hT).l (by omega)) (by have := (hT).lo; omega) ((hT).hi (by omega)) (by decide) (by decide) ?_
          refine j_if_eqB (n := 39) (tg := 51) dX7_goOn_36 rfl rfl (fun h103 => ?_) (fun h103 => ?_)
          · refine j_iinc (n := 54) (y := nI (l + 1)) (lv2 := [some (.ref B), some (.ref (B + 5 + 2 * k)), some (.int (nI (l + 1)))]) dX7_goOn_51 rfl rfl (by decide) rfl (show nI l + nI 1 = nI (l + 1) by rw [nI_add]) rfl ?_
            refine j_goto (n := 2) dX7_goOn_54 rfl ?_
            exact ih _ (by omega) (l + 1) rfl (by omega) (hF.trans (fi_s (by omega) (by omega)))
          · refine j_aload_n (n := 40) dX7_goOn_39 rfl rfl ?_
            refine j_aload_n (n := 41) dX7_goOn_40 rfl rfl ?_
            refine j_aload_n (n := 42) dX7_goOn_41 rfl rfl ?_
            refine j_getr (n := 45) (k := 2) (b := B + 2) dX7_goOn_42 rfl fX7_19 (hT).c (hT).lo ((hT).hi (by omega)) (hT).r2 ?_
            refine j_iload_n (n := 46) dX7_goOn_45 rfl rfl ?_
            refine jc_aald (n := 47) (t := 3) (L := 10) (i := l) (b := B + 21 + l) dX7_goOn_46 rfl ((hT).a2).1 (by decide) rfl ((hT).a2).2 (by omega) (by decide) (by have := (hT).lo; omega) ((hT).hi (by omega)) ((hT).e2 (by omega)) ?_
            refine j_cVvr (n := 50) dX7_goOn_47 rfl sX7_115 (c_goThrough d G _ _ _ hT _ hx _ _ hw hb hD k (by omega) l (by omega)) (by omega) (by decide) rfl rfl (Nat.le_of_ble_eq_true rfl) (hT).c (hT).lo ((hT).hi (by omega)) (by decide) (by decide) (fun N104 Y104 hh104 => ?_)
            obtain ⟨e2104, M_104, hs104, e3104⟩ := hh104
            rw [e2104, e3104]
            exact j_vret dX7_goOn_50 rfl (Nat.le_refl _) (Nat.le_refl _) ⟨rfl, rfl, _, (scT.rf M).tr hs104, (by have eF := (hF.trans (by first | exact fi_n (by omega) | exact fi_t (by omega) (by omega))); unfold onP; rw [eF, if_pos (by omega)])⟩
  exact loop _ 0 rfl (Nat.zero_le _) rfl
theorem c_sufferDeed (d : Nat) (G : zG) (M : zMem) (X : zX) (B : Nat) (hT : kT X B) (c : Nat → Nat) (b D : Nat) (hw : wf c b D) (hb : b ≤ 1000000000) (hD : D ≤ 1000000000) : zCall G miX7_sufferDeed (d + 2) [.ref B] (zV (cm M B (deedP c)) X) (cm M B c) X 0 0 := by
  refine zCall.of (lv := [some (.ref B), none, none]) (by decide) (Nat.le_of_ble_eq_true rfl) rfl ?_
  have hwO := hw.1
  have hwl := hw.2.1
  have hwt := hw.2.2.1
  have h0 := hw.1.1
  have h8 := hw.2.1.1
  have h2 := hw.day
  have h3 := hw.2.2.2.2.1
  have h4 := hw.2.2.2.2.2.1
  have h5 := hw.2.2.2.2.2.2.1
  have h6 := hw.2.2.2.2.2.2.2.1
  have h7 := hw.2.2.2.2.2.2.2.2
  have hd2 : c 2 < 2147483648 := by omega
  have hv := drawV_lt c
  have hv1 := drawV_lt (drawZ c)
  have hv2 := drawV_lt (drawZ (drawZ c))
  refine j_aload_n (n := 1) dX7_sufferDeed_0 rfl rfl ?_
  refine j_cV (n := 4) dX7_sufferDeed_1 rfl sX7_73 (c_draw (d + 1) G _ _ _ hT _) (by omega) (by decide) rfl rfl (Nat.le_of_ble_eq_true rfl) (hT).c (hT).lo ((hT).hi (by omega)) (by decide) (by decide) ?_
  refine j_bipush (n := 6) (v := nI 100) dX7_sufferDeed_4 rfl (by decide) ?_
  refine j_iremN (n := 7) (c := (drawV c) % 100) dX7_sufferDeed_6 rfl (by omega) (by omega) (by omega) rfl ?_
  refine j_aload_n (n := 8) dX7_sufferDeed_7 rfl rfl ?_
  refine jc_get (n := 11) (k := 7) (v := nI (c 6)) dX7_sufferDeed_8 rfl fX7_32 (hT).c (hT).lo ((hT).hi (by omega)) ((cm_r (ix_t rfl)).trans (congrArg nI (by repeat (first | rw [pu_eq] | rw [pu_ne _ _ (by omega)] | rw [drawZ_ne _ (by omega)])))) ?_
  refine j_icmp_geT (n := 14) (tg := 50) dX7_sufferDeed_11 rfl rfl (i_N (by omega)) (i_N (by omega)) (fun h101 => ?_) (fun h101 => ?_)
  · exact j_rv dX7_sufferDeed_50 rfl (Nat.le_refl _) (Nat.le_refl _) (by unfold deedP; first | (rw [if_neg (by omega)]; done) | (rw [if_pos (by omega)]; unfold moreP; rw [drawZ_ne _ (by omega), drawZ_ne _ (by omega), drawZ_ne _ (by omega)])) rfl
  · refine j_aload_n (n := 15) dX7_sufferDeed_14 rfl rfl ?_
    refine jc_get (n := 18) (k := 1) (v := nI (c 0)) dX7_sufferDeed_15 rfl fX7_44 (hT).c (hT).lo ((hT).hi (by omega)) ((cm_r (ix_t rfl)).trans (congrArg nI (by repeat (first | rw [pu_eq] | rw [pu_ne _ _ (by omega)] | rw [drawZ_ne _ (by omega)])))) ?_
    refine j_if_leM (n := 21) (tg := 50) dX7_sufferDeed_18 rfl rfl (by omega) (fun h102 => ?_) (fun h102 => ?_)
    · exact j_rv dX7_sufferDeed_50 rfl (Nat.le_refl _) (Nat.le_refl _) (by unfold deedP; first | (rw [if_neg (by omega)]; done) | (rw [if_pos (by omega)]; unfold moreP; rw [drawZ_ne _ (by omega), drawZ_ne _ (by omega), drawZ_ne _ (by omega)])) rfl
    · have hm : drawV (drawZ c) % c 0 < c 0 := Nat.mod_lt _ (by omega)
      have hrr := hw.1.reg hm (j := drawV (drawZ (drawZ c)) % 3) (by omega)
      have hr4 := hw.1.2 _ hm
      refine j_aload_n (n := 22) dX7_sufferDeed_21 rfl rfl ?_
      refine j_cV (n := 25) dX7_sufferDeed_22 rfl sX7_73 (c_draw (d + 1) G _ _ _ hT _) (by omega) (by decide) rfl rfl (Nat.le_of_ble_eq_true rfl) (hT).c (hT).lo ((hT).hi (by omega)) (by decide) (by decide) ?_
      refine j_aload_n (n := 26) dX7_sufferDeed_25 rfl rfl ?_
      refine jc_get (n := 29) (k := 1) (v := nI (c 0)) dX7_sufferDeed_26 rfl fX7_44 (hT).c (hT).lo ((hT).hi (by omega)) ((cm_r (ix_t rfl)).trans (congrArg nI (by repeat (first | rw [pu_eq] | rw [pu_ne _ _ (by omega)] | rw [drawZ_ne _ (by omega)])))) ?_
      refine j_iremN (n := 30) (c := (drawV (drawZ c)) % (c 0)) dX7_sufferDeed_29 rfl (by omega) (by omega) (by omega) rfl ?_
      refine j_istore_n (n := 31) (lv2 := [some (.ref B), some (.int (nI ((drawV (drawZ c)) % (c 0)))), none]) dX7_sufferDeed_30 rfl rfl (by decide) rfl ?_
      refine j_aload_n (n := 32) dX7_sufferDeed_31 rfl rfl ?_
      refine j_cV (n := 35) dX7_sufferDeed_32 rfl sX7_73 (c_draw (d + 1) G _ _ _ hT _) (by omega) (by decide) rfl rfl (Nat.le_of_ble_eq_true rfl) (hT).c (hT).lo ((hT).hi (by omega)) (by decide) (by decide) ?_
      refine j_iconst (n := 36) (v := nI 3) dX7_sufferDeed_35 rfl rfl ?_
      refine j_iremN (n := 37) (c := (drawV (drawZ (drawZ c))) % 3) dX7_sufferDeed_36 rfl (by omega) (by omega) (by omega) rfl ?_
      refine j_istore_n (n := 38) (lv2 := [some (.ref B), some (.int (nI ((drawV (drawZ c)) % (c 0)))), some (.int (nI ((drawV (drawZ (drawZ c))) % 3)))]) dX7_sufferDeed_37 rfl rfl (by decide) rfl ?_
      refine j_aload_n (n := 39) dX7_sufferDeed_38 rfl rfl ?_
      refine j_getr (n := 42) (k := 0) (b := B + 1) dX7_sufferDeed_39 rfl fX7_11 (hT).c (hT).lo ((hT).hi (by omega)) (hT).r0 ?_
      refine j_iload_n (n := 43) dX7_sufferDeed_42 rfl rfl ?_
      refine jc_aald (n := 44) (t := 2) (L := 8) (i := (drawV (drawZ c)) % (c 0)) (b := B + 5 + 2 * ((drawV (drawZ c)) % (c 0))) dX7_sufferDeed_43 rfl ((hT).a1).1 (by decide) rfl ((hT).a1).2 (by omega) (by decide) (by have := (hT).lo; omega) ((hT).hi (by omega)) ((hT).e1 (by omega)) ?_
      refine j_iload_n (n := 45) dX7_sufferDeed_44 rfl rfl ?_
      refine j_bipush (n := 47) (v := nI 10) dX7_sufferDeed_45 rfl (by decide) ?_
      refine j_cVv (n := 50) dX7_sufferDeed_47 rfl sX7_119 (c_regretMore d G _ _ (B + 5 + 2 * ((drawV (drawZ c)) % (c 0))) ((hT).p (by omega)) ((drawV (drawZ (drawZ c))) % 3) 10 (c (10 + 5 * ((drawV (drawZ c)) % (c 0)) + (2 + ((drawV (drawZ (drawZ c))) % 3)))) (by omega) (by omega) (by omega) ((cm_r (ix_r1 (by omega) (by omega) rfl)).trans (congrArg nI (by repeat (first | rw [pu_eq] | rw [pu_ne _ _ (by omega)] | rw [drawZ_ne _ (by omega)]))))) (by omega) (by decide) rfl rfl (Nat.le_of_ble_eq_true rfl) ((hT).p (by omega)).2.2.1 ((hT).p (by omega)).1 ((hT).hi (by omega)) (by decide) (by decide) ?_
      refine j_mem (M2 := cm M B (pu (drawZ (drawZ (drawZ c))) (10 + 5 * ((drawV (drawZ c)) % (c 0)) + (2 + ((drawV (drawZ (drawZ c))) % 3))) (min 99 (c (10 + 5 * ((drawV (drawZ c)) % (c 0)) + (2 + ((drawV (drawZ (drawZ c))) % 3))) + 10)))) (cm_w (ix_r1 (by omega) (by omega) rfl) _) ?_
      exact j_rv dX7_sufferDeed_50 rfl (Nat.le_refl _) (Nat.le_refl _) (by unfold deedP; first | (rw [if_neg (by omega)]; done) | (rw [if_pos (by omega)]; unfold moreP; rw [drawZ_ne _ (by omega), drawZ_ne _ (by omega), drawZ_ne _ (by omega)])) rfl
theorem c_sufferPardon (d : Nat) (G : zG) (M : zMem) (X : zX) (B : Nat) (hT : kT X B) (c : Nat → Nat) (b D : Nat) (hw : wf c b D) (hb : b ≤ 1000000000) (hD : D ≤ 1000000000) : zCall G miX7_sufferPardon (d + 1) [.ref B] (zV (cm M B (pardonP c)) X) (cm M B c) X 0 0 := by
  refine zCall.of (lv := [some (.ref B)]) (by decide) (Nat.le_of_ble_eq_true rfl) rfl ?_
  have hwO := hw.1
  have hwl := hw.2.1
  have hwt := hw.2.2.1
  have h0 := hw.1.1
  have h8 := hw.2.1.1
  have h2 := hw.day
  have h3 := hw.2.2.2.2.1
  have h4 := hw.2.2.2.2.2.1
  have h5 := hw.2.2.2.2.2.2.1
  have h6 := hw.2.2.2.2.2.2.2.1
  have h7 := hw.2.2.2.2.2.2.2.2
  have hd2 : c 2 < 2147483648 := by omega
  have hv := drawV_lt c
  have hv1 := drawV_lt (drawZ c)
  have hv2 := drawV_lt (drawZ (drawZ c))
  refine j_aload_n (n := 1) dX7_sufferPardon_0 rfl rfl ?_
  refine j_cV (n := 4) dX7_sufferPardon_1 rfl sX7_73 (c_draw d G _ _ _ hT _) (by omega) (by decide) rfl rfl (Nat.le_of_ble_eq_true rfl) (hT).c (hT).lo ((hT).hi (by omega)) (by decide) (by decide) ?_
  refine j_bipush (n := 6) (v := nI 100) dX7_sufferPardon_4 rfl (by decide) ?_
  refine j_iremN (n := 7) (c := (drawV c) % 100) dX7_sufferPardon_6 rfl (by omega) (by omega) (by omega) rfl ?_
  refine j_aload_n (n := 8) dX7_sufferPardon_7 rfl rfl ?_
  refine jc_get (n := 11) (k := 8) (v := nI (c 7)) dX7_sufferPardon_8 rfl fX7_36 (hT).c (hT).lo ((hT).hi (by omega)) ((cm_r (ix_t rfl)).trans (congrArg nI (by repeat (first | rw [pu_eq] | rw [pu_ne _ _ (by omega)] | rw [drawZ_ne _ (by omega)])))) ?_
  refine j_icmp_geT (n := 14) (tg := 38) dX7_sufferPardon_11 rfl rfl (i_N (by omega)) (i_N (by omega)) (fun h101 => ?_) (fun h101 => ?_)
  · exact j_rv dX7_sufferPardon_38 rfl (Nat.le_refl _) (Nat.le_refl _) (by unfold pardonP; first | (rw [if_neg (by omega)]; done) | (rw [if_pos (by omega)]; unfold halvesP; (repeat rw [drawZ_ne _ (by omega)]))) rfl
  · refine j_aload_n (n := 15) dX7_sufferPardon_14 rfl rfl ?_
    refine jc_get (n := 18) (k := 1) (v := nI (c 0)) dX7_sufferPardon_15 rfl fX7_44 (hT).c (hT).lo ((hT).hi (by omega)) ((cm_r (ix_t rfl)).trans (congrArg nI (by repeat (first | rw [pu_eq] | rw [pu_ne _ _ (by omega)] | rw [drawZ_ne _ (by omega)])))) ?_
    refine j_if_leM (n := 21) (tg := 38) dX7_sufferPardon_18 rfl rfl (by omega) (fun h102 => ?_) (fun h102 => ?_)
    · exact j_rv dX7_sufferPardon_38 rfl (Nat.le_refl _) (Nat.le_refl _) (by unfold pardonP; first | (rw [if_neg (by omega)]; done) | (rw [if_pos (by omega)]; unfold halvesP; (repeat rw [drawZ_ne _ (by omega)]))) rfl
    · have hm : drawV (drawZ c) % c 0 < c 0 := Nat.mod_lt _ (by omega)
      have hrr := hw.1.reg hm (j := drawV (drawZ (drawZ c)) % 3) (by omega)
      have hr4 := hw.1.2 _ hm
      refine j_aload_n (n := 22) dX7_sufferPardon_21 rfl rfl ?_
      refine j_getr (n := 25) (k := 0) (b := B + 1) dX7_sufferPardon_22 rfl fX7_11 (hT).c (hT).lo ((hT).hi (by omega)) (hT).r0 ?_
      refine j_aload_n (n := 26) dX7_sufferPardon_25 rfl rfl ?_
      refine j_cV (n := 29) dX7_sufferPardon_26 rfl sX7_73 (c_draw d G _ _ _ hT _) (by omega) (by decide) rfl rfl (Nat.le_of_ble_eq_true rfl) (hT).c (hT).lo ((hT).hi (by omega)) (by decide) (by decide) ?_
      refine j_aload_n (n := 30) dX7_sufferPardon_29 rfl rfl ?_
      refine jc_get (n := 33) (k := 1) (v := nI (c 0)) dX7_sufferPardon_30 rfl fX7_44 (hT).c (hT).lo ((hT).hi (by omega)) ((cm_r (ix_t rfl)).trans (congrArg nI (by repeat (first | rw [pu_eq] | rw [pu_ne _ _ (by omega)] | rw [drawZ_ne _ (by omega)])))) ?_
      refine j_iremN (n := 34) (c := (drawV (drawZ c)) % (c 0)) dX7_sufferPardon_33 rfl (by omega) (by omega) (by omega) rfl ?_
      refine jc_aald (n := 35) (t := 2) (L := 8) (i := (drawV (drawZ c)) % (c 0)) (b := B + 5 + 2 * ((drawV (drawZ c)) % (c 0))) dX7_sufferPardon_34 rfl ((hT).a1).1 (by decide) rfl ((hT).a1).2 (by omega) (by decide) (by have := (hT).lo; omega) ((hT).hi (by omega)) ((hT).e1 (by omega)) ?_
      refine j_cVv (n := 38) dX7_sufferPardon_35 rfl sX7_152 (c_regretHalf d G _ _ (B + 5 + 2 * ((drawV (drawZ c)) % (c 0))) ((hT).p (by omega)) (c (10 + 5 * ((drawV (drawZ c)) % (c 0)) + 2)) (c (10 + 5 * ((drawV (drawZ c)) % (c 0)) + 3)) (c (10 + 5 * ((drawV (drawZ c)) % (c 0)) + 4)) ((cm_r (ix_r1 (by omega) (by omega) rfl)).trans (congrArg nI (by repeat (first | rw [pu_eq] | rw [pu_ne _ _ (by omega)] | rw [drawZ_ne _ (by omega)])))) ((cm_r (ix_r1 (by omega) (by omega) rfl)).trans (congrArg nI (by repeat (first | rw [pu_eq] | rw [pu_ne _ _ (by omega)] | rw [drawZ_ne _ (by omega)])))) ((cm_r (ix_r1 (by omega) (by omega) rfl)).trans (congrArg nI (by repeat (first | rw [pu_eq] | rw [pu_ne _ _ (by omega)] | rw [drawZ_ne _ (by omega)])))) (by omega) (by omega) (by omega)) (by omega) (by decide) rfl rfl (Nat.le_of_ble_eq_true rfl) ((hT).p (by omega)).2.2.1 ((hT).p (by omega)).1 ((hT).hi (by omega)) (by decide) (by decide) ?_
      refine j_mem (M2 := cm M B (pu (pu (pu (drawZ (drawZ c)) (10 + 5 * ((drawV (drawZ c)) % (c 0)) + 2) ((c (10 + 5 * ((drawV (drawZ c)) % (c 0)) + 2)) / 2)) (10 + 5 * ((drawV (drawZ c)) % (c 0)) + 3) ((c (10 + 5 * ((drawV (drawZ c)) % (c 0)) + 3)) / 2)) (10 + 5 * ((drawV (drawZ c)) % (c 0)) + 4) ((c (10 + 5 * ((drawV (drawZ c)) % (c 0)) + 4)) / 2))) (cm_w2 (cm_w2 (cm_w (ix_r1 (by omega) (by decide) rfl) _) (ix_r1 (by omega) (by decide) rfl) _) (ix_r1 (by omega) (by decide) rfl) _) ?_
      exact j_rv dX7_sufferPardon_38 rfl (Nat.le_refl _) (Nat.le_refl _) (by unfold pardonP; first | (rw [if_neg (by omega)]; done) | (rw [if_pos (by omega)]; unfold halvesP; (repeat rw [drawZ_ne _ (by omega)]))) rfl
theorem c_liveDay (d : Nat) (G : zG) (M : zMem) (X : zX) (B : Nat) (hT : kT X B) (c : Nat → Nat) (hx : tx M X B c) (b D : Nat) (hw : wf c b D) (hb : b ≤ 900000000) (hD : D ≤ 1000000000) : zCall G miX7_liveDay (d + 5) [.ref B] (zVr (fun M1 X1 => X1 = X ∧ ∃ M2, scT M M2 ∧ M1 = cm M2 B (dayP c))) (cm M B c) X 0 0 := by
  refine zCall.of (lv := [some (.ref B), none]) (by decide) (Nat.le_of_ble_eq_true rfl) rfl ?_
  have hwO := hw.1
  have hwl := hw.2.1
  have hwt := hw.2.2.1
  have h0 := hw.1.1
  have h8 := hw.2.1.1
  have h2 := hw.day
  have h3 := hw.2.2.2.2.1
  have h4 := hw.2.2.2.2.2.1
  have h5 := hw.2.2.2.2.2.2.1
  have h6 := hw.2.2.2.2.2.2.2.1
  have h7 := hw.2.2.2.2.2.2.2.2
  have hd2 : c 2 < 2147483648 := by omega
  refine j_iconst (n := 1) (v := nI 0) dX7_liveDay_0 rfl rfl ?_
  refine j_istore_n (n := 2) (lv2 := [some (.ref B), some (.int (nI 0))]) dX7_liveDay_1 rfl rfl (by decide) rfl ?_
  have loop : ∀ (j k : Nat) (M1 : zMem), c 0 - k = j → k ≤ c 0 → scT M M1 → zAt G miX7_liveDay (zRm (d + 5) 0 0) (zQ G (zVr (fun M1 X1 => X1 = X ∧ ∃ M2, scT M M2 ∧ M1 = cm M2 B (dayP c))) 0 0) 2 [some (.ref B), some (.int (nI k))] [] (cm M1 B (peopleP c k)) X (0, 0) := by
    intro j
    induction j using Nat.strongRecOn with
    | ind j ih =>
      intro k M1 hj hk0 hsc
      obtain ⟨hw1, kq⟩ := wf_people hw k hk0
      have hwk := wf_mono hw1 (b' := b + 8) (D' := D) (by omega) (Nat.le_refl _)
      have hxk := (hx.sc hsc).keep kq
      refine j_iload_n (n := 3) dX7_liveDay_2 rfl rfl ?_
      refine j_aload_n (n := 4) dX7_liveDay_3 rfl rfl ?_
      refine jc_get (n := 7) (k := 1) (v := nI (c 0)) dX7_liveDay_4 rfl fX7_44 (hT).c (hT).lo ((hT).hi (by omega)) ((cm_r (ix_t rfl)).trans (congrArg nI kq.n0)) ?_
      refine j_icmp_geT (n := 10) (tg := 49) dX7_liveDay_7 rfl rfl (i_N (by omega)) (i_N (by omega)) (fun h101 => ?_) (fun h101 => ?_)
      · have ek : k = c 0 := by omega
        rw [ek] at hw1 kq hxk hwk ⊢
        obtain ⟨d1, kd1⟩ := wf_deed hwk
        obtain ⟨p1, kp1⟩ := wf_pardon d1
        have hq8 := p1.2.1.1
        have hq2 := p1.day
        have hmd := (wf_mend p1 _ hq8).2
        refine j_aload_n (n := 50) dX7_liveDay_49 rfl rfl ?_
        refine j_cVv (n := 53) dX7_liveDay_50 rfl sX7_92 (c_sufferDeed (d + 2) G _ _ _ hT _ _ _ hwk (by omega) hD) (by omega) (by decide) rfl rfl (Nat.le_of_ble_eq_true rfl) (hT).c (hT).lo ((hT).hi (by omega)) (by decide) (by decide) ?_
        refine j_aload_n (n := 54) dX7_liveDay_53 rfl rfl ?_
        refine j_cVv (n := 57) dX7_liveDay_54 rfl sX7_95 (c_sufferPardon (d + 3) G _ _ _ hT _ _ _ d1 (by omega) hD) (by omega) (by decide) rfl rfl (Nat.le_of_ble_eq_true rfl) (hT).c (hT).lo ((hT).hi (by omega)) (by decide) (by decide) ?_
        refine j_aload_n (n := 58) dX7_liveDay_57 rfl rfl ?_
        refine jc_get (n := 61) (k := 12) (v := nI ((pardonP (deedP (peopleP c (c 0)))) 2)) dX7_liveDay_58 rfl fX7_69 (hT).c (hT).lo ((hT).hi (by omega)) (cm_r (ix_t rfl)) ?_
        refine j_iconst (n := 62) (v := nI 5) dX7_liveDay_61 rfl rfl ?_
        refine j_iremN (n := 63) (c := ((pardonP (deedP (peopleP c (c 0)))) 2) % 5) dX7_liveDay_62 rfl (by omega) (by omega) (by omega) rfl ?_
        refine j_iconst (n := 64) (v := nI 4) dX7_liveDay_63 rfl rfl ?_
        refine j_icmp_neT (n := 67) (tg := 71) dX7_liveDay_64 rfl rfl (i_N (by omega)) (i_N (by omega)) (fun h102 => ?_) (fun h102 => ?_)
        · refine j_aload_n (n := 72) dX7_liveDay_71 rfl rfl ?_
          refine j_dup (n := 73) dX7_liveDay_72 rfl rfl ?_
          refine jc_get (n := 76) (k := 12) (v := nI ((pardonP (deedP (peopleP c (c 0)))) 2)) dX7_liveDay_73 rfl fX7_69 (hT).c (hT).lo ((hT).hi (by omega)) (cm_r (ix_t rfl)) ?_
          refine j_iconst (n := 77) (v := nI 1) dX7_liveDay_76 rfl rfl ?_
          refine j_iaddN (n := 78) (c := (pardonP (deedP (peopleP c (c 0)))) 2 + 1) dX7_liveDay_77 rfl rfl ?_
          refine jc_put (n := 81) (k := 12) (x := nI ((pardonP (deedP (peopleP c (c 0)))) 2 + 1)) (M2 := cm M1 B (pu (pardonP (deedP (peopleP c (c 0)))) 2 ((pardonP (deedP (peopleP c (c 0)))) 2 + 1))) dX7_liveDay_78 rfl pX7_69 (fun h => by cases h) rfl rfl (hT).c (hT).lo ((hT).hi (by omega)) (cm_w (ix_t rfl) _) ?_
          exact j_vret dX7_liveDay_81 rfl (Nat.le_refl _) (Nat.le_refl _) ⟨rfl, rfl, _, hsc, congrArg (cm M1 B) (by rw [dayP_eq]; unfold restP; first | (rw [if_neg (by omega)]; done) | (rw [if_pos (by omega), hmd.n2]))⟩
        · refine j_aload_n (n := 68) dX7_liveDay_67 rfl rfl ?_
          refine j_cVv (n := 71) dX7_liveDay_68 rfl sX7_98 (c_mendAll (d + 4) G _ _ _ hT _ (by omega)) (by omega) (by decide) rfl rfl (Nat.le_of_ble_eq_true rfl) (hT).c (hT).lo ((hT).hi (by omega)) (by decide) (by decide) ?_
          refine j_aload_n (n := 72) dX7_liveDay_71 rfl rfl ?_
          refine j_dup (n := 73) dX7_liveDay_72 rfl rfl ?_
          refine jc_get (n := 76) (k := 12) (v := nI ((mendP (pardonP (deedP (peopleP c (c 0)))) ((pardonP (deedP (peopleP c (c 0)))) 8)) 2)) dX7_liveDay_73 rfl fX7_69 (hT).c (hT).lo ((hT).hi (by omega)) (cm_r (ix_t rfl)) ?_
          refine j_iconst (n := 77) (v := nI 1) dX7_liveDay_76 rfl rfl ?_
          refine j_iaddN (n := 78) (c := (mendP (pardonP (deedP (peopleP c (c 0)))) ((pardonP (deedP (peopleP c (c 0)))) 8)) 2 + 1) dX7_liveDay_77 rfl rfl ?_
          refine jc_put (n := 81) (k := 12) (x := nI ((mendP (pardonP (deedP (peopleP c (c 0)))) ((pardonP (deedP (peopleP c (c 0)))) 8)) 2 + 1)) (M2 := cm M1 B (pu (mendP (pardonP (deedP (peopleP c (c 0)))) ((pardonP (deedP (peopleP c (c 0)))) 8)) 2 ((mendP (pardonP (deedP (peopleP c (c 0)))) ((pardonP (deedP (peopleP c (c 0)))) 8)) 2 + 1))) dX7_liveDay_78 rfl pX7_69 (fun h => by cases h) rfl rfl (hT).c (hT).lo ((hT).hi (by omega)) (cm_w (ix_t rfl) _) ?_
          exact j_vret dX7_liveDay_81 rfl (Nat.le_refl _) (Nat.le_refl _) ⟨rfl, rfl, _, hsc, congrArg (cm M1 B) (by rw [dayP_eq]; unfold restP; first | (rw [if_neg (by omega)]; done) | (rw [if_pos (by omega), hmd.n2]))⟩
      · have hk1 : k < peopleP c k 0 := by rw [kq.n0]; omega
        have ho := hwk.1.2 k hk1
        refine j_aload_n (n := 11) dX7_liveDay_10 rfl rfl ?_
        refine j_getr (n := 14) (k := 0) (b := B + 1) dX7_liveDay_11 rfl fX7_11 (hT).c (hT).lo ((hT).hi (by omega)) (hT).r0 ?_
        refine j_iload_n (n := 15) dX7_liveDay_14 rfl rfl ?_
        refine jc_aald (n := 16) (t := 2) (L := 8) (i := k) (b := B + 5 + 2 * k) dX7_liveDay_15 rfl ((hT).a1).1 (by decide) rfl ((hT).a1).2 (by omega) (by decide) (by have := (hT).lo; omega) ((hT).hi (by omega)) ((hT).e1 (by omega)) ?_
        refine jc_get (n := 19) (k := 0) (v := nI ((peopleP c k) (10 + 5 * k + 0))) dX7_liveDay_16 rfl fX7_83 ((hT).p (by omega)).2.2.1 ((hT).p (by omega)).1 ((hT).hi (by omega)) (cm_r (ix_p (by omega) (by decide) rfl)) ?_
        refine j_iconst (n := 20) (v := nI 5) dX7_liveDay_19 rfl rfl ?_
        refine j_icmp_neT (n := 23) (tg := 33) dX7_liveDay_20 rfl rfl (i_N (by omega)) (i_N (by omega)) (fun h103 => ?_) (fun h103 => ?_)
        · refine j_aload_n (n := 34) dX7_liveDay_33 rfl rfl ?_
          refine j_aload_n (n := 35) dX7_liveDay_34 rfl rfl ?_
          refine j_getr (n := 38) (k := 0) (b := B + 1) dX7_liveDay_35 rfl fX7_11 (hT).c (hT).lo ((hT).hi (by omega)) (hT).r0 ?_
          refine j_iload_n (n := 39) dX7_liveDay_38 rfl rfl ?_
          refine jc_aald (n := 40) (t := 2) (L := 8) (i := k) (b := B + 5 + 2 * k) dX7_liveDay_39 rfl ((hT).a1).1 (by decide) rfl ((hT).a1).2 (by omega) (by decide) (by have := (hT).lo; omega) ((hT).hi (by omega)) ((hT).e1 (by omega)) ?_
          refine j_cVvr (n := 43) dX7_liveDay_40 rfl sX7_89 (c_goOn d G _ _ _ hT _ hxk _ _ hwk (by omega) hD k hk1) (by omega) (by decide) rfl rfl (Nat.le_of_ble_eq_true rfl) (hT).c (hT).lo ((hT).hi (by omega)) (by decide) (by decide) (fun N104 Y104 hh104 => ?_)
          obtain ⟨e2104, M_104, hs104, e3104⟩ := hh104
          rw [e2104, e3104]
          refine j_iinc (n := 46) (y := nI (k + 1)) (lv2 := [some (.ref B), some (.int (nI (k + 1)))]) dX7_liveDay_43 rfl rfl (by decide) rfl (show nI k + nI 1 = nI (k + 1) by rw [nI_add]) rfl ?_
          refine j_goto (n := 2) dX7_liveDay_46 rfl ?_
          refine j_mem (M2 := cm M_104 B (peopleP c (k + 1))) (by rw [peopleP, personP, if_neg (by omega)]) ?_
          exact ih _ (by omega) (k + 1) _ rfl (by omega) ((hsc).tr hs104)
        · refine j_aload_n (n := 24) dX7_liveDay_23 rfl rfl ?_
          refine j_aload_n (n := 25) dX7_liveDay_24 rfl rfl ?_
          refine j_getr (n := 28) (k := 0) (b := B + 1) dX7_liveDay_25 rfl fX7_11 (hT).c (hT).lo ((hT).hi (by omega)) (hT).r0 ?_
          refine j_iload_n (n := 29) dX7_liveDay_28 rfl rfl ?_
          refine jc_aald (n := 30) (t := 2) (L := 8) (i := k) (b := B + 5 + 2 * k) dX7_liveDay_29 rfl ((hT).a1).1 (by decide) rfl ((hT).a1).2 (by omega) (by decide) (by have := (hT).lo; omega) ((hT).hi (by omega)) ((hT).e1 (by omega)) ?_
          refine j_cVv (n := 33) dX7_liveDay_30 rfl sX7_86 (c_tryFalsely (d + 3) G _ _ _ hT _ _ _ hwk (by omega) hD k (by omega)) (by omega) (by decide) rfl rfl (Nat.le_of_ble_eq_true rfl) (hT).c (hT).lo ((hT).hi (by omega)) (by decide) (by decide) ?_
          refine j_aload_n (n := 34) dX7_liveDay_33 rfl rfl ?_
          refine j_aload_n (n := 35) dX7_liveDay_34 rfl rfl ?_
          refine j_getr (n := 38) (k := 0) (b := B + 1) dX7_liveDay_35 rfl fX7_11 (hT).c (hT).lo ((hT).hi (by omega)) (hT).r0 ?_
          refine j_iload_n (n := 39) dX7_liveDay_38 rfl rfl ?_
          refine jc_aald (n := 40) (t := 2) (L := 8) (i := k) (b := B + 5 + 2 * k) dX7_liveDay_39 rfl ((hT).a1).1 (by decide) rfl ((hT).a1).2 (by omega) (by decide) (by have := (hT).lo; omega) ((hT).hi (by omega)) ((hT).e1 (by omega)) ?_
          refine j_cVvr (n := 43) dX7_liveDay_40 rfl sX7_89 (c_goOn d G _ _ _ hT _ (hxk.keep (keep_tries k hwk.2.1.1)) _ _ (wf_tries hwk k).1 (by omega) hD k (by rw [(keep_tries k hwk.2.1.1).n0]; exact hk1)) (by omega) (by decide) rfl rfl (Nat.le_of_ble_eq_true rfl) (hT).c (hT).lo ((hT).hi (by omega)) (by decide) (by decide) (fun N105 Y105 hh105 => ?_)
          obtain ⟨e2105, M_105, hs105, e3105⟩ := hh105
          rw [e2105, e3105]
          refine j_iinc (n := 46) (y := nI (k + 1)) (lv2 := [some (.ref B), some (.int (nI (k + 1)))]) dX7_liveDay_43 rfl rfl (by decide) rfl (show nI k + nI 1 = nI (k + 1) by rw [nI_add]) rfl ?_
          refine j_goto (n := 2) dX7_liveDay_46 rfl ?_
          refine j_mem (M2 := cm M_105 B (peopleP c (k + 1))) (by rw [peopleP, personP, if_pos (by omega)]) ?_
          exact ih _ (by omega) (k + 1) _ rfl (by omega) ((hsc).tr hs105)
  exact loop _ 0 M rfl (Nat.zero_le _) (scT.rf M)
theorem day_1 {p : Nat → Nat} {b D : Nat} (h : wf p b D) : dayP p 1 = p 1 := by
  obtain ⟨w1, k1⟩ := wf_people h (p 0) (Nat.le_refl _)
  obtain ⟨w2, k2⟩ := wf_deed w1
  obtain ⟨w3, k3⟩ := wf_pardon w2
  rw [dayP_eq]
  unfold restP
  rw [pu_ne _ _ (by omega)]
  have e := ((k1.tr k2).tr k3).n1
  split
  · rw [(wf_mend w3 _ w3.2.1.1).2.n1]; exact e
  · exact e
theorem days_1 {p : Nat → Nat} {b D : Nat} (h : wf p b D) : ∀ n, daysP p n 1 = p 1
  | 0 => rfl
  | n + 1 => by rw [daysP, day_1 (wf_days h n), days_1 h n]
theorem tx.days {M M1 : zMem} {X : zX} {B : Nat} {c : Nat → Nat} {b D : Nat} (h : tx M X B c) (hs : scT M M1) (hw : wf c b D) (n : Nat) : tx M1 X B (daysP c n) := (h.sc hs).same (days_1 hw n) (fun i hi => days_hi hw hi n)
