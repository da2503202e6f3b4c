-- CLASS J: by program (wip/whole/gen/c10.py)
theorem pour_n {p : Nat → Nat} {row : Nat → Int32} {k : Nat} (hpk : pourP p row k (10 + 5 * k + 2) = p (10 + 5 * k + 2)) (h : (row k).toInt = -1000000005) : pourP p row (k + 1) = pourP p row k ∧ pourC p row (k + 1) = pourC p row k := by
  have hv : pvP p row k = p (10 + 5 * k + 2) := by unfold pvP; rw [if_pos h]
  exact ⟨by rw [pourP, hv, pu_same hpk], by rw [pourC, if_pos hv]; rfl⟩
theorem pour_e {p : Nat → Nat} {row : Nat → Int32} {k : Nat} (hpk : pourP p row k (10 + 5 * k + 2) = p (10 + 5 * k + 2)) (h : ¬ (row k).toInt = -1000000005) (he : p (10 + 5 * k + 2) = min 99 (row k).toInt.toNat) : pourP p row (k + 1) = pourP p row k ∧ pourC p row (k + 1) = pourC p row k := by
  have hv : pvP p row k = p (10 + 5 * k + 2) := by unfold pvP; rw [if_neg h, he]
  exact ⟨by rw [pourP, hv, pu_same hpk], by rw [pourC, if_pos hv]; rfl⟩
theorem pour_w {p : Nat → Nat} {row : Nat → Int32} {k : Nat} (h : ¬ (row k).toInt = -1000000005) (he : ¬ p (10 + 5 * k + 2) = min 99 (row k).toInt.toNat) : pourP p row (k + 1) = pu (pourP p row k) (10 + 5 * k + 2) (min 99 (row k).toInt.toNat) ∧ pourC p row (k + 1) = pourC p row k + 1 := by
  have hv : pvP p row k = min 99 (row k).toInt.toNat := by unfold pvP; rw [if_neg h]
  exact ⟨by rw [pourP, hv], by rw [pourC, if_neg (by omega)]⟩
theorem k_pour (d : Nat) (G : zG) (M : zMem) (X : zX) (hr : kR X) (c : Nat → Nat) (hsc : wfSC M) (hw : wfO c) (sheet : Int32) : zCall G miX9_pour (d + 2) [.ref 16, .int sheet] (zI (r_pour c sheet (M (127 + 2 * tN sheet) 0) (tN (M (127 + 2 * tN sheet) 1)) (M (127 + 2 * tN sheet + 1))) (cm M 17 (q_pour c sheet (M (127 + 2 * tN sheet) 0) (tN (M (127 + 2 * tN sheet) 1)) (M (127 + 2 * tN sheet + 1)))) X) (cm M 17 c) X 0 0 := by
  refine zCall.of (lv := [some (.ref 16), some (.int sheet), none, none, none, none, none]) (by decide) (Nat.le_of_ble_eq_true rfl) rfl ?_
  have hw0 := hw.1
  refine j_iload_n (n := 1) dX9_pour_0 rfl rfl ?_
  refine j_cS (n := 4) dX9_pour_1 rfl sX9_230 (k_isSheet (d + 1) G _ _ _) (by omega) (by decide) rfl rfl (Nat.le_of_ble_eq_true rfl) (by decide) (by decide) ?_
  refine j_if_neB (n := 7) (tg := 10) dX9_pour_4 rfl rfl (fun h101 => ?_) (fun h101 => ?_)
  · obtain ⟨q, hq_, rfl⟩ := i_of (x := sheet) (n := 4) (by omega) (by omega)
    have eq : tN (nI q) = q := tN_nI (by omega)
    have iq : (nI q).toInt = q := i_N (by omega)
    have hsq := hsc q hq_
    refine j_aload_n (n := 11) dX9_pour_10 rfl rfl ?_
    refine j_getr (n := 14) (k := 8) (b := 123) dX9_pour_11 rfl fX9_42 (hr).c (by decide) ((hr).hi (by decide)) (hr.f (k := 8) rfl (by decide)) ?_
    refine j_iload_n (n := 15) dX9_pour_14 rfl rfl ?_
    refine jc_aald (n := 16) (t := 5) (L := 4) (i := q) (b := 127 + 2 * q) dX9_pour_15 rfl (hr.a (a := 123) rfl (by decide) rfl).1 (by decide) rfl (hr.a (a := 123) rfl (by decide) rfl).2 (by omega) (by decide) (by decide) (hr.hi (by decide)) (hr.she (by omega)) ?_
    refine j_astore_n (n := 17) (lv2 := [some (.ref 16), some (.int (nI q)), some (.ref (127 + 2 * q)), none, none, none, none]) dX9_pour_16 rfl rfl (by decide) rfl ?_
    refine j_aload_n (n := 18) dX9_pour_17 rfl rfl ?_
    refine j_cV (n := 21) dX9_pour_18 rfl sX9_233 (c_isMissing (d + 1) G _ _ (127 + 2 * q) (hr.sh (i := q) (by omega)) _ ((congrFun (cm_o (ix_n (by omega))) _).trans rfl)) (by omega) (by decide) rfl rfl (Nat.le_of_ble_eq_true rfl) ((hr.sh (i := q) (by omega))).2.2.1 ((hr.sh (i := q) (by omega))).1 (Nat.lt_of_succ_lt ((hr.sh (i := q) (by omega))).2.1) (by decide) (by decide) ?_
    refine j_if_eqB (n := 24) (tg := 27) dX9_pour_21 rfl rfl (fun h102 => ?_) (fun h102 => ?_)
    · refine j_iconst (n := 28) (v := nI 0) dX9_pour_27 rfl rfl ?_
      refine j_istore_n (n := 29) (lv2 := [some (.ref 16), some (.int (nI q)), some (.ref (127 + 2 * q)), some (.int (nI 0)), none, none, none]) dX9_pour_28 rfl rfl (by decide) rfl ?_
      refine j_aload_n (n := 30) dX9_pour_29 rfl rfl ?_
      refine j_getr (n := 33) (k := 0) (b := 17) dX9_pour_30 rfl fX9_10 (hr).c (by decide) ((hr).hi (by decide)) (hr.f (k := 0) rfl (by decide)) ?_
      refine jc_get (n := 36) (k := 1) (v := nI (c 0)) dX9_pour_33 rfl fX9_72 (hr.1.1).c (hr.1.1).lo ((hr.1.1).hi (by omega)) (cm_r (ix_t rfl)) ?_
      refine j_aload_n (n := 37) dX9_pour_36 rfl rfl ?_
      refine jc_get (n := 40) (k := 1) (v := nI (tN (M (127 + 2 * q) 1))) dX9_pour_37 rfl fX9_297 ((hr.sh (i := q) (by omega))).2.2.1 ((hr.sh (i := q) (by omega))).1 (Nat.lt_of_succ_lt ((hr.sh (i := q) (by omega))).2.1) ((show _ = M (127 + 2 * q) 1 from ((congrFun (cm_o (ix_n (by omega))) _).trans rfl)).trans (nI_tN _).symm) ?_
      refine j_mmin (n := 43) dX9_pour_40 rfl sX9_165 (by omega) (Nat.le_of_ble_eq_true rfl) (by decide) (by decide) ?_
      refine j_top (y := nI (min (c 0) (tN (M (127 + 2 * q) 1)))) (minI_N (by omega) (by omega)) ?_
      refine j_istore (n := 45) (lv2 := [some (.ref 16), some (.int (nI q)), some (.ref (127 + 2 * q)), some (.int (nI 0)), some (.int (nI (min (c 0) (tN (M (127 + 2 * q) 1))))), none, none]) dX9_pour_43 rfl rfl (by decide) rfl ?_
      refine j_iconst (n := 46) (v := nI 0) dX9_pour_45 rfl rfl ?_
      refine j_istore (n := 48) (lv2 := [some (.ref 16), some (.int (nI q)), some (.ref (127 + 2 * q)), some (.int (nI 0)), some (.int (nI (min (c 0) (tN (M (127 + 2 * q) 1))))), some (.int (nI 0)), none]) dX9_pour_46 rfl rfl (by decide) rfl ?_
      have loop : ∀ (j k : Nat), min (c 0) (tN (M (127 + 2 * q) 1)) - k = j → k ≤ min (c 0) (tN (M (127 + 2 * q) 1)) → zAt G miX9_pour (zRm (d + 2) 0 0) (zQ G (zI (r_pour c (nI q) (M (127 + 2 * tN (nI q)) 0) (tN (M (127 + 2 * tN (nI q)) 1)) (M (127 + 2 * tN (nI q) + 1))) (cm M 17 (q_pour c (nI q) (M (127 + 2 * tN (nI q)) 0) (tN (M (127 + 2 * tN (nI q)) 1)) (M (127 + 2 * tN (nI q) + 1)))) X) 0 0) 48 [some (.ref 16), some (.int (nI q)), some (.ref (127 + 2 * q)), some (.int (nI (pourC c (M (127 + 2 * q + 1)) k))), some (.int (nI (min (c 0) (tN (M (127 + 2 * q) 1))))), some (.int (nI k)), none] [] (cm M 17 (pourP c (M (127 + 2 * q + 1)) k)) X (0, 0) := by
        intro j
        induction j using Nat.strongRecOn with
        | ind j ih =>
          intro k hj hk0
          have hp0 : pourP c (M (127 + 2 * q + 1)) k 0 = c 0 := pourP_ne c _ k (fun j _ => by omega)
          have hpk : pourP c (M (127 + 2 * q + 1)) k (10 + 5 * k + 2) = c (10 + 5 * k + 2) := pourP_ne c _ k (fun j hj => by omega)
          refine j_iload (n := 50) dX9_pour_48 rfl rfl ?_
          refine j_iload (n := 52) dX9_pour_50 rfl rfl ?_
          refine j_icmp_geT (n := 55) (tg := 124) dX9_pour_52 rfl rfl (i_N (by omega)) (i_N (by omega)) (fun h103 => ?_) (fun h103 => ?_)
          · refine j_iload_n (n := 125) dX9_pour_124 rfl rfl ?_
            exact j_ri dX9_pour_125 rfl (Nat.le_refl _) (Nat.le_refl _) (by unfold r_pour; rw [eq, if_neg (by omega), if_neg (by omega), show k = min (tN (M (127 + 2 * q) 1)) (c 0) by omega]) (by unfold q_pour; rw [eq, if_neg (by omega), if_neg (by omega), show k = min (tN (M (127 + 2 * q) 1)) (c 0) by omega]) rfl
          · have ho := hw.2 k (by omega)
            refine j_aload_n (n := 56) dX9_pour_55 rfl rfl ?_
            refine j_iload (n := 58) dX9_pour_56 rfl rfl ?_
            refine j_cV (n := 61) dX9_pour_58 rfl sX9_300 (c_isNumber (d + 1) G _ _ (127 + 2 * q) (hr.sh (i := q) (by omega)) k (by omega) _ (by show _ = _; exact ((congrFun (cm_o (ix_n (by omega))) _).trans rfl))) (by omega) (by decide) rfl rfl (Nat.le_of_ble_eq_true rfl) ((hr.sh (i := q) (by omega))).2.2.1 ((hr.sh (i := q) (by omega))).1 (Nat.lt_of_succ_lt ((hr.sh (i := q) (by omega))).2.1) (by decide) (by decide) ?_
            refine j_if_eqB (n := 64) (tg := 118) dX9_pour_61 rfl rfl (fun h104 => ?_) (fun h104 => ?_)
            · refine j_iinc (n := 121) (y := nI (k + 1)) (lv2 := [some (.ref 16), some (.int (nI q)), some (.ref (127 + 2 * q)), some (.int (nI (pourC c (M (127 + 2 * q + 1)) k))), some (.int (nI (min (c 0) (tN (M (127 + 2 * q) 1))))), some (.int (nI (k + 1))), none]) dX9_pour_118 rfl rfl (by decide) rfl (show nI k + nI 1 = nI (k + 1) by rw [nI_add]) rfl ?_
              refine j_goto (n := 48) dX9_pour_121 rfl ?_
              obtain ⟨eP, eC⟩ : pourP c (M (127 + 2 * q + 1)) (k + 1) = pourP c (M (127 + 2 * q + 1)) k ∧ pourC c (M (127 + 2 * q + 1)) (k + 1) = pourC c (M (127 + 2 * q + 1)) k := by first | exact pour_w (by omega) (by omega) | exact pour_e hpk (by omega) (by omega) | exact pour_n hpk (by omega)
              refine j_mem (M2 := cm M 17 (pourP c (M (127 + 2 * q + 1)) (k + 1))) (by rw [eP]) ?_
              refine j_lv (lv2 := [some (.ref 16), some (.int (nI q)), some (.ref (127 + 2 * q)), some (.int (nI (pourC c (M (127 + 2 * q + 1)) (k + 1)))), some (.int (nI (min (c 0) (tN (M (127 + 2 * q) 1))))), some (.int (nI (k + 1))), none]) (by rw [eC]) ?_
              refine j_wk (lv2 := [some (.ref 16), some (.int (nI q)), some (.ref (127 + 2 * q)), some (.int (nI (pourC c (M (127 + 2 * q + 1)) (k + 1)))), some (.int (nI (min (c 0) (tN (M (127 + 2 * q) 1))))), some (.int (nI (k + 1))), none]) ⟨rfl, rfl, rfl, rfl, rfl, rfl, trivial⟩ ?_
              exact ih _ (by omega) (k + 1) rfl (by omega)
            · refine j_aload_n (n := 65) dX9_pour_64 rfl rfl ?_
              refine j_getr (n := 68) (k := 2) (b := 127 + 2 * q + 1) dX9_pour_65 rfl fX9_292 ((hr.sh (i := q) (by omega))).2.2.1 ((hr.sh (i := q) (by omega))).1 (Nat.lt_of_succ_lt ((hr.sh (i := q) (by omega))).2.1) ((hr.sh (i := q) (by omega))).2.2.2.1 ?_
              refine j_iload (n := 70) dX9_pour_68 rfl rfl ?_
              refine j_ialdN (n := 71) (L := 24) (a := 127 + 2 * q + 1) (i := k) (v := M (127 + 2 * q + 1) k) dX9_pour_70 rfl ((hr.sh (i := q) (by omega))).2.2.2.2.1 ((hr.sh (i := q) (by omega))).2.2.2.2.2 (by omega) (by decide) (Nat.le_succ_of_le ((hr.sh (i := q) (by omega))).1) ((hr.sh (i := q) (by omega))).2.1 ((congrFun (cm_o (ix_n (by omega))) _).trans rfl) ?_
              refine j_bipush (n := 73) (v := nI 99) dX9_pour_71 rfl (by decide) ?_
              refine j_cS (n := 76) dX9_pour_73 rfl sX9_303 (c_held d G _ _ _) (by omega) (by decide) rfl rfl (Nat.le_of_ble_eq_true rfl) (by decide) (by decide) ?_
              refine j_istore (n := 78) (lv2 := [some (.ref 16), some (.int (nI q)), some (.ref (127 + 2 * q)), some (.int (nI (pourC c (M (127 + 2 * q + 1)) k))), some (.int (nI (min (c 0) (tN (M (127 + 2 * q) 1))))), some (.int (nI k)), some (.int (nI (min 99 (M (127 + 2 * q + 1) k).toInt.toNat)))]) dX9_pour_76 rfl rfl (by decide) rfl ?_
              refine j_aload_n (n := 79) dX9_pour_78 rfl rfl ?_
              refine j_getr (n := 82) (k := 0) (b := 17) dX9_pour_79 rfl fX9_10 (hr).c (by decide) ((hr).hi (by decide)) (hr.f (k := 0) rfl (by decide)) ?_
              refine j_getr (n := 85) (k := 0) (b := 18) dX9_pour_82 rfl fX9_77 (hr.1.1).c (hr.1.1).lo ((hr.1.1).hi (by omega)) (hr.1.1).r0 ?_
              refine j_iload (n := 87) dX9_pour_85 rfl rfl ?_
              refine jc_aald (n := 88) (t := 2) (L := 8) (i := k) (b := 17 + 5 + 2 * k) dX9_pour_87 rfl ((hr.1.1).a1).1 (by decide) rfl ((hr.1.1).a1).2 (by omega) (by decide) (by have := (hr.1.1).lo; omega) ((hr.1.1).hi (by omega)) ((hr.1.1).e1 (by omega)) ?_
              refine j_getr (n := 91) (k := 2) (b := 17 + 6 + 2 * k) dX9_pour_88 rfl fX9_96 ((hr.1.1).p (by omega)).2.2.1 ((hr.1.1).p (by omega)).1 ((hr.1.1).hi (by omega)) ((hr.1.1).pr (by omega)) ?_
              refine j_iconst (n := 92) (v := nI 0) dX9_pour_91 rfl rfl ?_
              refine j_ialdN (n := 93) (L := 3) (a := 17 + 6 + 2 * k) (i := 0) (v := nI (c (10 + 5 * k + 2))) dX9_pour_92 rfl ((hr.1.1).pa (by omega)).1 ((hr.1.1).pa (by omega)).2 (by omega) (by decide) (by have := (hr.1.1).lo; omega) ((hr.1.1).hi (by omega)) ((cm_r (ix_r (by omega) (by omega) rfl)).trans (congrArg nI hpk)) ?_
              refine j_iload (n := 95) dX9_pour_93 rfl rfl ?_
              refine j_icmp_eqT (n := 98) (tg := 118) dX9_pour_95 rfl rfl (i_N (by omega)) (i_N (by omega)) (fun h105 => ?_) (fun h105 => ?_)
              · refine j_iinc (n := 121) (y := nI (k + 1)) (lv2 := [some (.ref 16), some (.int (nI q)), some (.ref (127 + 2 * q)), some (.int (nI (pourC c (M (127 + 2 * q + 1)) k))), some (.int (nI (min (c 0) (tN (M (127 + 2 * q) 1))))), some (.int (nI (k + 1))), some (.int (nI (min 99 (M (127 + 2 * q + 1) k).toInt.toNat)))]) dX9_pour_118 rfl rfl (by decide) rfl (show nI k + nI 1 = nI (k + 1) by rw [nI_add]) rfl ?_
                refine j_goto (n := 48) dX9_pour_121 rfl ?_
                obtain ⟨eP, eC⟩ : pourP c (M (127 + 2 * q + 1)) (k + 1) = pourP c (M (127 + 2 * q + 1)) k ∧ pourC c (M (127 + 2 * q + 1)) (k + 1) = pourC c (M (127 + 2 * q + 1)) k := by first | exact pour_w (by omega) (by omega) | exact pour_e hpk (by omega) (by omega) | exact pour_n hpk (by omega)
                refine j_mem (M2 := cm M 17 (pourP c (M (127 + 2 * q + 1)) (k + 1))) (by rw [eP]) ?_
                refine j_lv (lv2 := [some (.ref 16), some (.int (nI q)), some (.ref (127 + 2 * q)), some (.int (nI (pourC c (M (127 + 2 * q + 1)) (k + 1)))), some (.int (nI (min (c 0) (tN (M (127 + 2 * q) 1))))), some (.int (nI (k + 1))), some (.int (nI (min 99 (M (127 + 2 * q + 1) k).toInt.toNat)))]) (by rw [eC]) ?_
                refine j_wk (lv2 := [some (.ref 16), some (.int (nI q)), some (.ref (127 + 2 * q)), some (.int (nI (pourC c (M (127 + 2 * q + 1)) (k + 1)))), some (.int (nI (min (c 0) (tN (M (127 + 2 * q) 1))))), some (.int (nI (k + 1))), none]) ⟨rfl, rfl, rfl, rfl, rfl, rfl, trivial⟩ ?_
                exact ih _ (by omega) (k + 1) rfl (by omega)
              · refine j_aload_n (n := 99) dX9_pour_98 rfl rfl ?_
                refine j_getr (n := 102) (k := 0) (b := 17) dX9_pour_99 rfl fX9_10 (hr).c (by decide) ((hr).hi (by decide)) (hr.f (k := 0) rfl (by decide)) ?_
                refine j_getr (n := 105) (k := 0) (b := 18) dX9_pour_102 rfl fX9_77 (hr.1.1).c (hr.1.1).lo ((hr.1.1).hi (by omega)) (hr.1.1).r0 ?_
                refine j_iload (n := 107) dX9_pour_105 rfl rfl ?_
                refine jc_aald (n := 108) (t := 2) (L := 8) (i := k) (b := 17 + 5 + 2 * k) dX9_pour_107 rfl ((hr.1.1).a1).1 (by decide) rfl ((hr.1.1).a1).2 (by omega) (by decide) (by have := (hr.1.1).lo; omega) ((hr.1.1).hi (by omega)) ((hr.1.1).e1 (by omega)) ?_
                refine j_getr (n := 111) (k := 2) (b := 17 + 6 + 2 * k) dX9_pour_108 rfl fX9_96 ((hr.1.1).p (by omega)).2.2.1 ((hr.1.1).p (by omega)).1 ((hr.1.1).hi (by omega)) ((hr.1.1).pr (by omega)) ?_
                refine j_iconst (n := 112) (v := nI 0) dX9_pour_111 rfl rfl ?_
                refine j_iload (n := 114) dX9_pour_112 rfl rfl ?_
                refine j_iastN (n := 115) (L := 3) (a := 17 + 6 + 2 * k) (i := 0) (x := nI (min 99 (M (127 + 2 * q + 1) k).toInt.toNat)) (M2 := cm M 17 (pu (pourP c (M (127 + 2 * q + 1)) k) (10 + 5 * k + 2) (min 99 (M (127 + 2 * q + 1) k).toInt.toNat))) dX9_pour_114 rfl ((hr.1.1).pa (by omega)).1 ((hr.1.1).pa (by omega)).2 (by omega) (by decide) (by have := (hr.1.1).lo; omega) ((hr.1.1).hi (by omega)) (cm_w (ix_r (by omega) (by omega) rfl) _) ?_
                refine j_iinc (n := 118) (y := nI (pourC c (M (127 + 2 * q + 1)) k + 1)) (lv2 := [some (.ref 16), some (.int (nI q)), some (.ref (127 + 2 * q)), some (.int (nI (pourC c (M (127 + 2 * q + 1)) k + 1))), some (.int (nI (min (c 0) (tN (M (127 + 2 * q) 1))))), some (.int (nI k)), some (.int (nI (min 99 (M (127 + 2 * q + 1) k).toInt.toNat)))]) dX9_pour_115 rfl rfl (by decide) rfl (show nI (pourC c (M (127 + 2 * q + 1)) k) + nI 1 = nI (pourC c (M (127 + 2 * q + 1)) k + 1) by rw [nI_add]) rfl ?_
                refine j_iinc (n := 121) (y := nI (k + 1)) (lv2 := [some (.ref 16), some (.int (nI q)), some (.ref (127 + 2 * q)), some (.int (nI (pourC c (M (127 + 2 * q + 1)) k + 1))), some (.int (nI (min (c 0) (tN (M (127 + 2 * q) 1))))), some (.int (nI (k + 1))), some (.int (nI (min 99 (M (127 + 2 * q + 1) k).toInt.toNat)))]) dX9_pour_118 rfl rfl (by decide) rfl (show nI k + nI 1 = nI (k + 1) by rw [nI_add]) rfl ?_
                refine j_goto (n := 48) dX9_pour_121 rfl ?_
                obtain ⟨eP, eC⟩ : pourP c (M (127 + 2 * q + 1)) (k + 1) = pu (pourP c (M (127 + 2 * q + 1)) k) (10 + 5 * k + 2) (min 99 (M (127 + 2 * q + 1) k).toInt.toNat) ∧ pourC c (M (127 + 2 * q + 1)) (k + 1) = pourC c (M (127 + 2 * q + 1)) k + 1 := by first | exact pour_w (by omega) (by omega) | exact pour_e hpk (by omega) (by omega) | exact pour_n hpk (by omega)
                refine j_mem (M2 := cm M 17 (pourP c (M (127 + 2 * q + 1)) (k + 1))) (by rw [eP]) ?_
                refine j_lv (lv2 := [some (.ref 16), some (.int (nI q)), some (.ref (127 + 2 * q)), some (.int (nI (pourC c (M (127 + 2 * q + 1)) (k + 1)))), some (.int (nI (min (c 0) (tN (M (127 + 2 * q) 1))))), some (.int (nI (k + 1))), some (.int (nI (min 99 (M (127 + 2 * q + 1) k).toInt.toNat)))]) (by rw [eC]) ?_
                refine j_wk (lv2 := [some (.ref 16), some (.int (nI q)), some (.ref (127 + 2 * q)), some (.int (nI (pourC c (M (127 + 2 * q + 1)) (k + 1)))), some (.int (nI (min (c 0) (tN (M (127 + 2 * q) 1))))), some (.int (nI (k + 1))), none]) ⟨rfl, rfl, rfl, rfl, rfl, rfl, trivial⟩ ?_
                exact ih _ (by omega) (k + 1) rfl (by omega)
      refine j_wk (lv2 := [some (.ref 16), some (.int (nI q)), some (.ref (127 + 2 * q)), some (.int (nI 0)), some (.int (nI (min (c 0) (tN (M (127 + 2 * q) 1))))), some (.int (nI 0)), none]) ⟨rfl, rfl, rfl, rfl, rfl, rfl, trivial⟩ ?_
      exact loop _ 0 rfl (Nat.zero_le _)
    · refine j_ldc (n := 26) (v := -1000000011) dX9_pour_24 rfl kX9_237 ?_
      exact j_ri dX9_pour_26 rfl (Nat.le_refl _) (Nat.le_refl _) (by unfold r_pour; (try simp only [eq]); (repeat (first | rw [if_pos (by omega)] | rw [if_neg (by omega)])); all_goals rfl) (by unfold q_pour; (try simp only [eq]); (repeat (first | rw [if_pos (by omega)] | rw [if_neg (by omega)])); all_goals rfl) rfl
  · refine j_ldc (n := 9) (v := -1000000001) dX9_pour_7 rfl kX9_71 ?_
    exact j_ri dX9_pour_9 rfl (Nat.le_refl _) (Nat.le_refl _) (by unfold r_pour; (repeat (first | rw [if_pos (by omega)] | rw [if_neg (by omega)])); all_goals rfl) (by unfold q_pour; (repeat (first | rw [if_pos (by omega)] | rw [if_neg (by omega)])); all_goals rfl) rfl
theorem k_reads (d : Nat) (G : zG) (M : zMem) (X : zX) (hr : kR X) (c : Nat → Nat) (hsc : wfSC M) (hw : wfO c) (sheet : Int32) : zCall G miX9_reads (d + 1) [.ref 16, .int sheet] (zI (r_reads c sheet (M (127 + 2 * tN sheet) 0) (tN (M (127 + 2 * tN sheet) 1)) (M (127 + 2 * tN sheet + 1))) (cm M 17 c) X) (cm M 17 c) X 0 0 := by
  refine zCall.of (lv := [some (.ref 16), some (.int sheet), none, none]) (by decide) (Nat.le_of_ble_eq_true rfl) rfl ?_
  have hw0 := hw.1
  refine j_iload_n (n := 1) dX9_reads_0 rfl rfl ?_
  refine j_cS (n := 4) dX9_reads_1 rfl sX9_230 (k_isSheet d G _ _ _) (by omega) (by decide) rfl rfl (Nat.le_of_ble_eq_true rfl) (by decide) (by decide) ?_
  refine j_if_neB (n := 7) (tg := 10) dX9_reads_4 rfl rfl (fun h101 => ?_) (fun h101 => ?_)
  · obtain ⟨q, hq_, rfl⟩ := i_of (x := sheet) (n := 4) (by omega) (by omega)
    have eq : tN (nI q) = q := tN_nI (by omega)
    have iq : (nI q).toInt = q := i_N (by omega)
    have hsq := hsc q hq_
    refine j_aload_n (n := 11) dX9_reads_10 rfl rfl ?_
    refine j_getr (n := 14) (k := 8) (b := 123) dX9_reads_11 rfl fX9_42 (hr).c (by decide) ((hr).hi (by decide)) (hr.f (k := 8) rfl (by decide)) ?_
    refine j_iload_n (n := 15) dX9_reads_14 rfl rfl ?_
    refine jc_aald (n := 16) (t := 5) (L := 4) (i := q) (b := 127 + 2 * q) dX9_reads_15 rfl (hr.a (a := 123) rfl (by decide) rfl).1 (by decide) rfl (hr.a (a := 123) rfl (by decide) rfl).2 (by omega) (by decide) (by decide) (hr.hi (by decide)) (hr.she (by omega)) ?_
    refine j_astore_n (n := 17) (lv2 := [some (.ref 16), some (.int (nI q)), some (.ref (127 + 2 * q)), none]) dX9_reads_16 rfl rfl (by decide) rfl ?_
    refine j_aload_n (n := 18) dX9_reads_17 rfl rfl ?_
    refine j_cV (n := 21) dX9_reads_18 rfl sX9_233 (c_isMissing d G _ _ (127 + 2 * q) (hr.sh (i := q) (by omega)) _ ((congrFun (cm_o (ix_n (by omega))) _).trans rfl)) (by omega) (by decide) rfl rfl (Nat.le_of_ble_eq_true rfl) ((hr.sh (i := q) (by omega))).2.2.1 ((hr.sh (i := q) (by omega))).1 (Nat.lt_of_succ_lt ((hr.sh (i := q) (by omega))).2.1) (by decide) (by decide) ?_
    refine j_if_eqB (n := 24) (tg := 27) dX9_reads_21 rfl rfl (fun h102 => ?_) (fun h102 => ?_)
    · refine j_iconst (n := 28) (v := nI 0) dX9_reads_27 rfl rfl ?_
      refine j_istore_n (n := 29) (lv2 := [some (.ref 16), some (.int (nI q)), some (.ref (127 + 2 * q)), some (.int (nI 0))]) dX9_reads_28 rfl rfl (by decide) rfl ?_
      have loop : ∀ (j l : Nat), tN (M (127 + 2 * q) 1) - l = j → l ≤ tN (M (127 + 2 * q) 1) → fi (fun l => ¬ (M (127 + 2 * q + 1) l).toInt = -1000000005 ∧ (c 0 ≤ l ∨ ¬ (M (127 + 2 * q + 1) l).toInt = (c (10 + 5 * l + 1) : Int))) (tN (M (127 + 2 * q) 1) - 0) 0 = fi (fun l => ¬ (M (127 + 2 * q + 1) l).toInt = -1000000005 ∧ (c 0 ≤ l ∨ ¬ (M (127 + 2 * q + 1) l).toInt = (c (10 + 5 * l + 1) : Int))) (tN (M (127 + 2 * q) 1) - l) l → zAt G miX9_reads (zRm (d + 1) 0 0) (zQ G (zI (r_reads c (nI q) (M (127 + 2 * tN (nI q)) 0) (tN (M (127 + 2 * tN (nI q)) 1)) (M (127 + 2 * tN (nI q) + 1))) (cm M 17 c) X) 0 0) 29 [some (.ref 16), some (.int (nI q)), some (.ref (127 + 2 * q)), some (.int (nI l))] [] (cm M 17 c) X (0, 0) := by
        intro j
        induction j using Nat.strongRecOn with
        | ind j ih =>
          intro l hj hl0 hF
          refine j_iload_n (n := 30) dX9_reads_29 rfl rfl ?_
          refine j_aload_n (n := 31) dX9_reads_30 rfl rfl ?_
          refine jc_get (n := 34) (k := 1) (v := nI (tN (M (127 + 2 * q) 1))) dX9_reads_31 rfl fX9_297 ((hr.sh (i := q) (by omega))).2.2.1 ((hr.sh (i := q) (by omega))).1 (Nat.lt_of_succ_lt ((hr.sh (i := q) (by omega))).2.1) ((show _ = M (127 + 2 * q) 1 from ((congrFun (cm_o (ix_n (by omega))) _).trans rfl)).trans (nI_tN _).symm) ?_
          refine j_icmp_geT (n := 37) (tg := 85) dX9_reads_34 rfl rfl (i_N (by omega)) (i_N (by omega)) (fun h103 => ?_) (fun h103 => ?_)
          · refine j_ldc (n := 87) (v := -1000000005) dX9_reads_85 rfl kX9_219 ?_
            exact j_ri dX9_reads_87 rfl (Nat.le_refl _) (Nat.le_refl _) (by have eF := hF.trans (by first | exact fi_n (by omega) | exact fi_t (by omega) (by omega)); unfold r_reads; rw [eq, if_neg (by omega), if_neg (by omega), eF]; first | (rw [if_pos (by omega)]; done) | rw [if_neg (by omega)]) rfl rfl
          · refine j_aload_n (n := 38) dX9_reads_37 rfl rfl ?_
            refine j_iload_n (n := 39) dX9_reads_38 rfl rfl ?_
            refine j_cV (n := 42) dX9_reads_39 rfl sX9_300 (c_isNumber d G _ _ (127 + 2 * q) (hr.sh (i := q) (by omega)) l (by omega) _ (by show _ = _; exact ((congrFun (cm_o (ix_n (by omega))) _).trans rfl))) (by omega) (by decide) rfl rfl (Nat.le_of_ble_eq_true rfl) ((hr.sh (i := q) (by omega))).2.2.1 ((hr.sh (i := q) (by omega))).1 (Nat.lt_of_succ_lt ((hr.sh (i := q) (by omega))).2.1) (by decide) (by decide) ?_
            refine j_if_eqB (n := 45) (tg := 79) dX9_reads_42 rfl rfl (fun h104 => ?_) (fun h104 => ?_)
            · refine j_iinc (n := 82) (y := nI (l + 1)) (lv2 := [some (.ref 16), some (.int (nI q)), some (.ref (127 + 2 * q)), some (.int (nI (l + 1)))]) dX9_reads_79 rfl rfl (by decide) rfl (show nI l + nI 1 = nI (l + 1) by rw [nI_add]) rfl ?_
              refine j_goto (n := 29) dX9_reads_82 rfl ?_
              exact ih _ (by omega) (l + 1) rfl (by omega) (hF.trans (fi_s (by omega) (by omega)))
            · refine j_iload_n (n := 46) dX9_reads_45 rfl rfl ?_
              refine j_aload_n (n := 47) dX9_reads_46 rfl rfl ?_
              refine j_getr (n := 50) (k := 0) (b := 17) dX9_reads_47 rfl fX9_10 (hr).c (by decide) ((hr).hi (by decide)) (hr.f (k := 0) rfl (by decide)) ?_
              refine jc_get (n := 53) (k := 1) (v := nI (c 0)) dX9_reads_50 rfl fX9_72 (hr.1.1).c (hr.1.1).lo ((hr.1.1).hi (by omega)) (cm_r (ix_t rfl)) ?_
              refine j_icmp_geT (n := 56) (tg := 77) dX9_reads_53 rfl rfl (i_N (by omega)) (i_N (by omega)) (fun h105 => ?_) (fun h105 => ?_)
              · refine j_iload_n (n := 78) dX9_reads_77 rfl rfl ?_
                exact j_ri dX9_reads_78 rfl (Nat.le_refl _) (Nat.le_refl _) (by have eF := hF.trans (by first | exact fi_n (by omega) | exact fi_t (by omega) (by omega)); unfold r_reads; rw [eq, if_neg (by omega), if_neg (by omega), eF]; first | (rw [if_pos (by omega)]; done) | rw [if_neg (by omega)]) rfl rfl
              · have ho := hw.2 l (by omega)
                refine j_aload_n (n := 57) dX9_reads_56 rfl rfl ?_
                refine j_getr (n := 60) (k := 2) (b := 127 + 2 * q + 1) dX9_reads_57 rfl fX9_292 ((hr.sh (i := q) (by omega))).2.2.1 ((hr.sh (i := q) (by omega))).1 (Nat.lt_of_succ_lt ((hr.sh (i := q) (by omega))).2.1) ((hr.sh (i := q) (by omega))).2.2.2.1 ?_
                refine j_iload_n (n := 61) dX9_reads_60 rfl rfl ?_
                refine j_ialdN (n := 62) (L := 24) (a := 127 + 2 * q + 1) (i := l) (v := M (127 + 2 * q + 1) l) dX9_reads_61 rfl ((hr.sh (i := q) (by omega))).2.2.2.2.1 ((hr.sh (i := q) (by omega))).2.2.2.2.2 (by omega) (by decide) (Nat.le_succ_of_le ((hr.sh (i := q) (by omega))).1) ((hr.sh (i := q) (by omega))).2.1 ((congrFun (cm_o (ix_n (by omega))) _).trans rfl) ?_
                refine j_aload_n (n := 63) dX9_reads_62 rfl rfl ?_
                refine j_getr (n := 66) (k := 0) (b := 17) dX9_reads_63 rfl fX9_10 (hr).c (by decide) ((hr).hi (by decide)) (hr.f (k := 0) rfl (by decide)) ?_
                refine j_getr (n := 69) (k := 0) (b := 18) dX9_reads_66 rfl fX9_77 (hr.1.1).c (hr.1.1).lo ((hr.1.1).hi (by omega)) (hr.1.1).r0 ?_
                refine j_iload_n (n := 70) dX9_reads_69 rfl rfl ?_
                refine jc_aald (n := 71) (t := 2) (L := 8) (i := l) (b := 17 + 5 + 2 * l) dX9_reads_70 rfl ((hr.1.1).a1).1 (by decide) rfl ((hr.1.1).a1).2 (by omega) (by decide) (by have := (hr.1.1).lo; omega) ((hr.1.1).hi (by omega)) ((hr.1.1).e1 (by omega)) ?_
                refine jc_get (n := 74) (k := 1) (v := nI (c (10 + 5 * l + 1))) dX9_reads_71 rfl fX9_93 ((hr.1.1).p (by omega)).2.2.1 ((hr.1.1).p (by omega)).1 ((hr.1.1).hi (by omega)) (cm_r (ix_p (by omega) (by decide) rfl)) ?_
                refine j_icmp_eqT (n := 77) (tg := 79) dX9_reads_74 rfl rfl rfl (i_N (by omega)) (fun h106 => ?_) (fun h106 => ?_)
                · refine j_iinc (n := 82) (y := nI (l + 1)) (lv2 := [some (.ref 16), some (.int (nI q)), some (.ref (127 + 2 * q)), some (.int (nI (l + 1)))]) dX9_reads_79 rfl rfl (by decide) rfl (show nI l + nI 1 = nI (l + 1) by rw [nI_add]) rfl ?_
                  refine j_goto (n := 29) dX9_reads_82 rfl ?_
                  exact ih _ (by omega) (l + 1) rfl (by omega) (hF.trans (fi_s (by omega) (by omega)))
                · refine j_iload_n (n := 78) dX9_reads_77 rfl rfl ?_
                  exact j_ri dX9_reads_78 rfl (Nat.le_refl _) (Nat.le_refl _) (by have eF := hF.trans (by first | exact fi_n (by omega) | exact fi_t (by omega) (by omega)); unfold r_reads; rw [eq, if_neg (by omega), if_neg (by omega), eF]; first | (rw [if_pos (by omega)]; done) | rw [if_neg (by omega)]) rfl rfl
      exact loop _ 0 rfl (Nat.zero_le _) rfl
    · refine j_ldc (n := 26) (v := -1000000011) dX9_reads_24 rfl kX9_237 ?_
      exact j_ri dX9_reads_26 rfl (Nat.le_refl _) (Nat.le_refl _) (by unfold r_reads; (try simp only [eq]); (repeat (first | rw [if_pos (by omega)] | rw [if_neg (by omega)])); all_goals rfl) rfl rfl
  · refine j_ldc (n := 9) (v := -1000000001) dX9_reads_7 rfl kX9_71 ?_
    exact j_ri dX9_reads_9 rfl (Nat.le_refl _) (Nat.le_refl _) (by unfold r_reads; (repeat (first | rw [if_pos (by omega)] | rw [if_neg (by omega)])); all_goals rfl) rfl rfl
def mC_copy (M : zMem) (from0 to place a many : Int32) : zMem := if r_copy from0 to (M (127 + 2 * tN from0) 0) (M (127 + 2 * tN to) 0) (tN (M (127 + 2 * tN from0) 1)) (tN (M (127 + 2 * tN to) 1)) place a many = many ∧ 0 ≤ many.toInt then zs M (127 + 2 * tN to + 1) (va_cpy (M (127 + 2 * tN from0 + 1)) (M (127 + 2 * tN to + 1)) (tN place) (tN a) (tN many)) else M
theorem k_copy (d : Nat) (G : zG) (M : zMem) (X : zX) (hr : kR X) (hsc : wfSC M) (from0 place to a many : Int32) : zCall G miX9_copy (d + 1) [.ref 16, .int from0, .int place, .int to, .int a, .int many] (zI (r_copy from0 to (M (127 + 2 * tN from0) 0) (M (127 + 2 * tN to) 0) (tN (M (127 + 2 * tN from0) 1)) (tN (M (127 + 2 * tN to) 1)) place a many) (mC_copy M from0 to place a many) X) M X 0 0 := by
  refine zCall.of (lv := [some (.ref 16), some (.int from0), some (.int place), some (.int to), some (.int a), some (.int many), none, none]) (by decide) (Nat.le_of_ble_eq_true rfl) rfl ?_
  refine j_iload_n (n := 1) dX9_copy_0 rfl rfl ?_
  refine j_cS (n := 4) dX9_copy_1 rfl sX9_230 (k_isSheet d G _ _ _) (by omega) (by decide) rfl rfl (Nat.le_of_ble_eq_true rfl) (by decide) (by decide) ?_
  refine j_if_eqB (n := 7) (tg := 14) dX9_copy_4 rfl rfl (fun h101 => ?_) (fun h101 => ?_)
  · refine j_ldc (n := 16) (v := -1000000001) dX9_copy_14 rfl kX9_71 ?_
    exact j_ri dX9_copy_16 rfl (Nat.le_refl _) (Nat.le_refl _) (by unfold r_copy; (try simp only [eq, eu]); (repeat (first | rw [if_pos (by omega)] | rw [if_neg (by omega)])); all_goals rfl) (by have hrm : r_copy from0 to (M (127 + 2 * tN from0) 0) (M (127 + 2 * tN to) 0) (tN (M (127 + 2 * tN from0) 1)) (tN (M (127 + 2 * tN to) 1)) place a many = cBAD := (by unfold r_copy; rw [if_pos (by omega)]); unfold mC_copy; rw [hrm, if_neg (fun z => absurd z.2 (by rw [← z.1]; decide))]) rfl
  · refine j_iload_n (n := 8) dX9_copy_7 rfl rfl ?_
    refine j_cS (n := 11) dX9_copy_8 rfl sX9_230 (k_isSheet d G _ _ _) (by omega) (by decide) rfl rfl (Nat.le_of_ble_eq_true rfl) (by decide) (by decide) ?_
    refine j_if_neB (n := 14) (tg := 17) dX9_copy_11 rfl rfl (fun h102 => ?_) (fun h102 => ?_)
    · obtain ⟨q, hq_, rfl⟩ := i_of (x := from0) (n := 4) (by omega) (by omega)
      have eq : tN (nI q) = q := tN_nI (by omega)
      have iq : (nI q).toInt = q := i_N (by omega)
      obtain ⟨u, hu_, rfl⟩ := i_of (x := to) (n := 4) (by omega) (by omega)
      have eu : tN (nI u) = u := tN_nI (by omega)
      have iu : (nI u).toInt = u := i_N (by omega)
      have hsq := hsc q hq_
      have hsu := hsc u hu_
      refine j_aload_n (n := 18) dX9_copy_17 rfl rfl ?_
      refine j_getr (n := 21) (k := 8) (b := 123) dX9_copy_18 rfl fX9_42 (hr).c (by decide) ((hr).hi (by decide)) (hr.f (k := 8) rfl (by decide)) ?_
      refine j_iload_n (n := 22) dX9_copy_21 rfl rfl ?_
      refine jc_aald (n := 23) (t := 5) (L := 4) (i := q) (b := 127 + 2 * q) dX9_copy_22 rfl (hr.a (a := 123) rfl (by decide) rfl).1 (by decide) rfl (hr.a (a := 123) rfl (by decide) rfl).2 (by omega) (by decide) (by decide) (hr.hi (by decide)) (hr.she (by omega)) ?_
      refine j_astore (n := 25) (lv2 := [some (.ref 16), some (.int (nI q)), some (.int place), some (.int (nI u)), some (.int a), some (.int many), some (.ref (127 + 2 * q)), none]) dX9_copy_23 rfl rfl (by decide) rfl ?_
      refine j_aload_n (n := 26) dX9_copy_25 rfl rfl ?_
      refine j_getr (n := 29) (k := 8) (b := 123) dX9_copy_26 rfl fX9_42 (hr).c (by decide) ((hr).hi (by decide)) (hr.f (k := 8) rfl (by decide)) ?_
      refine j_iload_n (n := 30) dX9_copy_29 rfl rfl ?_
      refine jc_aald (n := 31) (t := 5) (L := 4) (i := u) (b := 127 + 2 * u) dX9_copy_30 rfl (hr.a (a := 123) rfl (by decide) rfl).1 (by decide) rfl (hr.a (a := 123) rfl (by decide) rfl).2 (by omega) (by decide) (by decide) (hr.hi (by decide)) (hr.she (by omega)) ?_
      refine j_astore (n := 33) (lv2 := [some (.ref 16), some (.int (nI q)), some (.int place), some (.int (nI u)), some (.int a), some (.int many), some (.ref (127 + 2 * q)), some (.ref (127 + 2 * u))]) dX9_copy_31 rfl rfl (by decide) rfl ?_
      refine j_aload (n := 35) dX9_copy_33 rfl rfl ?_
      refine j_cV (n := 38) dX9_copy_35 rfl sX9_233 (c_isMissing d G _ _ (127 + 2 * q) (hr.sh (i := q) (by omega)) _ rfl) (by omega) (by decide) rfl rfl (Nat.le_of_ble_eq_true rfl) ((hr.sh (i := q) (by omega))).2.2.1 ((hr.sh (i := q) (by omega))).1 (Nat.lt_of_succ_lt ((hr.sh (i := q) (by omega))).2.1) (by decide) (by decide) ?_
      refine j_if_neB (n := 41) (tg := 49) dX9_copy_38 rfl rfl (fun h103 => ?_) (fun h103 => ?_)
      · refine j_ldc (n := 51) (v := -1000000011) dX9_copy_49 rfl kX9_237 ?_
        exact j_ri dX9_copy_51 rfl (Nat.le_refl _) (Nat.le_refl _) (by unfold r_copy; (try simp only [eq, eu]); (repeat (first | rw [if_pos (by omega)] | rw [if_neg (by omega)])); all_goals rfl) (by have hrm : r_copy (nI q) (nI u) (M (127 + 2 * q) 0) (M (127 + 2 * u) 0) (tN (M (127 + 2 * q) 1)) (tN (M (127 + 2 * u) 1)) place a many = (-1000000011) := (by unfold r_copy; (repeat (first | rw [if_pos (by omega)] | rw [if_neg (by omega)])); all_goals rfl); unfold mC_copy; rw [eq, eu, hrm, if_neg (fun z => absurd z.2 (by rw [← z.1]; decide))]) rfl
      · refine j_aload (n := 43) dX9_copy_41 rfl rfl ?_
        refine j_cV (n := 46) dX9_copy_43 rfl sX9_233 (c_isMissing d G _ _ (127 + 2 * u) (hr.sh (i := u) (by omega)) _ rfl) (by omega) (by decide) rfl rfl (Nat.le_of_ble_eq_true rfl) ((hr.sh (i := u) (by omega))).2.2.1 ((hr.sh (i := u) (by omega))).1 (Nat.lt_of_succ_lt ((hr.sh (i := u) (by omega))).2.1) (by decide) (by decide) ?_
        refine j_if_eqB (n := 49) (tg := 52) dX9_copy_46 rfl rfl (fun h104 => ?_) (fun h104 => ?_)
        · refine j_aload (n := 54) dX9_copy_52 rfl rfl ?_
          refine jc_get (n := 57) (k := 0) (v := M (127 + 2 * q) 0) dX9_copy_54 rfl fX9_291 ((hr.sh (i := q) (by omega))).2.2.1 ((hr.sh (i := q) (by omega))).1 (Nat.lt_of_succ_lt ((hr.sh (i := q) (by omega))).2.1) rfl ?_
          refine j_aload (n := 59) dX9_copy_57 rfl rfl ?_
          refine jc_get (n := 62) (k := 0) (v := M (127 + 2 * u) 0) dX9_copy_59 rfl fX9_291 ((hr.sh (i := u) (by omega))).2.2.1 ((hr.sh (i := u) (by omega))).1 (Nat.lt_of_succ_lt ((hr.sh (i := u) (by omega))).2.1) rfl ?_
          refine j_icmp_eqT (n := 65) (tg := 68) dX9_copy_62 rfl rfl rfl rfl (fun h105 => ?_) (fun h105 => ?_)
          · refine j_aload (n := 70) dX9_copy_68 rfl rfl ?_
            refine j_iload_n (n := 71) dX9_copy_70 rfl rfl ?_
            refine j_iload (n := 73) dX9_copy_71 rfl rfl ?_
            refine j_cV (n := 76) dX9_copy_73 rfl sX9_306 (c_hasPlaces d G _ _ (127 + 2 * q) (hr.sh (i := q) (by omega)) (tN (M (127 + 2 * q) 1)) ((show _ = M (127 + 2 * q) 1 from rfl).trans (nI_tN _).symm) (by omega) _ _) (by omega) (by decide) rfl rfl (Nat.le_of_ble_eq_true rfl) ((hr.sh (i := q) (by omega))).2.2.1 ((hr.sh (i := q) (by omega))).1 (Nat.lt_of_succ_lt ((hr.sh (i := q) (by omega))).2.1) (by decide) (by decide) ?_
            refine j_if_eqB (n := 79) (tg := 91) dX9_copy_76 rfl rfl (fun h106 => ?_) (fun h106 => ?_)
            · refine j_ldcw (n := 94) (v := -1000000013) dX9_copy_91 rfl kX9_290 ?_
              exact j_ri dX9_copy_94 rfl (Nat.le_refl _) (Nat.le_refl _) (by unfold r_copy; (try simp only [eq, eu]); (repeat (first | rw [if_pos (by omega)] | rw [if_neg (by omega)])); all_goals rfl) (by have hrm : r_copy (nI q) (nI u) (M (127 + 2 * q) 0) (M (127 + 2 * u) 0) (tN (M (127 + 2 * q) 1)) (tN (M (127 + 2 * u) 1)) place a many = (-1000000013) := (by unfold r_copy; (repeat (first | rw [if_pos (by omega)] | rw [if_neg (by omega)])); all_goals rfl); unfold mC_copy; rw [eq, eu, hrm, if_neg (fun z => absurd z.2 (by rw [← z.1]; decide))]) rfl
            · refine j_aload (n := 81) dX9_copy_79 rfl rfl ?_
              refine j_iload (n := 83) dX9_copy_81 rfl rfl ?_
              refine j_iload (n := 85) dX9_copy_83 rfl rfl ?_
              refine j_cV (n := 88) dX9_copy_85 rfl sX9_306 (c_hasPlaces d G _ _ (127 + 2 * u) (hr.sh (i := u) (by omega)) (tN (M (127 + 2 * u) 1)) ((show _ = M (127 + 2 * u) 1 from rfl).trans (nI_tN _).symm) (by omega) _ _) (by omega) (by decide) rfl rfl (Nat.le_of_ble_eq_true rfl) ((hr.sh (i := u) (by omega))).2.2.1 ((hr.sh (i := u) (by omega))).1 (Nat.lt_of_succ_lt ((hr.sh (i := u) (by omega))).2.1) (by decide) (by decide) ?_
              refine j_if_neB (n := 91) (tg := 95) dX9_copy_88 rfl rfl (fun h107 => ?_) (fun h107 => ?_)
              · obtain ⟨pl, hpl_, rfl⟩ := i_of (x := place) (n := 25) (by omega) (by omega)
                have epl : tN (nI pl) = pl := tN_nI (by omega)
                have ipl : (nI pl).toInt = pl := i_N (by omega)
                obtain ⟨at0, hat0_, rfl⟩ := i_of (x := a) (n := 25) (by omega) (by omega)
                have eat0 : tN (nI at0) = at0 := tN_nI (by omega)
                have iat0 : (nI at0).toInt = at0 := i_N (by omega)
                obtain ⟨mn, hmn_, rfl⟩ := i_of (x := many) (n := 25) (by omega) (by omega)
                have emn : tN (nI mn) = mn := tN_nI (by omega)
                have imn : (nI mn).toInt = mn := i_N (by omega)
                refine j_aload (n := 97) dX9_copy_95 rfl rfl ?_
                refine j_getr (n := 100) (k := 2) (b := 127 + 2 * q + 1) dX9_copy_97 rfl fX9_292 ((hr.sh (i := q) (by omega))).2.2.1 ((hr.sh (i := q) (by omega))).1 (Nat.lt_of_succ_lt ((hr.sh (i := q) (by omega))).2.1) ((hr.sh (i := q) (by omega))).2.2.2.1 ?_
                refine j_iload_n (n := 101) dX9_copy_100 rfl rfl ?_
                refine j_aload (n := 103) dX9_copy_101 rfl rfl ?_
                refine j_getr (n := 106) (k := 2) (b := 127 + 2 * u + 1) dX9_copy_103 rfl fX9_292 ((hr.sh (i := u) (by omega))).2.2.1 ((hr.sh (i := u) (by omega))).1 (Nat.lt_of_succ_lt ((hr.sh (i := u) (by omega))).2.1) ((hr.sh (i := u) (by omega))).2.2.2.1 ?_
                refine j_iload (n := 108) dX9_copy_106 rfl rfl ?_
                refine j_iload (n := 110) dX9_copy_108 rfl rfl ?_
                refine j_acopy (n := 113) (L0 := 24) (L := 24) (sp := pl) (dp := at0) (k := mn) dX9_copy_110 rfl ac_X9 ((hr.sh (i := q) (by omega))).2.2.2.2.1 ((hr.sh (i := q) (by omega))).2.2.2.2.2 ((hr.sh (i := u) (by omega))).2.2.2.2.1 ((hr.sh (i := u) (by omega))).2.2.2.2.2 (Nat.le_succ_of_le ((hr.sh (i := q) (by omega))).1) ((hr.sh (i := q) (by omega))).2.1 (Nat.le_succ_of_le ((hr.sh (i := u) (by omega))).1) ((hr.sh (i := u) (by omega))).2.1 (by omega) (by omega) (by decide) (by decide) (by omega) (Nat.le_of_ble_eq_true rfl) rfl ?_
                refine j_iload (n := 115) dX9_copy_113 rfl rfl ?_
                exact j_ri dX9_copy_115 rfl (Nat.le_refl _) (Nat.le_refl _) (by unfold r_copy; (try simp only [eq, eu]); (repeat (first | rw [if_pos (by omega)] | rw [if_neg (by omega)])); all_goals rfl) (by have hrm : r_copy (nI q) (nI u) (M (127 + 2 * q) 0) (M (127 + 2 * u) 0) (tN (M (127 + 2 * q) 1)) (tN (M (127 + 2 * u) 1)) (nI pl) (nI at0) (nI mn) = nI mn := (by unfold r_copy; (repeat (first | rw [if_pos (by omega)] | rw [if_neg (by omega)])); all_goals rfl); unfold mC_copy; rw [eq, eu, hrm, if_pos ⟨rfl, by omega⟩, epl, eat0, emn]) rfl
              · refine j_ldcw (n := 94) (v := -1000000013) dX9_copy_91 rfl kX9_290 ?_
                exact j_ri dX9_copy_94 rfl (Nat.le_refl _) (Nat.le_refl _) (by unfold r_copy; (try simp only [eq, eu]); (repeat (first | rw [if_pos (by omega)] | rw [if_neg (by omega)])); all_goals rfl) (by have hrm : r_copy (nI q) (nI u) (M (127 + 2 * q) 0) (M (127 + 2 * u) 0) (tN (M (127 + 2 * q) 1)) (tN (M (127 + 2 * u) 1)) place a many = (-1000000013) := (by unfold r_copy; (repeat (first | rw [if_pos (by omega)] | rw [if_neg (by omega)])); all_goals rfl); unfold mC_copy; rw [eq, eu, hrm, if_neg (fun z => absurd z.2 (by rw [← z.1]; decide))]) rfl
          · refine j_ldc (n := 67) (v := -1000000012) dX9_copy_65 rfl kX9_113 ?_
            exact j_ri dX9_copy_67 rfl (Nat.le_refl _) (Nat.le_refl _) (by unfold r_copy; (try simp only [eq, eu]); (repeat (first | rw [if_pos (by omega)] | rw [if_neg (by omega)])); all_goals rfl) (by have hrm : r_copy (nI q) (nI u) (M (127 + 2 * q) 0) (M (127 + 2 * u) 0) (tN (M (127 + 2 * q) 1)) (tN (M (127 + 2 * u) 1)) place a many = (-1000000012) := (by unfold r_copy; (repeat (first | rw [if_pos (by omega)] | rw [if_neg (by omega)])); all_goals rfl); unfold mC_copy; rw [eq, eu, hrm, if_neg (fun z => absurd z.2 (by rw [← z.1]; decide))]) rfl
        · refine j_ldc (n := 51) (v := -1000000011) dX9_copy_49 rfl kX9_237 ?_
          exact j_ri dX9_copy_51 rfl (Nat.le_refl _) (Nat.le_refl _) (by unfold r_copy; (try simp only [eq, eu]); (repeat (first | rw [if_pos (by omega)] | rw [if_neg (by omega)])); all_goals rfl) (by have hrm : r_copy (nI q) (nI u) (M (127 + 2 * q) 0) (M (127 + 2 * u) 0) (tN (M (127 + 2 * q) 1)) (tN (M (127 + 2 * u) 1)) place a many = (-1000000011) := (by unfold r_copy; (repeat (first | rw [if_pos (by omega)] | rw [if_neg (by omega)])); all_goals rfl); unfold mC_copy; rw [eq, eu, hrm, if_neg (fun z => absurd z.2 (by rw [← z.1]; decide))]) rfl
    · refine j_ldc (n := 16) (v := -1000000001) dX9_copy_14 rfl kX9_71 ?_
      exact j_ri dX9_copy_16 rfl (Nat.le_refl _) (Nat.le_refl _) (by unfold r_copy; (try simp only [eq, eu]); (repeat (first | rw [if_pos (by omega)] | rw [if_neg (by omega)])); all_goals rfl) (by have hrm : r_copy from0 to (M (127 + 2 * tN from0) 0) (M (127 + 2 * tN to) 0) (tN (M (127 + 2 * tN from0) 1)) (tN (M (127 + 2 * tN to) 1)) place a many = cBAD := (by unfold r_copy; rw [if_pos (by omega)]); unfold mC_copy; rw [hrm, if_neg (fun z => absurd z.2 (by rw [← z.1]; decide))]) rfl
def wfHC (M : zMem) : Prop := ∀ i, i < 5 → tN (M (135 + 5 * i) 0) ≤ 3 ∧ (tN (M (135 + 5 * i) 0) = 1 → tN (M (136 + 5 * i) 0) ≤ 5 ∧ tN (M (136 + 5 * i + 1) 0) ≤ 99 ∧ tN (M (136 + 5 * i + 1) 1) ≤ 99 ∧ tN (M (136 + 5 * i + 1) 2) ≤ 99) ∧ tN (M (138 + 5 * i) 1) ≤ 24
/-- what the person in a slot is worth -/
def slW (M : zMem) (s : Nat) : Int32 := worthN (tN (M (136 + 5 * s) 0)) (tN (M (136 + 5 * s + 1) 0) + tN (M (136 + 5 * s + 1) 1) + tN (M (136 + 5 * s + 1) 2))
theorem k_rest (d : Nat) (G : zG) (M : zMem) (X : zX) (hr : kR X) (hh : wfHC M) (slot n : Int32) : zCall G miX9_rest (d + 1) [.ref 16, .int slot, .int n] (zI (r_rest slot (tN (M (135 + 5 * tN slot) 0)) (M (135 + 5 * tN slot) 3) n) M X) M X 0 0 := by
  refine zCall.of (lv := [some (.ref 16), some (.int slot), some (.int n), none]) (by decide) (Nat.le_of_ble_eq_true rfl) rfl ?_
  refine j_iload_n (n := 1) dX9_rest_0 rfl rfl ?_
  refine j_cS (n := 4) dX9_rest_1 rfl sX9_315 (k_isSlot d G _ _ _) (by omega) (by decide) rfl rfl (Nat.le_of_ble_eq_true rfl) (by decide) (by decide) ?_
  refine j_if_neB (n := 7) (tg := 10) dX9_rest_4 rfl rfl (fun h101 => ?_) (fun h101 => ?_)
  · obtain ⟨q, hq_, rfl⟩ := i_of (x := slot) (n := 5) (by omega) (by omega)
    have eq : tN (nI q) = q := tN_nI (by omega)
    have iq : (nI q).toInt = q := i_N (by omega)
    have hhq := hh q hq_
    refine j_aload_n (n := 11) dX9_rest_10 rfl rfl ?_
    refine j_getr (n := 14) (k := 9) (b := 124) dX9_rest_11 rfl fX9_48 (hr).c (by decide) ((hr).hi (by decide)) (hr.f (k := 9) rfl (by decide)) ?_
    refine j_iload_n (n := 15) dX9_rest_14 rfl rfl ?_
    refine jc_aald (n := 16) (t := 6) (L := 5) (i := q) (b := 135 + 5 * q) dX9_rest_15 rfl (hr.a (a := 124) rfl (by decide) rfl).1 (by decide) rfl (hr.a (a := 124) rfl (by decide) rfl).2 (by omega) (by decide) (by decide) (hr.hi (by decide)) (hr.sle (by omega)) ?_
    refine j_astore_n (n := 17) (lv2 := [some (.ref 16), some (.int (nI q)), some (.int n), some (.ref (135 + 5 * q))]) dX9_rest_16 rfl rfl (by decide) rfl ?_
    refine j_aload_n (n := 18) dX9_rest_17 rfl rfl ?_
    refine jc_get (n := 21) (k := 0) (v := nI (tN (M (135 + 5 * q) 0))) dX9_rest_18 rfl fX9_318 (hr.slc (by omega)) (by omega) (hr.hi (by omega)) ((show _ = M (135 + 5 * q) 0 from rfl).trans (nI_tN _).symm) ?_
    refine j_if_neN (n := 24) (tg := 27) dX9_rest_21 rfl rfl (by omega) (fun h102 => ?_) (fun h102 => ?_)
    · refine j_aload_n (n := 28) dX9_rest_27 rfl rfl ?_
      refine jc_get (n := 31) (k := 0) (v := nI (tN (M (135 + 5 * q) 0))) dX9_rest_28 rfl fX9_318 (hr.slc (by omega)) (by omega) (hr.hi (by omega)) ((show _ = M (135 + 5 * q) 0 from rfl).trans (nI_tN _).symm) ?_
      refine j_iconst (n := 32) (v := nI 3) dX9_rest_31 rfl rfl ?_
      refine j_icmp_eqT (n := 35) (tg := 38) dX9_rest_32 rfl rfl (i_N (by omega)) (i_N (by omega)) (fun h103 => ?_) (fun h103 => ?_)
      · refine j_iload_n (n := 39) dX9_rest_38 rfl rfl ?_
        refine j_if_neT (n := 42) (tg := 47) dX9_rest_39 rfl rfl (fun h104 => ?_) (fun h104 => ?_)
        · refine j_aload_n (n := 48) dX9_rest_47 rfl rfl ?_
          refine jc_get (n := 51) (k := 3) (v := M (135 + 5 * q) 3) dX9_rest_48 rfl fX9_334 (hr.slc (by omega)) (by omega) (hr.hi (by omega)) rfl ?_
          refine j_iload_n (n := 52) dX9_rest_51 rfl rfl ?_
          refine j_irem (n := 53) dX9_rest_52 rfl (fun z => absurd (show n.toInt = 0 by rw [z]; rfl) (by assumption)) ?_
          exact j_ri dX9_rest_53 rfl (Nat.le_refl _) (Nat.le_refl _) (by unfold r_rest; (try simp only [eq]); (repeat (first | rw [if_pos (by omega)] | rw [if_neg (by omega)])); all_goals rfl) rfl rfl
        · refine j_ldc (n := 44) (v := -1000000002) dX9_rest_42 rfl kX9_158 ?_
          refine j_goto (n := 53) dX9_rest_44 rfl ?_
          exact j_ri dX9_rest_53 rfl (Nat.le_refl _) (Nat.le_refl _) (by unfold r_rest; (try simp only [eq]); (repeat (first | rw [if_pos (by omega)] | rw [if_neg (by omega)])); all_goals rfl) rfl rfl
      · refine j_ldc (n := 37) (v := -1000000012) dX9_rest_35 rfl kX9_113 ?_
        exact j_ri dX9_rest_37 rfl (Nat.le_refl _) (Nat.le_refl _) (by unfold r_rest; (try simp only [eq]); (repeat (first | rw [if_pos (by omega)] | rw [if_neg (by omega)])); all_goals rfl) rfl rfl
    · refine j_ldc (n := 26) (v := -1000000011) dX9_rest_24 rfl kX9_237 ?_
      exact j_ri dX9_rest_26 rfl (Nat.le_refl _) (Nat.le_refl _) (by unfold r_rest; (try simp only [eq]); (repeat (first | rw [if_pos (by omega)] | rw [if_neg (by omega)])); all_goals rfl) rfl rfl
  · refine j_ldc (n := 9) (v := -1000000001) dX9_rest_7 rfl kX9_71 ?_
    exact j_ri dX9_rest_9 rfl (Nat.le_refl _) (Nat.le_refl _) (by unfold r_rest; (try simp only [eq]); (repeat (first | rw [if_pos (by omega)] | rw [if_neg (by omega)])); all_goals rfl) rfl rfl
theorem k_item (d : Nat) (G : zG) (M : zMem) (X : zX) (hr : kR X) (hh : wfHC M) (slot place : Int32) : zCall G miX9_item (d + 1) [.ref 16, .int slot, .int place] (zI (r_item slot (tN (M (135 + 5 * tN slot) 0)) (tN (M (138 + 5 * tN slot) 1)) (M (138 + 5 * tN slot + 1)) place) M X) M X 0 0 := by
  refine zCall.of (lv := [some (.ref 16), some (.int slot), some (.int place), none]) (by decide) (Nat.le_of_ble_eq_true rfl) rfl ?_
  refine j_iload_n (n := 1) dX9_item_0 rfl rfl ?_
  refine j_cS (n := 4) dX9_item_1 rfl sX9_315 (k_isSlot d G _ _ _) (by omega) (by decide) rfl rfl (Nat.le_of_ble_eq_true rfl) (by decide) (by decide) ?_
  refine j_if_neB (n := 7) (tg := 10) dX9_item_4 rfl rfl (fun h101 => ?_) (fun h101 => ?_)
  · obtain ⟨q, hq_, rfl⟩ := i_of (x := slot) (n := 5) (by omega) (by omega)
    have eq : tN (nI q) = q := tN_nI (by omega)
    have iq : (nI q).toInt = q := i_N (by omega)
    have hhq := hh q hq_
    refine j_aload_n (n := 11) dX9_item_10 rfl rfl ?_
    refine j_getr (n := 14) (k := 9) (b := 124) dX9_item_11 rfl fX9_48 (hr).c (by decide) ((hr).hi (by decide)) (hr.f (k := 9) rfl (by decide)) ?_
    refine j_iload_n (n := 15) dX9_item_14 rfl rfl ?_
    refine jc_aald (n := 16) (t := 6) (L := 5) (i := q) (b := 135 + 5 * q) dX9_item_15 rfl (hr.a (a := 124) rfl (by decide) rfl).1 (by decide) rfl (hr.a (a := 124) rfl (by decide) rfl).2 (by omega) (by decide) (by decide) (hr.hi (by decide)) (hr.sle (by omega)) ?_
    refine j_astore_n (n := 17) (lv2 := [some (.ref 16), some (.int (nI q)), some (.int place), some (.ref (135 + 5 * q))]) dX9_item_16 rfl rfl (by decide) rfl ?_
    refine j_aload_n (n := 18) dX9_item_17 rfl rfl ?_
    refine jc_get (n := 21) (k := 0) (v := nI (tN (M (135 + 5 * q) 0))) dX9_item_18 rfl fX9_318 (hr.slc (by omega)) (by omega) (hr.hi (by omega)) ((show _ = M (135 + 5 * q) 0 from rfl).trans (nI_tN _).symm) ?_
    refine j_if_neN (n := 24) (tg := 27) dX9_item_21 rfl rfl (by omega) (fun h102 => ?_) (fun h102 => ?_)
    · refine j_aload_n (n := 28) dX9_item_27 rfl rfl ?_
      refine jc_get (n := 31) (k := 0) (v := nI (tN (M (135 + 5 * q) 0))) dX9_item_28 rfl fX9_318 (hr.slc (by omega)) (by omega) (hr.hi (by omega)) ((show _ = M (135 + 5 * q) 0 from rfl).trans (nI_tN _).symm) ?_
      refine j_iconst (n := 32) (v := nI 2) dX9_item_31 rfl rfl ?_
      refine j_icmp_eqT (n := 35) (tg := 38) dX9_item_32 rfl rfl (i_N (by omega)) (i_N (by omega)) (fun h103 => ?_) (fun h103 => ?_)
      · refine j_aload_n (n := 39) dX9_item_38 rfl rfl ?_
        refine j_getr (n := 42) (k := 2) (b := 138 + 5 * q) dX9_item_39 rfl fX9_328 (hr.slc (by omega)) (by omega) (hr.hi (by omega)) (hr.sl2 (by omega)) ?_
        refine j_iload_n (n := 43) dX9_item_42 rfl rfl ?_
        refine j_cV (n := 46) dX9_item_43 rfl sX9_287 (c_hasPlace d G _ _ (138 + 5 * q) (hr.sls (i := q) (by omega)) (tN (M (138 + 5 * q) 1)) ((show _ = M (138 + 5 * q) 1 from rfl).trans (nI_tN _).symm) (by omega) _) (by omega) (by decide) rfl rfl (Nat.le_of_ble_eq_true rfl) ((hr.sls (i := q) (by omega))).2.2.1 ((hr.sls (i := q) (by omega))).1 (Nat.lt_of_succ_lt ((hr.sls (i := q) (by omega))).2.1) (by decide) (by decide) ?_
        refine j_if_neB (n := 49) (tg := 53) dX9_item_46 rfl rfl (fun h104 => ?_) (fun h104 => ?_)
        · obtain ⟨pl, hpl_, rfl⟩ := i_of (x := place) (n := 24) (by omega) (by omega)
          have epl : tN (nI pl) = pl := tN_nI (by omega)
          have ipl : (nI pl).toInt = pl := i_N (by omega)
          refine j_aload_n (n := 54) dX9_item_53 rfl rfl ?_
          refine j_getr (n := 57) (k := 2) (b := 138 + 5 * q) dX9_item_54 rfl fX9_328 (hr.slc (by omega)) (by omega) (hr.hi (by omega)) (hr.sl2 (by omega)) ?_
          refine j_iload_n (n := 58) dX9_item_57 rfl rfl ?_
          refine j_cV (n := 61) dX9_item_58 rfl sX9_300 (c_isNumber d G _ _ (138 + 5 * q) (hr.sls (i := q) (by omega)) pl (by omega) _ (by show _ = _; exact rfl)) (by omega) (by decide) rfl rfl (Nat.le_of_ble_eq_true rfl) ((hr.sls (i := q) (by omega))).2.2.1 ((hr.sls (i := q) (by omega))).1 (Nat.lt_of_succ_lt ((hr.sls (i := q) (by omega))).2.1) (by decide) (by decide) ?_
          refine j_if_eqB (n := 64) (tg := 76) dX9_item_61 rfl rfl (fun h105 => ?_) (fun h105 => ?_)
          · refine j_ldc (n := 78) (v := -1000000012) dX9_item_76 rfl kX9_113 ?_
            exact j_ri dX9_item_78 rfl (Nat.le_refl _) (Nat.le_refl _) (by unfold r_item; (try simp only [eq]); (try simp only [epl]); (repeat (first | rw [if_pos (by omega)] | rw [if_neg (by omega)])); all_goals rfl) rfl rfl
          · refine j_aload_n (n := 65) dX9_item_64 rfl rfl ?_
            refine j_getr (n := 68) (k := 2) (b := 138 + 5 * q) dX9_item_65 rfl fX9_328 (hr.slc (by omega)) (by omega) (hr.hi (by omega)) (hr.sl2 (by omega)) ?_
            refine j_getr (n := 71) (k := 2) (b := 138 + 5 * q + 1) dX9_item_68 rfl fX9_292 ((hr.sls (i := q) (by omega))).2.2.1 ((hr.sls (i := q) (by omega))).1 (Nat.lt_of_succ_lt ((hr.sls (i := q) (by omega))).2.1) ((hr.sls (i := q) (by omega))).2.2.2.1 ?_
            refine j_iload_n (n := 72) dX9_item_71 rfl rfl ?_
            refine j_ialdN (n := 73) (L := 24) (a := 138 + 5 * q + 1) (i := pl) (v := M (138 + 5 * q + 1) pl) dX9_item_72 rfl ((hr.sls (i := q) (by omega))).2.2.2.2.1 ((hr.sls (i := q) (by omega))).2.2.2.2.2 (by omega) (by decide) (Nat.le_succ_of_le ((hr.sls (i := q) (by omega))).1) ((hr.sls (i := q) (by omega))).2.1 rfl ?_
            refine j_goto (n := 78) dX9_item_73 rfl ?_
            exact j_ri dX9_item_78 rfl (Nat.le_refl _) (Nat.le_refl _) (by unfold r_item; (try simp only [eq]); (try simp only [epl]); (repeat (first | rw [if_pos (by omega)] | rw [if_neg (by omega)])); all_goals rfl) rfl rfl
        · refine j_ldcw (n := 52) (v := -1000000013) dX9_item_49 rfl kX9_290 ?_
          exact j_ri dX9_item_52 rfl (Nat.le_refl _) (Nat.le_refl _) (by unfold r_item; (try simp only [eq]); (try simp only [epl]); (repeat (first | rw [if_pos (by omega)] | rw [if_neg (by omega)])); all_goals rfl) rfl rfl
      · refine j_ldc (n := 37) (v := -1000000012) dX9_item_35 rfl kX9_113 ?_
        exact j_ri dX9_item_37 rfl (Nat.le_refl _) (Nat.le_refl _) (by unfold r_item; (try simp only [eq]); (try simp only [epl]); (repeat (first | rw [if_pos (by omega)] | rw [if_neg (by omega)])); all_goals rfl) rfl rfl
    · refine j_ldc (n := 26) (v := -1000000011) dX9_item_24 rfl kX9_237 ?_
      exact j_ri dX9_item_26 rfl (Nat.le_refl _) (Nat.le_refl _) (by unfold r_item; (try simp only [eq]); (try simp only [epl]); (repeat (first | rw [if_pos (by omega)] | rw [if_neg (by omega)])); all_goals rfl) rfl rfl
  · refine j_ldc (n := 9) (v := -1000000001) dX9_item_7 rfl kX9_71 ?_
    exact j_ri dX9_item_9 rfl (Nat.le_refl _) (Nat.le_refl _) (by unfold r_item; (try simp only [eq]); (try simp only [epl]); (repeat (first | rw [if_pos (by omega)] | rw [if_neg (by omega)])); all_goals rfl) rfl rfl
theorem k_ask (d : Nat) (G : zG) (M : zMem) (X : zX) (hr : kR X) (hG : gOK G) (hh : wfHC M) (slot kind : Int32) : zCall G miX9_ask (d + 2) [.ref 16, .int slot, .int kind] (zI (r_ask slot (tN (M (135 + 5 * tN slot) 0)) (tN (M (136 + 5 * tN slot) 0)) (slW M (tN slot)) kind) M X) M X 0 0 := by
  refine zCall.of (lv := [some (.ref 16), some (.int slot), some (.int kind), none]) (by decide) (Nat.le_of_ble_eq_true rfl) rfl ?_
  refine j_iload_n (n := 1) dX9_ask_0 rfl rfl ?_
  refine j_cS (n := 4) dX9_ask_1 rfl sX9_315 (k_isSlot (d + 1) G _ _ _) (by omega) (by decide) rfl rfl (Nat.le_of_ble_eq_true rfl) (by decide) (by decide) ?_
  refine j_if_eqB (n := 7) (tg := 14) dX9_ask_4 rfl rfl (fun h101 => ?_) (fun h101 => ?_)
  · refine j_ldc (n := 16) (v := -1000000001) dX9_ask_14 rfl kX9_71 ?_
    exact j_ri dX9_ask_16 rfl (Nat.le_refl _) (Nat.le_refl _) (by unfold r_ask; (try simp only [eq, ekd]); (repeat (first | rw [if_pos (by omega)] | rw [if_neg (by omega)])); all_goals rfl) rfl rfl
  · refine j_iload_n (n := 8) dX9_ask_7 rfl rfl ?_
    refine j_cS (n := 11) dX9_ask_8 rfl sX9_61 (k_isKind (d + 1) G _ _ _) (by omega) (by decide) rfl rfl (Nat.le_of_ble_eq_true rfl) (by decide) (by decide) ?_
    refine j_if_neB (n := 14) (tg := 17) dX9_ask_11 rfl rfl (fun h102 => ?_) (fun h102 => ?_)
    · obtain ⟨q, hq_, rfl⟩ := i_of (x := slot) (n := 5) (by omega) (by omega)
      have eq : tN (nI q) = q := tN_nI (by omega)
      have iq : (nI q).toInt = q := i_N (by omega)
      obtain ⟨kd, hkd_, rfl⟩ := i_of (x := kind) (n := 6) (by omega) (by omega)
      have ekd : tN (nI kd) = kd := tN_nI (by omega)
      have ikd : (nI kd).toInt = kd := i_N (by omega)
      have hhq := hh q hq_
      refine j_aload_n (n := 18) dX9_ask_17 rfl rfl ?_
      refine j_getr (n := 21) (k := 9) (b := 124) dX9_ask_18 rfl fX9_48 (hr).c (by decide) ((hr).hi (by decide)) (hr.f (k := 9) rfl (by decide)) ?_
      refine j_iload_n (n := 22) dX9_ask_21 rfl rfl ?_
      refine jc_aald (n := 23) (t := 6) (L := 5) (i := q) (b := 135 + 5 * q) dX9_ask_22 rfl (hr.a (a := 124) rfl (by decide) rfl).1 (by decide) rfl (hr.a (a := 124) rfl (by decide) rfl).2 (by omega) (by decide) (by decide) (hr.hi (by decide)) (hr.sle (by omega)) ?_
      refine j_astore_n (n := 24) (lv2 := [some (.ref 16), some (.int (nI q)), some (.int (nI kd)), some (.ref (135 + 5 * q))]) dX9_ask_23 rfl rfl (by decide) rfl ?_
      refine j_aload_n (n := 25) dX9_ask_24 rfl rfl ?_
      refine jc_get (n := 28) (k := 0) (v := nI (tN (M (135 + 5 * q) 0))) dX9_ask_25 rfl fX9_318 (hr.slc (by omega)) (by omega) (hr.hi (by omega)) ((show _ = M (135 + 5 * q) 0 from rfl).trans (nI_tN _).symm) ?_
      refine j_if_neN (n := 31) (tg := 34) dX9_ask_28 rfl rfl (by omega) (fun h103 => ?_) (fun h103 => ?_)
      · refine j_aload_n (n := 35) dX9_ask_34 rfl rfl ?_
        refine jc_get (n := 38) (k := 0) (v := nI (tN (M (135 + 5 * q) 0))) dX9_ask_35 rfl fX9_318 (hr.slc (by omega)) (by omega) (hr.hi (by omega)) ((show _ = M (135 + 5 * q) 0 from rfl).trans (nI_tN _).symm) ?_
        refine j_iconst (n := 39) (v := nI 1) dX9_ask_38 rfl rfl ?_
        refine j_icmp_neT (n := 42) (tg := 56) dX9_ask_39 rfl rfl (i_N (by omega)) (i_N (by omega)) (fun h104 => ?_) (fun h104 => ?_)
        · refine j_ldc (n := 58) (v := -1000000012) dX9_ask_56 rfl kX9_113 ?_
          exact j_ri dX9_ask_58 rfl (Nat.le_refl _) (Nat.le_refl _) (by unfold r_ask; (try simp only [eq, ekd]); (repeat (first | rw [if_pos (by omega)] | rw [if_neg (by omega)])); all_goals rfl) rfl rfl
        · refine j_aload_n (n := 43) dX9_ask_42 rfl rfl ?_
          refine j_getr (n := 46) (k := 1) (b := 136 + 5 * q) dX9_ask_43 rfl fX9_321 (hr.slc (by omega)) (by omega) (hr.hi (by omega)) (hr.sl1 (by omega)) ?_
          refine jc_get (n := 49) (k := 0) (v := nI (tN (M (136 + 5 * q) 0))) dX9_ask_46 rfl fX9_90 ((hr.slp (i := q) (by omega))).2.2.1 ((hr.slp (i := q) (by omega))).1 (Nat.lt_of_succ_lt ((hr.slp (i := q) (by omega))).2.1) (nI_tN _).symm ?_
          refine j_iload_n (n := 50) dX9_ask_49 rfl rfl ?_
          refine j_cS (n := 53) dX9_ask_50 rfl sX9_107 (c_isOfK (d + 1) G _ _ hG (tN (M (136 + 5 * q) 0)) kd (by omega) (by omega)) (by omega) (by decide) rfl rfl (Nat.le_of_ble_eq_true rfl) (by decide) (by decide) ?_
          refine j_if_neB (n := 56) (tg := 59) dX9_ask_53 rfl rfl (fun h105 => ?_) (fun h105 => ?_)
          · refine j_aload_n (n := 60) dX9_ask_59 rfl rfl ?_
            refine j_getr (n := 63) (k := 1) (b := 136 + 5 * q) dX9_ask_60 rfl fX9_321 (hr.slc (by omega)) (by omega) (hr.hi (by omega)) (hr.sl1 (by omega)) ?_
            refine j_cV (n := 66) dX9_ask_63 rfl sX9_103 (c_worthP d G _ _ (136 + 5 * q) (hr.slp (i := q) (by omega)) (tN (M (136 + 5 * q) 0)) (by omega) (nI_tN _).symm (tN (M (136 + 5 * q + 1) 0)) (tN (M (136 + 5 * q + 1) 1)) (tN (M (136 + 5 * q + 1) 2)) (nI_tN _).symm (nI_tN _).symm (nI_tN _).symm (by omega)) (by omega) (by decide) rfl rfl (Nat.le_of_ble_eq_true rfl) ((hr.slp (i := q) (by omega))).2.2.1 ((hr.slp (i := q) (by omega))).1 (Nat.lt_of_succ_lt ((hr.slp (i := q) (by omega))).2.1) (by decide) (by decide) ?_
            exact j_ri dX9_ask_66 rfl (Nat.le_refl _) (Nat.le_refl _) (by unfold r_ask; (try simp only [eq, ekd]); (repeat (first | rw [if_pos (by omega)] | rw [if_neg (by omega)])); all_goals rfl) rfl rfl
          · refine j_ldc (n := 58) (v := -1000000012) dX9_ask_56 rfl kX9_113 ?_
            exact j_ri dX9_ask_58 rfl (Nat.le_refl _) (Nat.le_refl _) (by unfold r_ask; (try simp only [eq, ekd]); (repeat (first | rw [if_pos (by omega)] | rw [if_neg (by omega)])); all_goals rfl) rfl rfl
      · refine j_ldc (n := 33) (v := -1000000011) dX9_ask_31 rfl kX9_237 ?_
        exact j_ri dX9_ask_33 rfl (Nat.le_refl _) (Nat.le_refl _) (by unfold r_ask; (try simp only [eq, ekd]); (repeat (first | rw [if_pos (by omega)] | rw [if_neg (by omega)])); all_goals rfl) rfl rfl
    · refine j_ldc (n := 16) (v := -1000000001) dX9_ask_14 rfl kX9_71 ?_
      exact j_ri dX9_ask_16 rfl (Nat.le_refl _) (Nat.le_refl _) (by unfold r_ask; (try simp only [eq, ekd]); (repeat (first | rw [if_pos (by omega)] | rw [if_neg (by omega)])); all_goals rfl) rfl rfl
def mC_lay (M : zMem) (c : Nat → Nat) (slot thing kk : Int32) : zMem := if ¬ ((0 ≤ slot.toInt ∧ slot.toInt ≤ 4) ∧ (thing.toInt = 0 ∨ thing.toInt = 3 ∨ (thing.toInt = 1 ∧ 0 ≤ kk.toInt ∧ kk.toInt ≤ (c 0 : Int) - 1) ∨ (thing.toInt = 2 ∧ 0 ≤ kk.toInt ∧ kk.toInt ≤ 3))) then M else if thing.toInt = 2 ∧ (M (127 + 2 * tN kk) 0).toInt < 0 then M else
  if thing.toInt = 2 then asS (zs M (135 + 5 * tN slot) (upd (M (135 + 5 * tN slot)) 0 thing)) (138 + 5 * tN slot) (127 + 2 * tN kk)
  else if thing.toInt = 1 then beP (zs M (135 + 5 * tN slot) (upd (M (135 + 5 * tN slot)) 0 thing)) (136 + 5 * tN slot) (nI (c (10 + 5 * tN kk + 0))) (nI (c (10 + 5 * tN kk + 1))) (nI (c (10 + 5 * tN kk + 2))) (nI (c (10 + 5 * tN kk + 3))) (nI (c (10 + 5 * tN kk + 4)))
  else zs M (135 + 5 * tN slot) (upd (upd (M (135 + 5 * tN slot)) 0 thing) 3 kk)
theorem cm_wo2 {M : zMem} {B : Nat} {c : Nat → Nat} {a : Nat} (h : ∀ k, ix B a k = none) (g : (Nat → Int32) → Nat → Int32) : zs (cm M B c) a (g (cm M B c a)) = cm (zs M a (g (M a))) B c := by
  rw [cm_o h, cm_wo h]
theorem beP_cm {M : zMem} {B a : Nat} {c : Nat → Nat} (h : ∀ k, ix B a k = none) (h1 : ∀ k, ix B (a + 1) k = none) (x y u v w : Int32) : beP (cm M B c) a x y u v w = cm (beP M a x y u v w) B c := by
  unfold beP
  rw [cm_o h, cm_wo h, cm_o h1, cm_wo h1]
theorem asS_cm {M : zMem} {B a b : Nat} {c : Nat → Nat} (h : ∀ k, ix B a k = none) (h1 : ∀ k, ix B (a + 1) k = none) (h2 : ∀ k, ix B b k = none) (h3 : ∀ k, ix B (b + 1) k = none) : asS (cm M B c) a b = cm (asS M a b) B c := by
  unfold asS
  rw [cm_o h, cm_o h2, cm_wo h, cm_o h1, cm_o h3, cm_wo h1]
theorem k_lay (d : Nat) (G : zG) (M : zMem) (X : zX) (hr : kR X) (c : Nat → Nat) (hsc : wfSC M) (hw : wfO c) (slot thing kk : Int32) : zCall G miX9_lay (d + 2) [.ref 16, .int slot, .int thing, .int kk] (zI (r_lay c slot thing kk (M (127 + 2 * tN kk) 0) (M (135 + 5 * tN slot) 0)) (cm (mC_lay M c slot thing kk) 17 c) X) (cm M 17 c) X 0 0 := by
  refine zCall.of (lv := [some (.ref 16), some (.int slot), some (.int thing), some (.int kk), none, none]) (by decide) (Nat.le_of_ble_eq_true rfl) rfl ?_
  have hw0 := hw.1
  refine j_iload_n (n := 1) dX9_lay_0 rfl rfl ?_
  refine j_cS (n := 4) dX9_lay_1 rfl sX9_315 (k_isSlot (d + 1) G _ _ _) (by omega) (by decide) rfl rfl (Nat.le_of_ble_eq_true rfl) (by decide) (by decide) ?_
  refine j_if_eqB (n := 7) (tg := 16) dX9_lay_4 rfl rfl (fun h101 => ?_) (fun h101 => ?_)
  · refine j_ldc (n := 18) (v := -1000000001) dX9_lay_16 rfl kX9_71 ?_
    exact j_ri dX9_lay_18 rfl (Nat.le_refl _) (Nat.le_refl _) (by unfold r_lay; (try simp only [eq]); (try simp only [ek]); (repeat (first | rw [if_pos (by omega)] | rw [if_neg (by omega)])); all_goals first | rfl | exact nI_tN _) (congrArg (fun z => cm z 17 c) (by unfold mC_lay; (try simp only [eq]); (try simp only [ek]); (repeat (first | rw [if_pos (by omega)] | rw [if_neg (by omega)])); all_goals rfl)) rfl
  · refine j_iload_n (n := 8) dX9_lay_7 rfl rfl ?_
    refine j_if_ltT (n := 11) (tg := 16) dX9_lay_8 rfl rfl (fun h102 => ?_) (fun h102 => ?_)
    · refine j_ldc (n := 18) (v := -1000000001) dX9_lay_16 rfl kX9_71 ?_
      exact j_ri dX9_lay_18 rfl (Nat.le_refl _) (Nat.le_refl _) (by unfold r_lay; (try simp only [eq]); (try simp only [ek]); (repeat (first | rw [if_pos (by omega)] | rw [if_neg (by omega)])); all_goals first | rfl | exact nI_tN _) (congrArg (fun z => cm z 17 c) (by unfold mC_lay; (try simp only [eq]); (try simp only [ek]); (repeat (first | rw [if_pos (by omega)] | rw [if_neg (by omega)])); all_goals rfl)) rfl
    · refine j_iload_n (n := 12) dX9_lay_11 rfl rfl ?_
      refine j_iconst (n := 13) (v := nI 3) dX9_lay_12 rfl rfl ?_
      refine j_icmp_leT (n := 16) (tg := 19) dX9_lay_13 rfl rfl rfl (i_N (by omega)) (fun h103 => ?_) (fun h103 => ?_)
      · obtain ⟨q, hq_, rfl⟩ := i_of (x := slot) (n := 5) (by omega) (by omega)
        have eq : tN (nI q) = q := tN_nI (by omega)
        have iq : (nI q).toInt = q := i_N (by omega)
        refine j_iload_n (n := 20) dX9_lay_19 rfl rfl ?_
        refine j_iconst (n := 21) (v := nI 1) dX9_lay_20 rfl rfl ?_
        refine j_icmp_neT (n := 24) (tg := 32) dX9_lay_21 rfl rfl rfl (i_N (by omega)) (fun h104 => ?_) (fun h104 => ?_)
        · refine j_iload_n (n := 33) dX9_lay_32 rfl rfl ?_
          refine j_iconst (n := 34) (v := nI 2) dX9_lay_33 rfl rfl ?_
          refine j_icmp_neT (n := 37) (tg := 47) dX9_lay_34 rfl rfl rfl (i_N (by omega)) (fun h105 => ?_) (fun h105 => ?_)
          · refine j_iload_n (n := 48) dX9_lay_47 rfl rfl ?_
            refine j_iconst (n := 49) (v := nI 2) dX9_lay_48 rfl rfl ?_
            refine j_icmp_neT (n := 52) (tg := 67) dX9_lay_49 rfl rfl rfl (i_N (by omega)) (fun h106 => ?_) (fun h106 => ?_)
            · refine j_aload_n (n := 68) dX9_lay_67 rfl rfl ?_
              refine j_getr (n := 71) (k := 9) (b := 124) dX9_lay_68 rfl fX9_48 (hr).c (by decide) ((hr).hi (by decide)) (hr.f (k := 9) rfl (by decide)) ?_
              refine j_iload_n (n := 72) dX9_lay_71 rfl rfl ?_
              refine jc_aald (n := 73) (t := 6) (L := 5) (i := q) (b := 135 + 5 * q) dX9_lay_72 rfl (hr.a (a := 124) rfl (by decide) rfl).1 (by decide) rfl (hr.a (a := 124) rfl (by decide) rfl).2 (by omega) (by decide) (by decide) (hr.hi (by decide)) (hr.sle (by omega)) ?_
              refine j_astore (n := 75) (lv2 := [some (.ref 16), some (.int (nI q)), some (.int thing), some (.int kk), some (.ref (135 + 5 * q)), none]) dX9_lay_73 rfl rfl (by decide) rfl ?_
              refine j_aload (n := 77) dX9_lay_75 rfl rfl ?_
              refine jc_get (n := 80) (k := 0) (v := nI (tN (M (135 + 5 * q) 0))) dX9_lay_77 rfl fX9_318 (hr.slc (by omega)) (by omega) (hr.hi (by omega)) ((show _ = M (135 + 5 * q) 0 from ((congrFun (cm_o (ix_n (by omega))) _).trans rfl)).trans (nI_tN _).symm) ?_
              refine j_istore (n := 82) (lv2 := [some (.ref 16), some (.int (nI q)), some (.int thing), some (.int kk), some (.ref (135 + 5 * q)), some (.int (nI (tN (M (135 + 5 * q) 0))))]) dX9_lay_80 rfl rfl (by decide) rfl ?_
              refine j_aload (n := 84) dX9_lay_82 rfl rfl ?_
              refine j_iload_n (n := 85) dX9_lay_84 rfl rfl ?_
              refine jc_put (n := 88) (k := 0) (x := thing) (M2 := cm (zs M (135 + 5 * q) (upd (M (135 + 5 * q)) 0 thing)) 17 c) dX9_lay_85 rfl pX9_318 (fun h => by cases h) rfl rfl (hr.slc (by omega)) (by omega) (hr.hi (by omega)) ((cm_wo (ix_n (by omega)) _).trans (congrArg (fun q => cm q _ _) ((congrArg (fun f => zs _ _ (upd f _ _)) (cm_o (ix_n (by omega)))).trans rfl))) ?_
              refine j_iload_n (n := 89) dX9_lay_88 rfl rfl ?_
              refine j_iconst (n := 90) (v := nI 1) dX9_lay_89 rfl rfl ?_
              refine j_icmp_neT (n := 93) (tg := 113) dX9_lay_90 rfl rfl rfl (i_N (by omega)) (fun h107 => ?_) (fun h107 => ?_)
              · refine j_iload_n (n := 114) dX9_lay_113 rfl rfl ?_
                refine j_iconst (n := 115) (v := nI 2) dX9_lay_114 rfl rfl ?_
                refine j_icmp_neT (n := 118) (tg := 135) dX9_lay_115 rfl rfl rfl (i_N (by omega)) (fun h108 => ?_) (fun h108 => ?_)
                · refine j_aload (n := 137) dX9_lay_135 rfl rfl ?_
                  refine j_iload_n (n := 138) dX9_lay_137 rfl rfl ?_
                  refine jc_put (n := 141) (k := 3) (x := kk) (M2 := cm (zs M (135 + 5 * q) (upd (upd (M (135 + 5 * q)) 0 thing) 3 kk)) 17 c) dX9_lay_138 rfl pX9_334 (fun h => by cases h) rfl rfl (hr.slc (by omega)) (by omega) (hr.hi (by omega)) ((cm_wo (ix_n (by omega)) _).trans (congrArg (fun q => cm q _ _) ((congrArg (fun f => zs _ _ (upd f _ _)) (cm_o (ix_n (by omega)))).trans (by rw [zs_eq, zs_zs])))) ?_
                  refine j_iload (n := 143) dX9_lay_141 rfl rfl ?_
                  exact j_ri dX9_lay_143 rfl (Nat.le_refl _) (Nat.le_refl _) (by unfold r_lay; (try simp only [eq]); (try simp only [ek]); (repeat (first | rw [if_pos (by omega)] | rw [if_neg (by omega)])); all_goals first | rfl | exact nI_tN _) (congrArg (fun z => cm z 17 c) (by unfold mC_lay; (try simp only [eq]); (try simp only [ek]); (repeat (first | rw [if_pos (by omega)] | rw [if_neg (by omega)])); all_goals rfl)) rfl
                · exfalso; omega
              · exfalso; omega
            · exfalso; omega
          · refine j_iload_n (n := 38) dX9_lay_37 rfl rfl ?_
            refine j_cS (n := 41) dX9_lay_38 rfl sX9_230 (k_isSheet (d + 1) G _ _ _) (by omega) (by decide) rfl rfl (Nat.le_of_ble_eq_true rfl) (by decide) (by decide) ?_
            refine j_if_neB (n := 44) (tg := 47) dX9_lay_41 rfl rfl (fun h109 => ?_) (fun h109 => ?_)
            · obtain ⟨k, hk_, rfl⟩ := i_of (x := kk) (n := 4) (by omega) (by omega)
              have ek : tN (nI k) = k := tN_nI (by omega)
              have ik : (nI k).toInt = k := i_N (by omega)
              have hsq := hsc k hk_
              refine j_iload_n (n := 48) dX9_lay_47 rfl rfl ?_
              refine j_iconst (n := 49) (v := nI 2) dX9_lay_48 rfl rfl ?_
              refine j_icmp_neT (n := 52) (tg := 67) dX9_lay_49 rfl rfl rfl (i_N (by omega)) (fun h110 => ?_) (fun h110 => ?_)
              · exfalso; omega
              · refine j_aload_n (n := 53) dX9_lay_52 rfl rfl ?_
                refine j_getr (n := 56) (k := 8) (b := 123) dX9_lay_53 rfl fX9_42 (hr).c (by decide) ((hr).hi (by decide)) (hr.f (k := 8) rfl (by decide)) ?_
                refine j_iload_n (n := 57) dX9_lay_56 rfl rfl ?_
                refine jc_aald (n := 58) (t := 5) (L := 4) (i := k) (b := 127 + 2 * k) dX9_lay_57 rfl (hr.a (a := 123) rfl (by decide) rfl).1 (by decide) rfl (hr.a (a := 123) rfl (by decide) rfl).2 (by omega) (by decide) (by decide) (hr.hi (by decide)) (hr.she (by omega)) ?_
                refine j_cV (n := 61) dX9_lay_58 rfl sX9_233 (c_isMissing (d + 1) G _ _ (127 + 2 * k) (hr.sh (i := k) (by omega)) _ ((congrFun (cm_o (ix_n (by omega))) _).trans rfl)) (by omega) (by decide) rfl rfl (Nat.le_of_ble_eq_true rfl) ((hr.sh (i := k) (by omega))).2.2.1 ((hr.sh (i := k) (by omega))).1 (Nat.lt_of_succ_lt ((hr.sh (i := k) (by omega))).2.1) (by decide) (by decide) ?_
                refine j_if_eqB (n := 64) (tg := 67) dX9_lay_61 rfl rfl (fun h111 => ?_) (fun h111 => ?_)
                · refine j_aload_n (n := 68) dX9_lay_67 rfl rfl ?_
                  refine j_getr (n := 71) (k := 9) (b := 124) dX9_lay_68 rfl fX9_48 (hr).c (by decide) ((hr).hi (by decide)) (hr.f (k := 9) rfl (by decide)) ?_
                  refine j_iload_n (n := 72) dX9_lay_71 rfl rfl ?_
                  refine jc_aald (n := 73) (t := 6) (L := 5) (i := q) (b := 135 + 5 * q) dX9_lay_72 rfl (hr.a (a := 124) rfl (by decide) rfl).1 (by decide) rfl (hr.a (a := 124) rfl (by decide) rfl).2 (by omega) (by decide) (by decide) (hr.hi (by decide)) (hr.sle (by omega)) ?_
                  refine j_astore (n := 75) (lv2 := [some (.ref 16), some (.int (nI q)), some (.int thing), some (.int (nI k)), some (.ref (135 + 5 * q)), none]) dX9_lay_73 rfl rfl (by decide) rfl ?_
                  refine j_aload (n := 77) dX9_lay_75 rfl rfl ?_
                  refine jc_get (n := 80) (k := 0) (v := nI (tN (M (135 + 5 * q) 0))) dX9_lay_77 rfl fX9_318 (hr.slc (by omega)) (by omega) (hr.hi (by omega)) ((show _ = M (135 + 5 * q) 0 from ((congrFun (cm_o (ix_n (by omega))) _).trans rfl)).trans (nI_tN _).symm) ?_
                  refine j_istore (n := 82) (lv2 := [some (.ref 16), some (.int (nI q)), some (.int thing), some (.int (nI k)), some (.ref (135 + 5 * q)), some (.int (nI (tN (M (135 + 5 * q) 0))))]) dX9_lay_80 rfl rfl (by decide) rfl ?_
                  refine j_aload (n := 84) dX9_lay_82 rfl rfl ?_
                  refine j_iload_n (n := 85) dX9_lay_84 rfl rfl ?_
                  refine jc_put (n := 88) (k := 0) (x := thing) (M2 := cm (zs M (135 + 5 * q) (upd (M (135 + 5 * q)) 0 thing)) 17 c) dX9_lay_85 rfl pX9_318 (fun h => by cases h) rfl rfl (hr.slc (by omega)) (by omega) (hr.hi (by omega)) ((cm_wo (ix_n (by omega)) _).trans (congrArg (fun q => cm q _ _) ((congrArg (fun f => zs _ _ (upd f _ _)) (cm_o (ix_n (by omega)))).trans rfl))) ?_
                  refine j_iload_n (n := 89) dX9_lay_88 rfl rfl ?_
                  refine j_iconst (n := 90) (v := nI 1) dX9_lay_89 rfl rfl ?_
                  refine j_icmp_neT (n := 93) (tg := 113) dX9_lay_90 rfl rfl rfl (i_N (by omega)) (fun h112 => ?_) (fun h112 => ?_)
                  · refine j_iload_n (n := 114) dX9_lay_113 rfl rfl ?_
                    refine j_iconst (n := 115) (v := nI 2) dX9_lay_114 rfl rfl ?_
                    refine j_icmp_neT (n := 118) (tg := 135) dX9_lay_115 rfl rfl rfl (i_N (by omega)) (fun h113 => ?_) (fun h113 => ?_)
                    · exfalso; omega
                    · refine j_aload (n := 120) dX9_lay_118 rfl rfl ?_
                      refine j_getr (n := 123) (k := 2) (b := 138 + 5 * q) dX9_lay_120 rfl fX9_328 (hr.slc (by omega)) (by omega) (hr.hi (by omega)) (hr.sl2 (by omega)) ?_
                      refine j_aload_n (n := 124) dX9_lay_123 rfl rfl ?_
                      refine j_getr (n := 127) (k := 8) (b := 123) dX9_lay_124 rfl fX9_42 (hr).c (by decide) ((hr).hi (by decide)) (hr.f (k := 8) rfl (by decide)) ?_
                      refine j_iload_n (n := 128) dX9_lay_127 rfl rfl ?_
                      refine jc_aald (n := 129) (t := 5) (L := 4) (i := k) (b := 127 + 2 * k) dX9_lay_128 rfl (hr.a (a := 123) rfl (by decide) rfl).1 (by decide) rfl (hr.a (a := 123) rfl (by decide) rfl).2 (by omega) (by decide) (by decide) (hr.hi (by decide)) (hr.she (by omega)) ?_
                      refine j_cVv (n := 132) dX9_lay_129 rfl sX9_332 (c_becomeAsS d G _ _ (138 + 5 * q) (hr.sls (i := q) (by omega)) (127 + 2 * k) (hr.sh (i := k) (by omega)) (by omega) (by omega)) (by omega) (by decide) rfl rfl (Nat.le_of_ble_eq_true rfl) ((hr.sls (i := q) (by omega))).2.2.1 ((hr.sls (i := q) (by omega))).1 (Nat.lt_of_succ_lt ((hr.sls (i := q) (by omega))).2.1) (by decide) (by decide) ?_
                      refine j_mem (M2 := cm (asS (zs M (135 + 5 * q) (upd (M (135 + 5 * q)) 0 thing)) (138 + 5 * q) (127 + 2 * k)) 17 c) (asS_cm (ix_n (by omega)) (ix_n (by omega)) (ix_n (by omega)) (ix_n (by omega))) ?_
                      refine j_goto (n := 141) dX9_lay_132 rfl ?_
                      refine j_iload (n := 143) dX9_lay_141 rfl rfl ?_
                      exact j_ri dX9_lay_143 rfl (Nat.le_refl _) (Nat.le_refl _) (by unfold r_lay; (try simp only [eq]); (try simp only [ek]); (repeat (first | rw [if_pos (by omega)] | rw [if_neg (by omega)])); all_goals first | rfl | exact nI_tN _) (congrArg (fun z => cm z 17 c) (by unfold mC_lay; (try simp only [eq]); (try simp only [ek]); (repeat (first | rw [if_pos (by omega)] | rw [if_neg (by omega)])); all_goals rfl)) rfl
                  · exfalso; omega
                · refine j_ldc (n := 66) (v := -1000000011) dX9_lay_64 rfl kX9_237 ?_
                  exact j_ri dX9_lay_66 rfl (Nat.le_refl _) (Nat.le_refl _) (by unfold r_lay; (try simp only [eq]); (try simp only [ek]); (repeat (first | rw [if_pos (by omega)] | rw [if_neg (by omega)])); all_goals first | rfl | exact nI_tN _) (congrArg (fun z => cm z 17 c) (by unfold mC_lay; (try simp only [eq]); (try simp only [ek]); (repeat (first | rw [if_pos (by omega)] | rw [if_neg (by omega)])); all_goals rfl)) rfl
            · refine j_ldc (n := 46) (v := -1000000001) dX9_lay_44 rfl kX9_71 ?_
              exact j_ri dX9_lay_46 rfl (Nat.le_refl _) (Nat.le_refl _) (by unfold r_lay; (try simp only [eq]); (try simp only [ek]); (repeat (first | rw [if_pos (by omega)] | rw [if_neg (by omega)])); all_goals first | rfl | exact nI_tN _) (congrArg (fun z => cm z 17 c) (by unfold mC_lay; (try simp only [eq]); (try simp only [ek]); (repeat (first | rw [if_pos (by omega)] | rw [if_neg (by omega)])); all_goals rfl)) rfl
        · refine j_aload_n (n := 25) dX9_lay_24 rfl rfl ?_
          refine j_iload_n (n := 26) dX9_lay_25 rfl rfl ?_
          refine j_cV (n := 29) dX9_lay_26 rfl sX9_87 (k_isOne (d + 1) G _ _ hr _ (by omega) _) (by omega) (by decide) rfl rfl (Nat.le_of_ble_eq_true rfl) (hr).c (by decide) ((hr).hi (by decide)) (by decide) (by decide) ?_
          refine j_if_eqB (n := 32) (tg := 44) dX9_lay_29 rfl rfl (fun h114 => ?_) (fun h114 => ?_)
          · refine j_ldc (n := 46) (v := -1000000001) dX9_lay_44 rfl kX9_71 ?_
            exact j_ri dX9_lay_46 rfl (Nat.le_refl _) (Nat.le_refl _) (by unfold r_lay; (try simp only [eq]); (try simp only [ek]); (repeat (first | rw [if_pos (by omega)] | rw [if_neg (by omega)])); all_goals first | rfl | exact nI_tN _) (congrArg (fun z => cm z 17 c) (by unfold mC_lay; (try simp only [eq]); (try simp only [ek]); (repeat (first | rw [if_pos (by omega)] | rw [if_neg (by omega)])); all_goals rfl)) rfl
          · obtain ⟨k, hk_, rfl⟩ := i_of (x := kk) (n := c 0) (by omega) (by omega)
            have ek : tN (nI k) = k := tN_nI (by omega)
            have ik : (nI k).toInt = k := i_N (by omega)
            refine j_iload_n (n := 33) dX9_lay_32 rfl rfl ?_
            refine j_iconst (n := 34) (v := nI 2) dX9_lay_33 rfl rfl ?_
            refine j_icmp_neT (n := 37) (tg := 47) dX9_lay_34 rfl rfl rfl (i_N (by omega)) (fun h115 => ?_) (fun h115 => ?_)
            · refine j_iload_n (n := 48) dX9_lay_47 rfl rfl ?_
              refine j_iconst (n := 49) (v := nI 2) dX9_lay_48 rfl rfl ?_
              refine j_icmp_neT (n := 52) (tg := 67) dX9_lay_49 rfl rfl rfl (i_N (by omega)) (fun h116 => ?_) (fun h116 => ?_)
              · refine j_aload_n (n := 68) dX9_lay_67 rfl rfl ?_
                refine j_getr (n := 71) (k := 9) (b := 124) dX9_lay_68 rfl fX9_48 (hr).c (by decide) ((hr).hi (by decide)) (hr.f (k := 9) rfl (by decide)) ?_
                refine j_iload_n (n := 72) dX9_lay_71 rfl rfl ?_
                refine jc_aald (n := 73) (t := 6) (L := 5) (i := q) (b := 135 + 5 * q) dX9_lay_72 rfl (hr.a (a := 124) rfl (by decide) rfl).1 (by decide) rfl (hr.a (a := 124) rfl (by decide) rfl).2 (by omega) (by decide) (by decide) (hr.hi (by decide)) (hr.sle (by omega)) ?_
                refine j_astore (n := 75) (lv2 := [some (.ref 16), some (.int (nI q)), some (.int thing), some (.int (nI k)), some (.ref (135 + 5 * q)), none]) dX9_lay_73 rfl rfl (by decide) rfl ?_
                refine j_aload (n := 77) dX9_lay_75 rfl rfl ?_
                refine jc_get (n := 80) (k := 0) (v := nI (tN (M (135 + 5 * q) 0))) dX9_lay_77 rfl fX9_318 (hr.slc (by omega)) (by omega) (hr.hi (by omega)) ((show _ = M (135 + 5 * q) 0 from ((congrFun (cm_o (ix_n (by omega))) _).trans rfl)).trans (nI_tN _).symm) ?_
                refine j_istore (n := 82) (lv2 := [some (.ref 16), some (.int (nI q)), some (.int thing), some (.int (nI k)), some (.ref (135 + 5 * q)), some (.int (nI (tN (M (135 + 5 * q) 0))))]) dX9_lay_80 rfl rfl (by decide) rfl ?_
                refine j_aload (n := 84) dX9_lay_82 rfl rfl ?_
                refine j_iload_n (n := 85) dX9_lay_84 rfl rfl ?_
                refine jc_put (n := 88) (k := 0) (x := thing) (M2 := cm (zs M (135 + 5 * q) (upd (M (135 + 5 * q)) 0 thing)) 17 c) dX9_lay_85 rfl pX9_318 (fun h => by cases h) rfl rfl (hr.slc (by omega)) (by omega) (hr.hi (by omega)) ((cm_wo (ix_n (by omega)) _).trans (congrArg (fun q => cm q _ _) ((congrArg (fun f => zs _ _ (upd f _ _)) (cm_o (ix_n (by omega)))).trans rfl))) ?_
                refine j_iload_n (n := 89) dX9_lay_88 rfl rfl ?_
                refine j_iconst (n := 90) (v := nI 1) dX9_lay_89 rfl rfl ?_
                refine j_icmp_neT (n := 93) (tg := 113) dX9_lay_90 rfl rfl rfl (i_N (by omega)) (fun h117 => ?_) (fun h117 => ?_)
                · exfalso; omega
                · refine j_aload (n := 95) dX9_lay_93 rfl rfl ?_
                  refine j_getr (n := 98) (k := 1) (b := 136 + 5 * q) dX9_lay_95 rfl fX9_321 (hr.slc (by omega)) (by omega) (hr.hi (by omega)) (hr.sl1 (by omega)) ?_
                  refine j_aload_n (n := 99) dX9_lay_98 rfl rfl ?_
                  refine j_getr (n := 102) (k := 0) (b := 17) dX9_lay_99 rfl fX9_10 (hr).c (by decide) ((hr).hi (by decide)) (hr.f (k := 0) rfl (by decide)) ?_
                  refine j_getr (n := 105) (k := 0) (b := 18) dX9_lay_102 rfl fX9_77 (hr.1.1).c (hr.1.1).lo ((hr.1.1).hi (by omega)) (hr.1.1).r0 ?_
                  refine j_iload_n (n := 106) dX9_lay_105 rfl rfl ?_
                  refine jc_aald (n := 107) (t := 2) (L := 8) (i := k) (b := 17 + 5 + 2 * k) dX9_lay_106 rfl ((hr.1.1).a1).1 (by decide) rfl ((hr.1.1).a1).2 (by omega) (by decide) (by have := (hr.1.1).lo; omega) ((hr.1.1).hi (by omega)) ((hr.1.1).e1 (by omega)) ?_
                  refine j_cVv (n := 110) dX9_lay_107 rfl sX9_325 (c_becomeAsP d G _ _ (136 + 5 * q) (hr.slp (i := q) (by omega)) (17 + 5 + 2 * k) (hr.1.1.p (by omega))) (by omega) (by decide) rfl rfl (Nat.le_of_ble_eq_true rfl) ((hr.slp (i := q) (by omega))).2.2.1 ((hr.slp (i := q) (by omega))).1 (Nat.lt_of_succ_lt ((hr.slp (i := q) (by omega))).2.1) (by decide) (by decide) ?_
                  refine j_mem (M2 := cm (beP (zs M (135 + 5 * q) (upd (M (135 + 5 * q)) 0 thing)) (136 + 5 * q) (nI (c (10 + 5 * k + 0))) (nI (c (10 + 5 * k + 1))) (nI (c (10 + 5 * k + 2))) (nI (c (10 + 5 * k + 3))) (nI (c (10 + 5 * k + 4)))) 17 c) (by rw [show _ = nI (c (10 + 5 * k + 0)) from (cm_r (ix_p (by omega) (by decide) rfl)), show _ = nI (c (10 + 5 * k + 1)) from (cm_r (ix_p (by omega) (by decide) rfl)), show _ = nI (c (10 + 5 * k + 2)) from (cm_r (ix_r1 (by omega) (by omega) rfl)), show _ = nI (c (10 + 5 * k + 3)) from (cm_r (ix_r1 (by omega) (by omega) rfl)), show _ = nI (c (10 + 5 * k + 4)) from (cm_r (ix_r1 (by omega) (by omega) rfl))]; exact beP_cm (ix_n (by omega)) (ix_n (by omega)) _ _ _ _ _) ?_
                  refine j_goto (n := 141) dX9_lay_110 rfl ?_
                  refine j_iload (n := 143) dX9_lay_141 rfl rfl ?_
                  exact j_ri dX9_lay_143 rfl (Nat.le_refl _) (Nat.le_refl _) (by unfold r_lay; (try simp only [eq]); (try simp only [ek]); (repeat (first | rw [if_pos (by omega)] | rw [if_neg (by omega)])); all_goals first | rfl | exact nI_tN _) (congrArg (fun z => cm z 17 c) (by unfold mC_lay; (try simp only [eq]); (try simp only [ek]); (repeat (first | rw [if_pos (by omega)] | rw [if_neg (by omega)])); all_goals rfl)) rfl
              · exfalso; omega
            · exfalso; omega
      · refine j_ldc (n := 18) (v := -1000000001) dX9_lay_16 rfl kX9_71 ?_
        exact j_ri dX9_lay_18 rfl (Nat.le_refl _) (Nat.le_refl _) (by unfold r_lay; (try simp only [eq]); (try simp only [ek]); (repeat (first | rw [if_pos (by omega)] | rw [if_neg (by omega)])); all_goals first | rfl | exact nI_tN _) (congrArg (fun z => cm z 17 c) (by unfold mC_lay; (try simp only [eq]); (try simp only [ek]); (repeat (first | rw [if_pos (by omega)] | rw [if_neg (by omega)])); all_goals rfl)) rfl
def mC_tell (M : zMem) (v : Int32) : zMem := if tN (M 16 11) = 60 then M else zs (zs M 125 (upd (M 125) (tN (M 16 11)) v)) 16 (upd (M 16) 11 (nI (tN (M 16 11) + 1)))
def mC_trim (M : zMem) (n : Int32) : zMem := if ¬ (0 ≤ n.toInt ∧ n.toInt ≤ (tN (M 16 7) : Int)) then M else zs M 16 (upd (M 16) 7 n)
theorem k_tell (d : Nat) (G : zG) (M : zMem) (X : zX) (hr : kR X) (hwt : tN (M 16 11) ≤ 60) (v : Int32) : zCall G miX9_tell (d + 0) [.ref 16, .int v] (zI (r_tell (tN (M 16 11))) (mC_tell M v) X) M X 0 0 := by
  refine zCall.of (lv := [some (.ref 16), some (.int v)]) (by decide) (Nat.le_of_ble_eq_true rfl) rfl ?_
  refine j_aload_n (n := 1) dX9_tell_0 rfl rfl ?_
  refine jc_get (n := 4) (k := 11) (v := nI (tN (M 16 11))) dX9_tell_1 rfl fX9_335 (hr).c (by decide) ((hr).hi (by decide)) ((show _ = M 16 11 from rfl).trans (nI_tN _).symm) ?_
  refine j_bipush (n := 6) (v := nI 60) dX9_tell_4 rfl (by decide) ?_
  refine j_icmp_ltT (n := 9) (tg := 12) dX9_tell_6 rfl rfl (i_N (by omega)) (i_N (by omega)) (fun h101 => ?_) (fun h101 => ?_)
  · refine j_aload_n (n := 13) dX9_tell_12 rfl rfl ?_
    refine j_getr (n := 16) (k := 10) (b := 125) dX9_tell_13 rfl fX9_52 (hr).c (by decide) ((hr).hi (by decide)) (hr.f (k := 10) rfl (by decide)) ?_
    refine j_aload_n (n := 17) dX9_tell_16 rfl rfl ?_
    refine jc_get (n := 20) (k := 11) (v := nI (tN (M 16 11))) dX9_tell_17 rfl fX9_335 (hr).c (by decide) ((hr).hi (by decide)) ((show _ = M 16 11 from rfl).trans (nI_tN _).symm) ?_
    refine j_iload_n (n := 21) dX9_tell_20 rfl rfl ?_
    refine j_iastN (n := 22) (L := 60) (a := 125) (i := tN (M 16 11)) (x := v) (M2 := zs M 125 (upd (M 125) (tN (M 16 11)) v)) dX9_tell_21 rfl (hr.a (a := 125) rfl (by decide) rfl).1 (hr.a (a := 125) rfl (by decide) rfl).2 (by omega) (by decide) (by decide) (hr.hi (by decide)) rfl ?_
    refine j_aload_n (n := 23) dX9_tell_22 rfl rfl ?_
    refine j_dup (n := 24) dX9_tell_23 rfl rfl ?_
    refine jc_get (n := 27) (k := 11) (v := nI (tN (M 16 11))) dX9_tell_24 rfl fX9_335 (hr).c (by decide) ((hr).hi (by decide)) ((show _ = M 16 11 from (by simp [zs])).trans (nI_tN _).symm) ?_
    refine j_iconst (n := 28) (v := nI 1) dX9_tell_27 rfl rfl ?_
    refine j_iaddN (n := 29) (c := tN (M 16 11) + 1) dX9_tell_28 rfl rfl ?_
    refine jc_put (n := 32) (k := 11) (x := nI (tN (M 16 11) + 1)) (M2 := zs (zs M 125 (upd (M 125) (tN (M 16 11)) v)) 16 (upd (M 16) 11 (nI (tN (M 16 11) + 1)))) dX9_tell_29 rfl pX9_335 (fun h => by cases h) rfl rfl (hr).c (by decide) ((hr).hi (by decide)) (congrArg (fun f => zs _ _ (upd f _ _)) (show _ = _ from by simp [zs])) ?_
    refine j_aload_n (n := 33) dX9_tell_32 rfl rfl ?_
    refine jc_get (n := 36) (k := 11) (v := nI (tN (M 16 11) + 1)) dX9_tell_33 rfl fX9_335 (hr).c (by decide) ((hr).hi (by decide)) (by simp [zs, upd]) ?_
    exact j_ri dX9_tell_36 rfl (Nat.le_refl _) (Nat.le_refl _) (by unfold r_tell; (repeat (first | rw [if_pos (by omega)] | rw [if_neg (by omega)])); all_goals rfl) (by unfold mC_tell; (repeat (first | rw [if_pos (by omega)] | rw [if_neg (by omega)])); all_goals rfl) rfl
  · refine j_ldc (n := 11) (v := -1000000003) dX9_tell_9 rfl kX9_76 ?_
    exact j_ri dX9_tell_11 rfl (Nat.le_refl _) (Nat.le_refl _) (by unfold r_tell; (repeat (first | rw [if_pos (by omega)] | rw [if_neg (by omega)])); all_goals rfl) (by unfold mC_tell; (repeat (first | rw [if_pos (by omega)] | rw [if_neg (by omega)])); all_goals rfl) rfl
theorem k_trim (d : Nat) (G : zG) (M : zMem) (X : zX) (hr : kR X) (hwt : tN (M 16 7) ≤ 96) (n : Int32) : zCall G miX9_trim (d + 0) [.ref 16, .int n] (zI (r_trim (tN (M 16 7)) n) (mC_trim M n) X) M X 0 0 := by
  refine zCall.of (lv := [some (.ref 16), some (.int n)]) (by decide) (Nat.le_of_ble_eq_true rfl) rfl ?_
  refine j_iload_n (n := 1) dX9_trim_0 rfl rfl ?_
  refine j_if_ltT (n := 4) (tg := 12) dX9_trim_1 rfl rfl (fun h101 => ?_) (fun h101 => ?_)
  · refine j_ldc (n := 14) (v := -1000000001) dX9_trim_12 rfl kX9_71 ?_
    exact j_ri dX9_trim_14 rfl (Nat.le_refl _) (Nat.le_refl _) (by unfold r_trim; (repeat (first | rw [if_pos (by omega)] | rw [if_neg (by omega)])); all_goals rfl) (by unfold mC_trim; (repeat (first | rw [if_pos (by omega)] | rw [if_neg (by omega)])); all_goals rfl) rfl
  · refine j_iload_n (n := 5) dX9_trim_4 rfl rfl ?_
    refine j_aload_n (n := 6) dX9_trim_5 rfl rfl ?_
    refine jc_get (n := 9) (k := 7) (v := nI (tN (M 16 7))) dX9_trim_6 rfl fX9_253 (hr).c (by decide) ((hr).hi (by decide)) ((show _ = M 16 7 from rfl).trans (nI_tN _).symm) ?_
    refine j_icmp_leT (n := 12) (tg := 15) dX9_trim_9 rfl rfl rfl (i_N (by omega)) (fun h102 => ?_) (fun h102 => ?_)
    · refine j_aload_n (n := 16) dX9_trim_15 rfl rfl ?_
      refine j_iload_n (n := 17) dX9_trim_16 rfl rfl ?_
      refine jc_put (n := 20) (k := 7) (x := n) (M2 := zs M 16 (upd (M 16) 7 n)) dX9_trim_17 rfl pX9_253 (fun h => by cases h) rfl rfl (hr).c (by decide) ((hr).hi (by decide)) rfl ?_
      refine j_iload_n (n := 21) dX9_trim_20 rfl rfl ?_
      exact j_ri dX9_trim_21 rfl (Nat.le_refl _) (Nat.le_refl _) (by unfold r_trim; (repeat (first | rw [if_pos (by omega)] | rw [if_neg (by omega)])); all_goals rfl) (by unfold mC_trim; (repeat (first | rw [if_pos (by omega)] | rw [if_neg (by omega)])); all_goals rfl) rfl
    · refine j_ldc (n := 14) (v := -1000000001) dX9_trim_12 rfl kX9_71 ?_
      exact j_ri dX9_trim_14 rfl (Nat.le_refl _) (Nat.le_refl _) (by unfold r_trim; (repeat (first | rw [if_pos (by omega)] | rw [if_neg (by omega)])); all_goals rfl) (by unfold mC_trim; (repeat (first | rw [if_pos (by omega)] | rw [if_neg (by omega)])); all_goals rfl) rfl
theorem jc_bast {G : zG} {mi : zM} {rm : Room} {Q : List Frame → Array Value → State → State → Prop} {pc n : Nat} {lv : List (Option Value)} {st : List Value} {M : zMem} {X : zX} {cn : Nat × Nat} {a L i : Nat} {x : Int32} {M2 : zMem} (hd : decode (zc mi) pc = .ok (.bastore, 1)) (hn : pc + 1 = n) (hc : xc X a = 101) (hL : xl X a = L) (hi : i < L) (hb : L ≤ 2147483648) (h1 : 16 ≤ a) (h2 : a < xz X) (hM : zs M a (upd (M a) i (vp_nar .byte x)) = M2) (kk : zAt G mi rm Q n lv st M2 X cn) : zAt G mi rm Q pc lv (.int x :: .int (nI i) :: .ref a :: st) M X cn :=
  j_bast hd hn hc hL (vp_inN hi hb) h1 h2 (by rw [nI_clamp (by omega), hM]; exact kk)
/-- the byte of a number behind a shift, as the tape holds it -/
def byC (a : Int32) (sh : Nat) : Int32 := vp_nar .byte ((Int32.toInt8 (zushr a (nI sh))).toInt32)
def f4 (M : zMem) (a : Int32) : zMem := zs (zs M 122 (upd (upd (upd (upd (M 122) (tN (M 16 7)) (byC a 24)) (tN (M 16 7) + 1) (byC a 16)) (tN (M 16 7) + 2) (byC a 8)) (tN (M 16 7) + 3) (byC a 0))) 16 (upd (M 16) 7 (nI (tN (M 16 7) + 4)))
theorem ff_w (M : zMem) (f g : Nat → Int32) (x y : Int32) : zs (zs (zs (zs M 122 f) 16 (upd (M 16) 7 x)) 122 g) 16 (upd ((zs (zs (zs M 122 f) 16 (upd (M 16) 7 x)) 122 g) 16) 7 y) = zs (zs M 122 g) 16 (upd (M 16) 7 y) := by
  funext b
  by_cases h1 : b = 16
  · subst h1
    rw [zs_eq, zs_eq, zs_ne _ _ (by decide), zs_eq]
    funext j
    simp only [upd]
    split <;> rfl
  · rw [zs_ne _ _ h1, zs_ne _ _ h1]
    by_cases h2 : b = 122
    · subst h2
      rw [zs_eq, zs_eq]
    · rw [zs_ne _ _ h2, zs_ne _ _ h1, zs_ne _ _ h2, zs_ne _ _ h2]
theorem k_feedFour (d : Nat) (G : zG) (M : zMem) (X : zX) (hr : kR X) (hl : tN (M 16 7) + 4 ≤ 96) (a : Int32) : zCall G miX9_feedFour (d + 0) [.ref 16, .int a] (zV (f4 M a) X) M X 0 0 := by
  refine zCall.of (lv := [some (.ref 16), some (.int a), none]) (by decide) (Nat.le_of_ble_eq_true rfl) rfl ?_
  refine j_bipush (n := 2) (v := nI 24) dX9_feedFour_0 rfl (by decide) ?_
  refine j_istore_n (n := 3) (lv2 := [some (.ref 16), some (.int a), some (.int (nI 24))]) dX9_feedFour_2 rfl rfl (by decide) rfl ?_
  refine j_iload_n (n := 4) dX9_feedFour_3 rfl rfl ?_
  refine j_if_ltM (n := 7) (tg := 45) dX9_feedFour_4 rfl rfl (by decide) (fun h => absurd h (by decide)) (fun _ => ?_)
  refine j_aload_n (n := 8) dX9_feedFour_7 rfl rfl ?_
  refine jc_get (n := 11) (k := 7) (v := nI (tN (M 16 7))) dX9_feedFour_8 rfl fX9_253 hr.c (by decide) (hr.hi (by decide)) (nI_tN _).symm ?_
  refine j_bipush (n := 13) (v := nI 96) dX9_feedFour_11 rfl (by decide) ?_
  refine j_icmp_geT (n := 16) (tg := 45) dX9_feedFour_13 rfl rfl (i_N (by omega)) (i_N (by decide)) (fun h => by exfalso; omega) (fun _ => ?_)
  refine j_aload_n (n := 17) dX9_feedFour_16 rfl rfl ?_
  refine j_getr (n := 20) (k := 6) (b := 122) dX9_feedFour_17 rfl fX9_36 hr.c (by decide) (hr.hi (by decide)) (hr.f (k := 6) rfl (by decide)) ?_
  refine j_aload_n (n := 21) dX9_feedFour_20 rfl rfl ?_
  refine jc_get (n := 24) (k := 7) (v := nI (tN (M 16 7))) dX9_feedFour_21 rfl fX9_253 hr.c (by decide) (hr.hi (by decide)) (nI_tN _).symm ?_
  refine j_iload_n (n := 25) dX9_feedFour_24 rfl rfl ?_
  refine j_iload_n (n := 26) dX9_feedFour_25 rfl rfl ?_
  refine j_iushr (n := 27) dX9_feedFour_26 rfl ?_
  refine j_i2b (n := 28) dX9_feedFour_27 rfl ?_
  refine jc_bast (n := 29) (L := 96) (i := tN (M 16 7)) (M2 := zs (M) 122 (upd (M 122) (tN (M 16 7)) (byC a 24))) dX9_feedFour_28 rfl (hr.a (a := 122) rfl (by decide) rfl).1 (hr.a (a := 122) rfl (by decide) rfl).2 (by omega) (by decide) (by decide) (hr.hi (by decide)) rfl ?_
  refine j_aload_n (n := 30) dX9_feedFour_29 rfl rfl ?_
  refine j_dup (n := 31) dX9_feedFour_30 rfl rfl ?_
  refine jc_get (n := 34) (k := 7) (v := nI (tN (M 16 7))) dX9_feedFour_31 rfl fX9_253 hr.c (by decide) (hr.hi (by decide)) ((congrFun (zs_ne _ _ (by decide)) 7).trans (nI_tN _).symm) ?_
  refine j_iconst (n := 35) (v := nI 1) dX9_feedFour_34 rfl rfl ?_
  refine j_iaddN (n := 36) (c := tN (M 16 7) + 1) dX9_feedFour_35 rfl rfl ?_
  refine jc_put (n := 39) (k := 7) (x := nI (tN (M 16 7) + 1)) (M2 := (zs (zs M 122 (upd (M 122) (tN (M 16 7)) (byC a 24))) 16 (upd (M 16) 7 (nI (tN (M 16 7) + 1))))) dX9_feedFour_36 rfl pX9_253 (fun h => by cases h) rfl rfl hr.c (by decide) (hr.hi (by decide)) (congrArg (fun f => zs _ _ (upd f _ _)) (zs_ne _ _ (by decide))) ?_
  refine j_iinc (n := 42) (y := nI 16) (lv2 := [some (.ref 16), some (.int a), some (.int (nI 16))]) dX9_feedFour_39 rfl rfl (by decide) rfl (by decide) rfl ?_
  refine j_goto (n := 3) dX9_feedFour_42 rfl ?_
  refine j_iload_n (n := 4) dX9_feedFour_3 rfl rfl ?_
  refine j_if_ltM (n := 7) (tg := 45) dX9_feedFour_4 rfl rfl (by decide) (fun h => absurd h (by decide)) (fun _ => ?_)
  refine j_aload_n (n := 8) dX9_feedFour_7 rfl rfl ?_
  refine jc_get (n := 11) (k := 7) (v := nI (tN (M 16 7) + 1)) dX9_feedFour_8 rfl fX9_253 hr.c (by decide) (hr.hi (by decide)) (by simp [zs, upd]) ?_
  refine j_bipush (n := 13) (v := nI 96) dX9_feedFour_11 rfl (by decide) ?_
  refine j_icmp_geT (n := 16) (tg := 45) dX9_feedFour_13 rfl rfl (i_N (by omega)) (i_N (by decide)) (fun h => by exfalso; omega) (fun _ => ?_)
  refine j_aload_n (n := 17) dX9_feedFour_16 rfl rfl ?_
  refine j_getr (n := 20) (k := 6) (b := 122) dX9_feedFour_17 rfl fX9_36 hr.c (by decide) (hr.hi (by decide)) (hr.f (k := 6) rfl (by decide)) ?_
  refine j_aload_n (n := 21) dX9_feedFour_20 rfl rfl ?_
  refine jc_get (n := 24) (k := 7) (v := nI (tN (M 16 7) + 1)) dX9_feedFour_21 rfl fX9_253 hr.c (by decide) (hr.hi (by decide)) (by simp [zs, upd]) ?_
  refine j_iload_n (n := 25) dX9_feedFour_24 rfl rfl ?_
  refine j_iload_n (n := 26) dX9_feedFour_25 rfl rfl ?_
  refine j_iushr (n := 27) dX9_feedFour_26 rfl ?_
  refine j_i2b (n := 28) dX9_feedFour_27 rfl ?_
  refine jc_bast (n := 29) (L := 96) (i := tN (M 16 7) + 1) (M2 := zs ((zs (zs M 122 (upd (M 122) (tN (M 16 7)) (byC a 24))) 16 (upd (M 16) 7 (nI (tN (M 16 7) + 1))))) 122 (upd (upd (M 122) (tN (M 16 7)) (byC a 24)) (tN (M 16 7) + 1) (byC a 16))) dX9_feedFour_28 rfl (hr.a (a := 122) rfl (by decide) rfl).1 (hr.a (a := 122) rfl (by decide) rfl).2 (by omega) (by decide) (by decide) (hr.hi (by decide)) (congrArg (fun f => zs _ _ (upd f _ _)) (show _ = (upd (M 122) (tN (M 16 7)) (byC a 24)) from by simp [zs])) ?_
  refine j_aload_n (n := 30) dX9_feedFour_29 rfl rfl ?_
  refine j_dup (n := 31) dX9_feedFour_30 rfl rfl ?_
  refine jc_get (n := 34) (k := 7) (v := nI (tN (M 16 7) + 1)) dX9_feedFour_31 rfl fX9_253 hr.c (by decide) (hr.hi (by decide)) (by simp [zs, upd]) ?_
  refine j_iconst (n := 35) (v := nI 1) dX9_feedFour_34 rfl rfl ?_
  refine j_iaddN (n := 36) (c := tN (M 16 7) + 2) dX9_feedFour_35 rfl rfl ?_
  refine jc_put (n := 39) (k := 7) (x := nI (tN (M 16 7) + 2)) (M2 := (zs (zs M 122 (upd (upd (M 122) (tN (M 16 7)) (byC a 24)) (tN (M 16 7) + 1) (byC a 16))) 16 (upd (M 16) 7 (nI (tN (M 16 7) + 2))))) dX9_feedFour_36 rfl pX9_253 (fun h => by cases h) rfl rfl hr.c (by decide) (hr.hi (by decide)) (ff_w _ _ _ _ _) ?_
  refine j_iinc (n := 42) (y := nI 8) (lv2 := [some (.ref 16), some (.int a), some (.int (nI 8))]) dX9_feedFour_39 rfl rfl (by decide) rfl (by decide) rfl ?_
  refine j_goto (n := 3) dX9_feedFour_42 rfl ?_
  refine j_iload_n (n := 4) dX9_feedFour_3 rfl rfl ?_
  refine j_if_ltM (n := 7) (tg := 45) dX9_feedFour_4 rfl rfl (by decide) (fun h => absurd h (by decide)) (fun _ => ?_)
  refine j_aload_n (n := 8) dX9_feedFour_7 rfl rfl ?_
  refine jc_get (n := 11) (k := 7) (v := nI (tN (M 16 7) + 2)) dX9_feedFour_8 rfl fX9_253 hr.c (by decide) (hr.hi (by decide)) (by simp [zs, upd]) ?_
  refine j_bipush (n := 13) (v := nI 96) dX9_feedFour_11 rfl (by decide) ?_
  refine j_icmp_geT (n := 16) (tg := 45) dX9_feedFour_13 rfl rfl (i_N (by omega)) (i_N (by decide)) (fun h => by exfalso; omega) (fun _ => ?_)
  refine j_aload_n (n := 17) dX9_feedFour_16 rfl rfl ?_
  refine j_getr (n := 20) (k := 6) (b := 122) dX9_feedFour_17 rfl fX9_36 hr.c (by decide) (hr.hi (by decide)) (hr.f (k := 6) rfl (by decide)) ?_
  refine j_aload_n (n := 21) dX9_feedFour_20 rfl rfl ?_
  refine jc_get (n := 24) (k := 7) (v := nI (tN (M 16 7) + 2)) dX9_feedFour_21 rfl fX9_253 hr.c (by decide) (hr.hi (by decide)) (by simp [zs, upd]) ?_
  refine j_iload_n (n := 25) dX9_feedFour_24 rfl rfl ?_
  refine j_iload_n (n := 26) dX9_feedFour_25 rfl rfl ?_
  refine j_iushr (n := 27) dX9_feedFour_26 rfl ?_
  refine j_i2b (n := 28) dX9_feedFour_27 rfl ?_
  refine jc_bast (n := 29) (L := 96) (i := tN (M 16 7) + 2) (M2 := zs ((zs (zs M 122 (upd (upd (M 122) (tN (M 16 7)) (byC a 24)) (tN (M 16 7) + 1) (byC a 16))) 16 (upd (M 16) 7 (nI (tN (M 16 7) + 2))))) 122 (upd (upd (upd (M 122) (tN (M 16 7)) (byC a 24)) (tN (M 16 7) + 1) (byC a 16)) (tN (M 16 7) + 2) (byC a 8))) dX9_feedFour_28 rfl (hr.a (a := 122) rfl (by decide) rfl).1 (hr.a (a := 122) rfl (by decide) rfl).2 (by omega) (by decide) (by decide) (hr.hi (by decide)) (congrArg (fun f => zs _ _ (upd f _ _)) (show _ = (upd (upd (M 122) (tN (M 16 7)) (byC a 24)) (tN (M 16 7) + 1) (byC a 16)) from by simp [zs])) ?_
  refine j_aload_n (n := 30) dX9_feedFour_29 rfl rfl ?_
  refine j_dup (n := 31) dX9_feedFour_30 rfl rfl ?_
  refine jc_get (n := 34) (k := 7) (v := nI (tN (M 16 7) + 2)) dX9_feedFour_31 rfl fX9_253 hr.c (by decide) (hr.hi (by decide)) (by simp [zs, upd]) ?_
  refine j_iconst (n := 35) (v := nI 1) dX9_feedFour_34 rfl rfl ?_
  refine j_iaddN (n := 36) (c := tN (M 16 7) + 3) dX9_feedFour_35 rfl rfl ?_
  refine jc_put (n := 39) (k := 7) (x := nI (tN (M 16 7) + 3)) (M2 := (zs (zs M 122 (upd (upd (upd (M 122) (tN (M 16 7)) (byC a 24)) (tN (M 16 7) + 1) (byC a 16)) (tN (M 16 7) + 2) (byC a 8))) 16 (upd (M 16) 7 (nI (tN (M 16 7) + 3))))) dX9_feedFour_36 rfl pX9_253 (fun h => by cases h) rfl rfl hr.c (by decide) (hr.hi (by decide)) (ff_w _ _ _ _ _) ?_
  refine j_iinc (n := 42) (y := nI 0) (lv2 := [some (.ref 16), some (.int a), some (.int (nI 0))]) dX9_feedFour_39 rfl rfl (by decide) rfl (by decide) rfl ?_
  refine j_goto (n := 3) dX9_feedFour_42 rfl ?_
  refine j_iload_n (n := 4) dX9_feedFour_3 rfl rfl ?_
  refine j_if_ltM (n := 7) (tg := 45) dX9_feedFour_4 rfl rfl (by decide) (fun h => absurd h (by decide)) (fun _ => ?_)
  refine j_aload_n (n := 8) dX9_feedFour_7 rfl rfl ?_
  refine jc_get (n := 11) (k := 7) (v := nI (tN (M 16 7) + 3)) dX9_feedFour_8 rfl fX9_253 hr.c (by decide) (hr.hi (by decide)) (by simp [zs, upd]) ?_
  refine j_bipush (n := 13) (v := nI 96) dX9_feedFour_11 rfl (by decide) ?_
  refine j_icmp_geT (n := 16) (tg := 45) dX9_feedFour_13 rfl rfl (i_N (by omega)) (i_N (by decide)) (fun h => by exfalso; omega) (fun _ => ?_)
  refine j_aload_n (n := 17) dX9_feedFour_16 rfl rfl ?_
  refine j_getr (n := 20) (k := 6) (b := 122) dX9_feedFour_17 rfl fX9_36 hr.c (by decide) (hr.hi (by decide)) (hr.f (k := 6) rfl (by decide)) ?_
  refine j_aload_n (n := 21) dX9_feedFour_20 rfl rfl ?_
  refine jc_get (n := 24) (k := 7) (v := nI (tN (M 16 7) + 3)) dX9_feedFour_21 rfl fX9_253 hr.c (by decide) (hr.hi (by decide)) (by simp [zs, upd]) ?_
  refine j_iload_n (n := 25) dX9_feedFour_24 rfl rfl ?_
  refine j_iload_n (n := 26) dX9_feedFour_25 rfl rfl ?_
  refine j_iushr (n := 27) dX9_feedFour_26 rfl ?_
  refine j_i2b (n := 28) dX9_feedFour_27 rfl ?_
  refine jc_bast (n := 29) (L := 96) (i := tN (M 16 7) + 3) (M2 := zs ((zs (zs M 122 (upd (upd (upd (M 122) (tN (M 16 7)) (byC a 24)) (tN (M 16 7) + 1) (byC a 16)) (tN (M 16 7) + 2) (byC a 8))) 16 (upd (M 16) 7 (nI (tN (M 16 7) + 3))))) 122 (upd (upd (upd (upd (M 122) (tN (M 16 7)) (byC a 24)) (tN (M 16 7) + 1) (byC a 16)) (tN (M 16 7) + 2) (byC a 8)) (tN (M 16 7) + 3) (byC a 0))) dX9_feedFour_28 rfl (hr.a (a := 122) rfl (by decide) rfl).1 (hr.a (a := 122) rfl (by decide) rfl).2 (by omega) (by decide) (by decide) (hr.hi (by decide)) (congrArg (fun f => zs _ _ (upd f _ _)) (show _ = (upd (upd (upd (M 122) (tN (M 16 7)) (byC a 24)) (tN (M 16 7) + 1) (byC a 16)) (tN (M 16 7) + 2) (byC a 8)) from by simp [zs])) ?_
  refine j_aload_n (n := 30) dX9_feedFour_29 rfl rfl ?_
  refine j_dup (n := 31) dX9_feedFour_30 rfl rfl ?_
  refine jc_get (n := 34) (k := 7) (v := nI (tN (M 16 7) + 3)) dX9_feedFour_31 rfl fX9_253 hr.c (by decide) (hr.hi (by decide)) (by simp [zs, upd]) ?_
  refine j_iconst (n := 35) (v := nI 1) dX9_feedFour_34 rfl rfl ?_
  refine j_iaddN (n := 36) (c := tN (M 16 7) + 4) dX9_feedFour_35 rfl rfl ?_
  refine jc_put (n := 39) (k := 7) (x := nI (tN (M 16 7) + 4)) (M2 := (zs (zs M 122 (upd (upd (upd (upd (M 122) (tN (M 16 7)) (byC a 24)) (tN (M 16 7) + 1) (byC a 16)) (tN (M 16 7) + 2) (byC a 8)) (tN (M 16 7) + 3) (byC a 0))) 16 (upd (M 16) 7 (nI (tN (M 16 7) + 4))))) dX9_feedFour_36 rfl pX9_253 (fun h => by cases h) rfl rfl hr.c (by decide) (hr.hi (by decide)) (ff_w _ _ _ _ _) ?_
  refine j_iinc (n := 42) (y := -8) (lv2 := [some (.ref 16), some (.int a), some (.int (-8))]) dX9_feedFour_39 rfl rfl (by decide) rfl (by decide) rfl ?_
  refine j_goto (n := 3) dX9_feedFour_42 rfl ?_
  refine j_iload_n (n := 4) dX9_feedFour_3 rfl rfl ?_
  refine j_if_lt (n := 7) (tg := 45) dX9_feedFour_4 rfl rfl (fun _ => ?_) (fun h => absurd (by decide) h)
  exact j_rv dX9_feedFour_45 rfl (Nat.le_refl _) (Nat.le_refl _) rfl rfl
theorem f4_l (M : zMem) (a : Int32) (h : tN (M 16 7) + 4 < 4294967296) : tN (f4 M a 16 7) = tN (M 16 7) + 4 := by
  unfold f4
  rw [zs_eq]
  show tN (upd _ _ _ 7) = _
  simp only [upd, if_pos]
  exact tN_nI h
def mC_feed (M : zMem) (a b e : Int32) : zMem := if 96 < tN (M 16 7) + 12 then M else f4 (f4 (f4 M a) b) e
theorem k_feed (d : Nat) (G : zG) (M : zMem) (X : zX) (hr : kR X) (hwt : tN (M 16 7) ≤ 96) (a b e : Int32) : zCall G miX9_feed (d + 1) [.ref 16, .int a, .int b, .int e] (zI (r_feed (tN (M 16 7))) (mC_feed M a b e) X) M X 0 0 := by
  refine zCall.of (lv := [some (.ref 16), some (.int a), some (.int b), some (.int e)]) (by decide) (Nat.le_of_ble_eq_true rfl) rfl ?_
  refine j_aload_n (n := 1) dX9_feed_0 rfl rfl ?_
  refine jc_get (n := 4) (k := 7) (v := nI (tN (M 16 7))) dX9_feed_1 rfl fX9_253 (hr).c (by decide) ((hr).hi (by decide)) ((show _ = M 16 7 from rfl).trans (nI_tN _).symm) ?_
  refine j_bipush (n := 6) (v := nI 12) dX9_feed_4 rfl (by decide) ?_
  refine j_iaddN (n := 7) (c := tN (M 16 7) + 12) dX9_feed_6 rfl rfl ?_
  refine j_bipush (n := 9) (v := nI 96) dX9_feed_7 rfl (by decide) ?_
  refine j_icmp_leT (n := 12) (tg := 15) dX9_feed_9 rfl rfl (i_N (by omega)) (i_N (by omega)) (fun h101 => ?_) (fun h101 => ?_)
  · have e1 := f4_l M a (by omega)
    have e2 := f4_l (f4 M a) b (by omega)
    have e3 := f4_l (f4 (f4 M a) b) e (by omega)
    refine j_aload_n (n := 16) dX9_feed_15 rfl rfl ?_
    refine j_iload_n (n := 17) dX9_feed_16 rfl rfl ?_
    refine j_cVv (n := 20) dX9_feed_17 rfl sX9_256 (k_feedFour d G _ _ hr (by omega) _) (by omega) (by decide) rfl rfl (Nat.le_of_ble_eq_true rfl) (hr).c (by decide) ((hr).hi (by decide)) (by decide) (by decide) ?_
    refine j_aload_n (n := 21) dX9_feed_20 rfl rfl ?_
    refine j_iload_n (n := 22) dX9_feed_21 rfl rfl ?_
    refine j_cVv (n := 25) dX9_feed_22 rfl sX9_256 (k_feedFour d G _ _ hr (by omega) _) (by omega) (by decide) rfl rfl (Nat.le_of_ble_eq_true rfl) (hr).c (by decide) ((hr).hi (by decide)) (by decide) (by decide) ?_
    refine j_aload_n (n := 26) dX9_feed_25 rfl rfl ?_
    refine j_iload_n (n := 27) dX9_feed_26 rfl rfl ?_
    refine j_cVv (n := 30) dX9_feed_27 rfl sX9_256 (k_feedFour d G _ _ hr (by omega) _) (by omega) (by decide) rfl rfl (Nat.le_of_ble_eq_true rfl) (hr).c (by decide) ((hr).hi (by decide)) (by decide) (by decide) ?_
    refine j_aload_n (n := 31) dX9_feed_30 rfl rfl ?_
    refine jc_get (n := 34) (k := 7) (v := (f4 (f4 (f4 M a) b) e) 16 7) dX9_feed_31 rfl fX9_253 (hr).c (by decide) ((hr).hi (by decide)) rfl ?_
    exact j_ri dX9_feed_34 rfl (Nat.le_refl _) (Nat.le_refl _) (by unfold r_feed; rw [if_neg (by omega)]; exact congrArg nI (by omega)) (by unfold mC_feed; (repeat (first | rw [if_pos (by omega)] | rw [if_neg (by omega)])); all_goals rfl) rfl
  · refine j_ldc (n := 14) (v := -1000000003) dX9_feed_12 rfl kX9_76 ?_
    exact j_ri dX9_feed_14 rfl (Nat.le_refl _) (Nat.le_refl _) (by unfold r_feed; (repeat (first | rw [if_pos (by omega)] | rw [if_neg (by omega)])); all_goals rfl) (by unfold mC_feed; (repeat (first | rw [if_pos (by omega)] | rw [if_neg (by omega)])); all_goals rfl) rfl
