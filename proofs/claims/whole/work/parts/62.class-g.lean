-- CLASS G: by program (wip/whole/gen/c7.py)
theorem k_behind (d : Nat) (G : zG) (M : zMem) (X : zX) (hr : kR X) (c : Nat → Nat) (hx : tx M X 17 c) (hR : tR X 17) (b : Nat) (hw : wf c b 9999) (hb : b ≤ 800000000) (n what : Int32) : zCall G miX9_behind (d + 6) [.ref 16, .int n, .int what] (zIr (fun r0 M1 X1 => r0 = r_behind c n what ∧ (X1 = X ∨ X1 = cpX X 79 17) ∧ ∃ M2, scx M M2 ∧ M1 = cm M2 17 c)) (cm M 17 c) X 0 0 := by
  refine zCall.of (lv := [some (.ref 16), some (.int n), some (.int what), none]) (by decide) (Nat.le_of_ble_eq_true rfl) rfl ?_
  have hwf0 := hw
  have h0 := hw.1.1
  have h2 := hw.day
  have h8 := hw.2.1.1
  refine j_iload_n (n := 1) dX9_behind_0 rfl rfl ?_
  refine j_if_ltT (n := 4) (tg := 27) dX9_behind_1 rfl rfl (fun h101 => ?_) (fun h101 => ?_)
  · refine j_ldc (n := 29) (v := -1000000001) dX9_behind_27 rfl kX9_71 ?_
    exact j_iret dX9_behind_29 rfl rfl (Nat.le_refl _) (Nat.le_refl _) ⟨_, rfl, (by unfold r_behind; rw [if_pos (by omega)]), .inl rfl, M, scx.rf M, rfl⟩
  · refine j_iload_n (n := 5) dX9_behind_4 rfl rfl ?_
    refine j_bipush (n := 7) (v := nI 100) dX9_behind_5 rfl (by decide) ?_
    refine j_icmp_gtT (n := 10) (tg := 27) dX9_behind_7 rfl rfl rfl (i_N (by omega)) (fun h102 => ?_) (fun h102 => ?_)
    · refine j_ldc (n := 29) (v := -1000000001) dX9_behind_27 rfl kX9_71 ?_
      exact j_iret dX9_behind_29 rfl rfl (Nat.le_refl _) (Nat.le_refl _) ⟨_, rfl, (by unfold r_behind; rw [if_pos (by omega)]), .inl rfl, M, scx.rf M, rfl⟩
    · refine j_iload_n (n := 11) dX9_behind_10 rfl rfl ?_
      refine j_if_ltT (n := 14) (tg := 27) dX9_behind_11 rfl rfl (fun h103 => ?_) (fun h103 => ?_)
      · refine j_ldc (n := 29) (v := -1000000001) dX9_behind_27 rfl kX9_71 ?_
        exact j_iret dX9_behind_29 rfl rfl (Nat.le_refl _) (Nat.le_refl _) ⟨_, rfl, (by unfold r_behind; rw [if_pos (by omega)]), .inl rfl, M, scx.rf M, rfl⟩
      · refine j_iload_n (n := 15) dX9_behind_14 rfl rfl ?_
        refine j_iconst (n := 16) (v := nI 3) dX9_behind_15 rfl rfl ?_
        refine j_aload_n (n := 17) dX9_behind_16 rfl rfl ?_
        refine j_getr (n := 20) (k := 0) (b := 17) dX9_behind_17 rfl fX9_10 (hr).c (by decide) ((hr).hi (by decide)) (hr.f (k := 0) rfl (by decide)) ?_
        refine jc_get (n := 23) (k := 1) (v := nI (c 0)) dX9_behind_20 rfl fX9_72 (hr.1.1).c (hr.1.1).lo ((hr.1.1).hi (by omega)) (cm_r (ix_t rfl)) ?_
        refine j_iaddN (n := 24) (c := 3 + c 0) dX9_behind_23 rfl rfl ?_
        refine j_icmp_ltT (n := 27) (tg := 30) dX9_behind_24 rfl rfl rfl (i_N (by omega)) (fun h104 => ?_) (fun h104 => ?_)
        · obtain ⟨m, hm_, rfl⟩ := i_of (x := n) (n := 101) (by omega) (by omega)
          have em : tN (nI m) = m := tN_nI (by omega)
          have im : (nI m).toInt = m := i_N (by omega)
          refine j_aload_n (n := 31) dX9_behind_30 rfl rfl ?_
          refine j_getr (n := 34) (k := 2) (b := 79) dX9_behind_31 rfl fX9_19 (hr).c (by decide) ((hr).hi (by decide)) (hr.f (k := 2) rfl (by decide)) ?_
          refine j_aload_n (n := 35) dX9_behind_34 rfl rfl ?_
          refine j_getr (n := 38) (k := 0) (b := 17) dX9_behind_35 rfl fX9_10 (hr).c (by decide) ((hr).hi (by decide)) (hr.f (k := 0) rfl (by decide)) ?_
          refine j_mem (M2 := cm (cm M 17 c) 79 (rdT (cm M 17 c) 79)) (cm_rd _ _).symm ?_
          refine j_cVv (n := 41) dX9_behind_38 rfl sX9_223 (c_becomeAsT (d + 3) G M _ 79 17 hr.1.2.2 hr.1.1 (by decide) _ c hw.1 hw.2.1 hR) (by omega) (by decide) rfl rfl (Nat.le_of_ble_eq_true rfl) (hr.1.2.2).c (hr.1.2.2).lo ((hr.1.2.2).hi (by omega)) (by decide) (by decide) ?_
          have hxe0 := tx_cm (tx_cpX (c := rdT (cm M 17 c) 79) (B := 79) hx (by decide) hw.2.2.1.1) 17 c (by decide)
          have hth0 := lv_as (rdT (cm M 17 c) 79) c
          generalize asP (rdT (cm M 17 c) 79) c = e at hxe0 hth0 ⊢
          have hwe := lvE_wf hth0 hw
          have hr := kR_cpX hr (B := 79) (F := 17) (by decide)
          refine j_iconst (n := 42) (v := nI 0) dX9_behind_41 rfl rfl ?_
          refine j_istore_n (n := 43) (lv2 := [some (.ref 16), some (.int (nI m)), some (.int what), some (.int (nI 0))]) dX9_behind_42 rfl rfl (by decide) rfl ?_
          have loop : ∀ (j k : Nat) (M1 : zMem), m - k = j → k ≤ m → scT M M1 → zAt G miX9_behind (zRm (d + 6) 0 0) (zQ G (zIr (fun r0 M1 X1 => r0 = r_behind c (nI m) what ∧ (X1 = X ∨ X1 = cpX X 79 17) ∧ ∃ M2, scx M M2 ∧ M1 = cm M2 17 c)) 0 0) 43 [some (.ref 16), some (.int (nI m)), some (.int what), some (.int (nI k))] [] (cm (cm M1 17 c) 79 (daysP e k)) (cpX X 79 17) (0, 0) := by
            intro j
            induction j using Nat.strongRecOn with
            | ind j ih =>
              intro k M1 hj hk0 hsc
              have hwd := wf_days hwe k
              have hxd := hxe0.days (hsc.cm 17 c (by decide)) hwe k
              have hlv := lv_days hth0 hwf0 k
              refine j_iload_n (n := 44) dX9_behind_43 rfl rfl ?_
              refine j_iload_n (n := 45) dX9_behind_44 rfl rfl ?_
              refine j_icmp_geT (n := 48) (tg := 61) dX9_behind_45 rfl rfl (i_N (by omega)) (i_N (by omega)) (fun h106 => ?_) (fun h106 => ?_)
              · refine j_iload_n (n := 62) dX9_behind_61 rfl rfl ?_
                have hs107 : (what).toInt = 0 ∨ (what).toInt = 1 ∨ (what).toInt = 2 ∨ ((what).toInt < 0 ∨ 2 < (what).toInt) := by omega
                rcases hs107 with hs107 | hs107 | hs107 | hs107
                · refine j_tabIn (i := 0) (off := 26) (tg := 88) dX9_behind_62 (by omega) (by decide) rfl rfl ?_
                  obtain rfl : what = nI 0 := int32_eq (by rw [i_N (by decide)]; omega)
                  have ew : tN (nI 0) = 0 := tN_nI (by decide)
                  have iw : (nI 0).toInt = 0 := i_N (by decide)
                  refine j_aload_n (n := 89) dX9_behind_88 rfl rfl ?_
                  refine j_getr (n := 92) (k := 2) (b := 79) dX9_behind_89 rfl fX9_19 (hr).c (by decide) ((hr).hi (by decide)) (hr.f (k := 2) rfl (by decide)) ?_
                  refine jc_get (n := 95) (k := 9) (v := nI ((daysP e k) 3)) dX9_behind_92 rfl fX9_185 (hr.1.2.2).c (hr.1.2.2).lo ((hr.1.2.2).hi (by omega)) (cm_r (ix_t rfl)) ?_
                  exact j_iret dX9_behind_95 rfl rfl (Nat.le_refl _) (Nat.le_refl _) ⟨_, rfl, (by have ekm : k = m := (by omega); subst ekm; unfold r_behind; simp only [em, ew]; rw [if_neg (by omega), if_pos (by omega)]; exact congrArg nI (hlv.n (by decide))), .inr rfl, th_end (hsc)⟩
                · refine j_tabIn (i := 1) (off := 34) (tg := 96) dX9_behind_62 (by omega) (by decide) rfl rfl ?_
                  obtain rfl : what = nI 1 := int32_eq (by rw [i_N (by decide)]; omega)
                  have ew : tN (nI 1) = 1 := tN_nI (by decide)
                  have iw : (nI 1).toInt = 1 := i_N (by decide)
                  refine j_aload_n (n := 97) dX9_behind_96 rfl rfl ?_
                  refine j_getr (n := 100) (k := 2) (b := 79) dX9_behind_97 rfl fX9_19 (hr).c (by decide) ((hr).hi (by decide)) (hr.f (k := 2) rfl (by decide)) ?_
                  refine jc_get (n := 103) (k := 10) (v := nI ((daysP e k) 4)) dX9_behind_100 rfl fX9_194 (hr.1.2.2).c (hr.1.2.2).lo ((hr.1.2.2).hi (by omega)) (cm_r (ix_t rfl)) ?_
                  exact j_iret dX9_behind_103 rfl rfl (Nat.le_refl _) (Nat.le_refl _) ⟨_, rfl, (by have ekm : k = m := (by omega); subst ekm; unfold r_behind; simp only [em, ew]; rw [if_neg (by omega), if_pos (by omega)]; exact congrArg nI (hlv.n (by decide))), .inr rfl, th_end (hsc)⟩
                · refine j_tabIn (i := 2) (off := 42) (tg := 104) dX9_behind_62 (by omega) (by decide) rfl rfl ?_
                  obtain rfl : what = nI 2 := int32_eq (by rw [i_N (by decide)]; omega)
                  have ew : tN (nI 2) = 2 := tN_nI (by decide)
                  have iw : (nI 2).toInt = 2 := i_N (by decide)
                  refine j_aload_n (n := 105) dX9_behind_104 rfl rfl ?_
                  refine j_getr (n := 108) (k := 2) (b := 79) dX9_behind_105 rfl fX9_19 (hr).c (by decide) ((hr).hi (by decide)) (hr.f (k := 2) rfl (by decide)) ?_
                  refine jc_get (n := 111) (k := 11) (v := nI ((daysP e k) 5)) dX9_behind_108 rfl fX9_197 (hr.1.2.2).c (hr.1.2.2).lo ((hr.1.2.2).hi (by omega)) (cm_r (ix_t rfl)) ?_
                  exact j_iret dX9_behind_111 rfl rfl (Nat.le_refl _) (Nat.le_refl _) ⟨_, rfl, (by have ekm : k = m := (by omega); subst ekm; unfold r_behind; simp only [em, ew]; rw [if_neg (by omega), if_pos (by omega)]; exact congrArg nI (hlv.n (by decide))), .inr rfl, th_end (hsc)⟩
                · refine j_tabOut (tg := 112) dX9_behind_62 (by omega) rfl ?_
                  obtain ⟨w0, hw0_, rfl⟩ := i_of (x := what) (n := 11) (by omega) (by omega)
                  have iw0 : (nI w0).toInt = w0 := i_N (by omega)
                  obtain ⟨u, rfl⟩ : ∃ u, w0 = 3 + u := ⟨w0 - 3, by omega⟩
                  have ew : tN (nI (3 + u)) = 3 + u := tN_nI (by omega)
                  have iw : (nI (3 + u)).toInt = ((3 + u : Nat) : Int) := i_N (by omega)
                  have hu : u < c 0 := by omega
                  refine j_aload_n (n := 113) dX9_behind_112 rfl rfl ?_
                  refine j_getr (n := 116) (k := 2) (b := 79) dX9_behind_113 rfl fX9_19 (hr).c (by decide) ((hr).hi (by decide)) (hr.f (k := 2) rfl (by decide)) ?_
                  refine j_getr (n := 119) (k := 0) (b := 80) dX9_behind_116 rfl fX9_77 (hr.1.2.2).c (hr.1.2.2).lo ((hr.1.2.2).hi (by omega)) (hr.1.2.2).r0 ?_
                  refine j_iload_n (n := 120) dX9_behind_119 rfl rfl ?_
                  refine j_iconst (n := 121) (v := nI 3) dX9_behind_120 rfl rfl ?_
                  refine j_isubN (n := 122) (c := u) dX9_behind_121 rfl (by omega) (by omega) ?_
                  refine jc_aald (n := 123) (t := 2) (L := 8) (i := u) (b := 79 + 5 + 2 * u) dX9_behind_122 rfl ((hr.1.2.2).a1).1 (by decide) rfl ((hr.1.2.2).a1).2 (by omega) (by decide) (by have := (hr.1.2.2).lo; omega) ((hr.1.2.2).hi (by omega)) ((hr.1.2.2).e1 (by omega)) ?_
                  refine jc_get (n := 126) (k := 1) (v := nI ((daysP e k) (10 + 5 * u + 1))) dX9_behind_123 rfl fX9_93 ((hr.1.2.2).p (by omega)).2.2.1 ((hr.1.2.2).p (by omega)).1 ((hr.1.2.2).hi (by omega)) (cm_r (ix_p (by omega) (by decide) rfl)) ?_
                  exact j_iret dX9_behind_126 rfl rfl (Nat.le_refl _) (Nat.le_refl _) ⟨_, rfl, (by have ekm : k = m := (by omega); subst ekm; unfold r_behind; simp only [em, ew]; rw [if_neg (by omega), if_neg (by omega)]; exact congrArg nI ((hlv.o (by rw [days_0 hwf0]; exact h0) (by rw [days_0 hwf0]; exact hu) (by decide)).trans (congrArg (daysP c k) (by omega)))), .inr rfl, th_end (hsc)⟩
              · refine j_aload_n (n := 49) dX9_behind_48 rfl rfl ?_
                refine j_getr (n := 52) (k := 2) (b := 79) dX9_behind_49 rfl fX9_19 (hr).c (by decide) ((hr).hi (by decide)) (hr.f (k := 2) rfl (by decide)) ?_
                refine j_cVvr (n := 55) dX9_behind_52 rfl sX9_191 (c_liveDay d G _ _ 79 hr.1.2.2 _ hxd _ _ hwd (by omega) (by omega)) (by omega) (by decide) rfl rfl (Nat.le_of_ble_eq_true rfl) (hr.1.2.2).c (hr.1.2.2).lo ((hr.1.2.2).hi (by omega)) (by decide) (by decide) (fun N108 Y108 hh108 => ?_)
                obtain ⟨e2108, M0108, hs0108, e3108⟩ := hh108
                obtain ⟨M_108, hs108, e4108⟩ := scT_un (by decide) hs0108
                rw [e2108, e3108, e4108]
                refine j_iinc (n := 58) (y := nI (k + 1)) (lv2 := [some (.ref 16), some (.int (nI m)), some (.int what), some (.int (nI (k + 1)))]) dX9_behind_55 rfl rfl (by decide) rfl (show nI k + nI 1 = nI (k + 1) by rw [nI_add]) rfl ?_
                refine j_goto (n := 43) dX9_behind_58 rfl ?_
                exact ih _ (by omega) (k + 1) _ rfl (by omega) ((hsc).tr hs108)
          exact loop _ 0 _ rfl (Nat.zero_le _) (scT.rf M)
        · refine j_ldc (n := 29) (v := -1000000001) dX9_behind_27 rfl kX9_71 ?_
          exact j_iret dX9_behind_29 rfl rfl (Nat.le_refl _) (Nat.le_refl _) ⟨_, rfl, (by unfold r_behind; rw [if_pos (by omega)]), .inl rfl, M, scx.rf M, rfl⟩
