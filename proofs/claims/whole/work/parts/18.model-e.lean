-- MODEL E: by program (wip/whole/gen/b5.py)
theorem c_wears (d : Nat) (G : zG) (M : zMem) (X : zX) (hk : kM X) (p : Nat → Nat) (hwt : wfT p) (hd2 : p 2 < 2147483648) (kd r sort : Nat) (hkd : kd ≤ 5) (hr : r ≤ 99) (hsrt : sort ≤ 2) : zCall G miX10_wears (d + 2) [.ref 160, .int (nI kd), .int (nI r), .int (nI sort)] (zIr (fun r0 M1 X1 => r0 = nI (wearN kd (plainP p r sort)) ∧ X1 = X ∧ ∃ M2, scr M M2 ∧ M1 = mm M2 p)) (mm M p) X 0 0 := by
  refine zCall.of (lv := [some (.ref 160), some (.int (nI kd)), some (.int (nI r)), some (.int (nI sort)), none, none]) (by decide) (Nat.le_of_ble_eq_true rfl) rfl ?_
  have hw1 := hwt.1
  refine j_iconst (n := 1) (v := nI 2) dX10_wears_0 rfl rfl ?_
  refine j_istore (n := 3) (lv2 := [some (.ref 160), some (.int (nI kd)), some (.int (nI r)), some (.int (nI sort)), some (.int (nI 2)), none]) dX10_wears_1 rfl rfl (by decide) rfl ?_
  refine j_aload_n (n := 4) dX10_wears_3 rfl rfl ?_
  refine j_iconst (n := 5) (v := nI 0) dX10_wears_4 rfl rfl ?_
  refine j_cV (n := 8) dX10_wears_5 rfl sX10_99 (c_counts d G _ _ hk _ hwt 0 (by omega)) (by omega) (by decide) rfl rfl (Nat.le_of_ble_eq_true rfl) (hk).2.1 (by decide) (kM_lt hk) (by decide) (by decide) ?_
  cases hc : cnt p 0 (p 1) with
  | none =>
    refine j_top (y := -1) rfl ?_
    refine j_istore (n := 10) (lv2 := [some (.ref 160), some (.int (nI kd)), some (.int (nI r)), some (.int (nI sort)), some (.int (nI 2)), some (.int (-1))]) dX10_wears_8 rfl rfl (by decide) rfl ?_
    refine j_iload (n := 12) dX10_wears_10 rfl rfl ?_
    refine j_if_ltT (n := 15) (tg := 57) dX10_wears_12 rfl rfl (fun h1 => ?_) (fun h1 => ?_)
    · refine j_iload_n (n := 58) dX10_wears_57 rfl rfl ?_
      have hs2 : kd = 1 ∨ kd = 2 ∨ kd = 3 ∨ kd = 4 ∨ (kd < 1 ∨ 4 < kd) := by omega
      rcases hs2 with hs2 | hs2 | hs2 | hs2 | hs2
      · refine j_tabIn (i := 0) (off := 30) (tg := 88) dX10_wears_58 (by rw [i_N (by omega)]; omega) (by decide) rfl rfl ?_
        refine j_iload (n := 90) dX10_wears_88 rfl rfl ?_
        refine j_iconst (n := 91) (v := nI 2) dX10_wears_90 rfl rfl ?_
        refine j_idivN (n := 92) (c := 2 / 2) dX10_wears_91 rfl (by omega) (by omega) (by omega) rfl ?_
        exact j_iret dX10_wears_92 rfl rfl (Nat.le_refl _) (Nat.le_refl _) ⟨_, rfl, (by unfold wearN plainP; rw [hc]; (repeat (first | rw [if_pos (by omega)] | rw [if_neg (by omega)])); all_goals rfl), rfl, _, scr.rf M, rfl⟩
      · refine j_tabIn (i := 1) (off := 35) (tg := 93) dX10_wears_58 (by rw [i_N (by omega)]; omega) (by decide) rfl rfl ?_
        refine j_iconst (n := 94) (v := nI 2) dX10_wears_93 rfl rfl ?_
        refine j_iload (n := 96) dX10_wears_94 rfl rfl ?_
        refine j_imulN (n := 97) (c := 4) dX10_wears_96 rfl rfl ?_
        exact j_iret dX10_wears_97 rfl rfl (Nat.le_refl _) (Nat.le_refl _) ⟨_, rfl, (by unfold wearN plainP; rw [hc]; (repeat (first | rw [if_pos (by omega)] | rw [if_neg (by omega)])); all_goals rfl), rfl, _, scr.rf M, rfl⟩
      · refine j_tabIn (i := 2) (off := 30) (tg := 88) dX10_wears_58 (by rw [i_N (by omega)]; omega) (by decide) rfl rfl ?_
        refine j_iload (n := 90) dX10_wears_88 rfl rfl ?_
        refine j_iconst (n := 91) (v := nI 2) dX10_wears_90 rfl rfl ?_
        refine j_idivN (n := 92) (c := 2 / 2) dX10_wears_91 rfl (by omega) (by omega) (by omega) rfl ?_
        exact j_iret dX10_wears_92 rfl rfl (Nat.le_refl _) (Nat.le_refl _) ⟨_, rfl, (by unfold wearN plainP; rw [hc]; (repeat (first | rw [if_pos (by omega)] | rw [if_neg (by omega)])); all_goals rfl), rfl, _, scr.rf M, rfl⟩
      · refine j_tabIn (i := 3) (off := 40) (tg := 98) dX10_wears_58 (by rw [i_N (by omega)]; omega) (by decide) rfl rfl ?_
        refine j_iconst (n := 99) (v := nI 2) dX10_wears_98 rfl rfl ?_
        refine j_iload (n := 101) dX10_wears_99 rfl rfl ?_
        refine j_imulN (n := 102) (c := 4) dX10_wears_101 rfl rfl ?_
        refine j_iconst (n := 103) (v := nI 1) dX10_wears_102 rfl rfl ?_
        refine j_iaddN (n := 104) (c := 5) dX10_wears_103 rfl rfl ?_
        exact j_iret dX10_wears_104 rfl rfl (Nat.le_refl _) (Nat.le_refl _) ⟨_, rfl, (by unfold wearN plainP; rw [hc]; (repeat (first | rw [if_pos (by omega)] | rw [if_neg (by omega)])); all_goals rfl), rfl, _, scr.rf M, rfl⟩
      · refine j_tabOut (tg := 105) dX10_wears_58 (by rw [i_N (by omega)]; omega) rfl ?_
        refine j_iload (n := 107) dX10_wears_105 rfl rfl ?_
        exact j_iret dX10_wears_107 rfl rfl (Nat.le_refl _) (Nat.le_refl _) ⟨_, rfl, (by unfold wearN plainP; rw [hc]; (repeat (first | rw [if_pos (by omega)] | rw [if_neg (by omega)])); all_goals rfl), rfl, _, scr.rf M, rfl⟩
    · exact absurd (by decide) h1
  | some t =>
    obtain ⟨ht, hkey⟩ := cnt_lt hc
    refine j_top (y := nI t) rfl ?_
    refine j_istore (n := 10) (lv2 := [some (.ref 160), some (.int (nI kd)), some (.int (nI r)), some (.int (nI sort)), some (.int (nI 2)), some (.int (nI t))]) dX10_wears_8 rfl rfl (by decide) rfl ?_
    refine j_iload (n := 12) dX10_wears_10 rfl rfl ?_
    refine j_if_ltM (n := 15) (tg := 57) dX10_wears_12 rfl rfl (by omega) (fun h3 => ?_) (fun h3 => ?_)
    · exact absurd h3 (by omega)
    · refine j_aload_n (n := 16) dX10_wears_15 rfl rfl ?_
      refine jm_get (n := 19) (k := 27) (b := 176) dX10_wears_16 rfl fX10_55 rfl (by decide) hk ?_
      refine j_bipush (n := 21) (v := nI 114) dX10_wears_19 rfl (by decide) ?_
      refine j_iload_n (n := 22) dX10_wears_21 rfl rfl ?_
      refine jm_ast (n := 23) (L := 128) (a := 176) (i := 114) (x := nI r) (M2 := mm (zs M 176 (upd (M 176) 114 (nI r))) p) dX10_wears_22 rfl hk rfl (by omega) (mm_wo (by decide) rfl) ?_
      refine j_aload_n (n := 24) dX10_wears_23 rfl rfl ?_
      refine jm_get (n := 27) (k := 27) (b := 176) dX10_wears_24 rfl fX10_55 rfl (by decide) hk ?_
      refine j_bipush (n := 29) (v := nI 115) dX10_wears_27 rfl (by decide) ?_
      refine j_iload_n (n := 30) dX10_wears_29 rfl rfl ?_
      refine jm_ast (n := 31) (L := 128) (a := 176) (i := 115) (x := nI sort) (M2 := mm (zs M 176 (upd (upd (M 176) 114 (nI r)) 115 (nI sort))) p) dX10_wears_30 rfl hk rfl (by omega) (mm_wo (by decide) (by rw [zs_eq, zs_zs])) ?_
      refine j_aload_n (n := 32) dX10_wears_31 rfl rfl ?_
      refine jm_get (n := 35) (k := 27) (b := 176) dX10_wears_32 rfl fX10_55 rfl (by decide) hk ?_
      refine j_bipush (n := 37) (v := nI 116) dX10_wears_35 rfl (by decide) ?_
      refine j_aload_n (n := 38) dX10_wears_37 rfl rfl ?_
      refine jm_get (n := 41) (k := 0) (b := 161) dX10_wears_38 rfl fX10_7 rfl (by decide) hk ?_
      refine j_iconst (n := 42) (v := nI 2) dX10_wears_41 rfl rfl ?_
      refine jm_ald (n := 43) (L := 3100) (a := 161) (i := 2) (v := nI (p 2)) dX10_wears_42 rfl hk rfl (by omega) rfl ?_
      refine jm_ast (n := 44) (L := 128) (a := 176) (i := 116) (x := nI (p 2)) (M2 := mm (zs M 176 (upd (upd (upd (M 176) 114 (nI r)) 115 (nI sort)) 116 (nI (p 2)))) p) dX10_wears_43 rfl hk rfl (by omega) (mm_wo (by decide) (by rw [zs_eq, zs_zs])) ?_
      refine j_aload_n (n := 45) dX10_wears_44 rfl rfl ?_
      refine j_iload (n := 47) dX10_wears_45 rfl rfl ?_
      refine j_cVr (n := 50) dX10_wears_47 rfl sX10_103 (c_worked d G _ _ hk _ hwt t ht (nI r) (nI sort) (nI (p 2)) (fun v hv => by rw [hkey] at hv ⊢; rw [zs_eq]; exact nm_wear _ _ _ _ hv)) (by omega) (by decide) rfl rfl (Nat.le_of_ble_eq_true rfl) (hk).2.1 (by decide) (kM_lt hk) (by decide) (by decide) (fun r4 N4 Y4 hh4 => ?_)
      obtain ⟨e14, e24, M_4, hs4, e34⟩ := hh4
      rw [e14, e24, e34]
      refine j_bipush (n := 52) (v := nI 99) dX10_wears_50 rfl (by decide) ?_
      refine j_cS (n := 55) dX10_wears_52 rfl sX10_106 (c_within (d + 1) G _ _ _ 99 (by omega)) (by omega) (by decide) rfl rfl (Nat.le_of_ble_eq_true rfl) (by decide) (by decide) ?_
      refine j_istore (n := 57) (lv2 := [some (.ref 160), some (.int (nI kd)), some (.int (nI r)), some (.int (nI sort)), some (.int (nI (min 99 (evT p t (nI r) (nI sort) (nI (p 2))).toInt.toNat))), some (.int (nI t))]) dX10_wears_55 rfl rfl (by decide) rfl ?_
      refine j_iload_n (n := 58) dX10_wears_57 rfl rfl ?_
      have hs5 : kd = 1 ∨ kd = 2 ∨ kd = 3 ∨ kd = 4 ∨ (kd < 1 ∨ 4 < kd) := by omega
      rcases hs5 with hs5 | hs5 | hs5 | hs5 | hs5
      · refine j_tabIn (i := 0) (off := 30) (tg := 88) dX10_wears_58 (by rw [i_N (by omega)]; omega) (by decide) rfl rfl ?_
        refine j_iload (n := 90) dX10_wears_88 rfl rfl ?_
        refine j_iconst (n := 91) (v := nI 2) dX10_wears_90 rfl rfl ?_
        refine j_idivN (n := 92) (c := (min 99 (evT p t (nI r) (nI sort) (nI (p 2))).toInt.toNat) / 2) dX10_wears_91 rfl (by omega) (by omega) (by omega) rfl ?_
        exact j_iret dX10_wears_92 rfl rfl (Nat.le_refl _) (Nat.le_refl _) ⟨_, rfl, (by unfold wearN plainP; rw [hc]; (repeat (first | rw [if_pos (by omega)] | rw [if_neg (by omega)])); all_goals rfl), rfl, _, ((scr.rf M).tr (scr.n _ _)).tr hs4, rfl⟩
      · refine j_tabIn (i := 1) (off := 35) (tg := 93) dX10_wears_58 (by rw [i_N (by omega)]; omega) (by decide) rfl rfl ?_
        refine j_iconst (n := 94) (v := nI 2) dX10_wears_93 rfl rfl ?_
        refine j_iload (n := 96) dX10_wears_94 rfl rfl ?_
        refine j_imulN (n := 97) (c := 2 * (min 99 (evT p t (nI r) (nI sort) (nI (p 2))).toInt.toNat)) dX10_wears_96 rfl rfl ?_
        exact j_iret dX10_wears_97 rfl rfl (Nat.le_refl _) (Nat.le_refl _) ⟨_, rfl, (by unfold wearN plainP; rw [hc]; (repeat (first | rw [if_pos (by omega)] | rw [if_neg (by omega)])); all_goals rfl), rfl, _, ((scr.rf M).tr (scr.n _ _)).tr hs4, rfl⟩
      · refine j_tabIn (i := 2) (off := 30) (tg := 88) dX10_wears_58 (by rw [i_N (by omega)]; omega) (by decide) rfl rfl ?_
        refine j_iload (n := 90) dX10_wears_88 rfl rfl ?_
        refine j_iconst (n := 91) (v := nI 2) dX10_wears_90 rfl rfl ?_
        refine j_idivN (n := 92) (c := (min 99 (evT p t (nI r) (nI sort) (nI (p 2))).toInt.toNat) / 2) dX10_wears_91 rfl (by omega) (by omega) (by omega) rfl ?_
        exact j_iret dX10_wears_92 rfl rfl (Nat.le_refl _) (Nat.le_refl _) ⟨_, rfl, (by unfold wearN plainP; rw [hc]; (repeat (first | rw [if_pos (by omega)] | rw [if_neg (by omega)])); all_goals rfl), rfl, _, ((scr.rf M).tr (scr.n _ _)).tr hs4, rfl⟩
      · refine j_tabIn (i := 3) (off := 40) (tg := 98) dX10_wears_58 (by rw [i_N (by omega)]; omega) (by decide) rfl rfl ?_
        refine j_iconst (n := 99) (v := nI 2) dX10_wears_98 rfl rfl ?_
        refine j_iload (n := 101) dX10_wears_99 rfl rfl ?_
        refine j_imulN (n := 102) (c := 2 * (min 99 (evT p t (nI r) (nI sort) (nI (p 2))).toInt.toNat)) dX10_wears_101 rfl rfl ?_
        refine j_iconst (n := 103) (v := nI 1) dX10_wears_102 rfl rfl ?_
        refine j_iaddN (n := 104) (c := 2 * (min 99 (evT p t (nI r) (nI sort) (nI (p 2))).toInt.toNat) + 1) dX10_wears_103 rfl rfl ?_
        exact j_iret dX10_wears_104 rfl rfl (Nat.le_refl _) (Nat.le_refl _) ⟨_, rfl, (by unfold wearN plainP; rw [hc]; (repeat (first | rw [if_pos (by omega)] | rw [if_neg (by omega)])); all_goals rfl), rfl, _, ((scr.rf M).tr (scr.n _ _)).tr hs4, rfl⟩
      · refine j_tabOut (tg := 105) dX10_wears_58 (by rw [i_N (by omega)]; omega) rfl ?_
        refine j_iload (n := 107) dX10_wears_105 rfl rfl ?_
        exact j_iret dX10_wears_107 rfl rfl (Nat.le_refl _) (Nat.le_refl _) ⟨_, rfl, (by unfold wearN plainP; rw [hc]; (repeat (first | rw [if_pos (by omega)] | rw [if_neg (by omega)])); all_goals rfl), rfl, _, ((scr.rf M).tr (scr.n _ _)).tr hs4, rfl⟩
theorem c_worn (d : Nat) (G : zG) (M : zMem) (X : zX) (hk : kM X) (p : Nat → Nat) (hwt : wfT p) (hd2 : p 2 < 2147483648) (kd r sort : Nat) (hkd : kd ≤ 5) (hr : r ≤ 99) (hsrt : sort ≤ 2) : zCall G miX10_worn (d + 3) [.ref 160, .int (nI kd), .int (nI r), .int (nI sort)] (zIr (fun r0 M1 X1 => r0 = nI (wornP p kd r sort) ∧ X1 = X ∧ ∃ M2, scr M M2 ∧ M1 = mm M2 p)) (mm M p) X 0 0 := by
  refine zCall.of (lv := [some (.ref 160), some (.int (nI kd)), some (.int (nI r)), some (.int (nI sort)), none]) (by decide) (Nat.le_of_ble_eq_true rfl) rfl ?_
  have hpl := plainP_le p r sort
  have hwl := wearN_le (k := kd) hpl
  refine j_iload_n (n := 1) dX10_worn_0 rfl rfl ?_
  refine j_aload_n (n := 2) dX10_worn_1 rfl rfl ?_
  refine j_iload_n (n := 3) dX10_worn_2 rfl rfl ?_
  refine j_iload_n (n := 4) dX10_worn_3 rfl rfl ?_
  refine j_iload_n (n := 5) dX10_worn_4 rfl rfl ?_
  refine j_cVr (n := 8) dX10_worn_5 rfl sX10_110 (c_wears d G _ _ hk _ hwt hd2 kd r sort (by omega) (by omega) (by omega)) (by omega) (by decide) rfl rfl (Nat.le_of_ble_eq_true rfl) (hk).2.1 (by decide) (kM_lt hk) (by decide) (by decide) (fun r1 N1 Y1 hh1 => ?_)
  obtain ⟨e11, e21, M_1, hs1, e31⟩ := hh1
  rw [e11, e21, e31]
  refine j_isub (n := 9) dX10_worn_8 rfl ?_
  refine j_istore (n := 11) (lv2 := [some (.ref 160), some (.int (nI kd)), some (.int (nI r)), some (.int (nI sort)), some (.int ((nI r) - (nI (wearN kd (plainP p r sort)))))]) dX10_worn_9 rfl rfl (by decide) rfl ?_
  have esub : (nI r - nI (wearN kd (plainP p r sort))).toInt = (r : Int) - (wearN kd (plainP p r sort) : Int) := pk_sub_toInt (by omega) (by omega)
  refine j_iload (n := 13) dX10_worn_11 rfl rfl ?_
  refine j_if_geT (n := 16) (tg := 20) dX10_worn_13 rfl rfl (fun h2 => ?_) (fun h2 => ?_)
  · refine j_iload (n := 22) dX10_worn_20 rfl rfl ?_
    exact j_iret dX10_worn_22 rfl rfl (Nat.le_refl _) (Nat.le_refl _) ⟨_, rfl, (by unfold wornP; exact pk_sub (by omega)), rfl, _, (scr.rf M).tr hs1, rfl⟩
  · refine j_iconst (n := 17) (v := nI 0) dX10_worn_16 rfl rfl ?_
    refine j_goto (n := 22) dX10_worn_17 rfl ?_
    exact j_iret dX10_worn_22 rfl rfl (Nat.le_refl _) (Nat.le_refl _) ⟨_, rfl, (by unfold wornP; rw [show r - wearN kd (plainP p r sort) = 0 by omega]), rfl, _, (scr.rf M).tr hs1, rfl⟩
/-- one goes through a lock -/
def goP (p : Nat → Nat) (k l : Nat) : Nat → Nat :=
  pu (pu (pu p (10 + 5 * k + (2 + p (50 + 5 * l + 2))) (wornP p (p (10 + 5 * k + 0)) (p (10 + 5 * k + (2 + p (50 + 5 * l + 2)))) (p (50 + 5 * l + 2)))) (10 + 5 * k + 1) (p (50 + 5 * l + 1))) 3 (p 3 + 1)
theorem c_goesThrough (d : Nat) (G : zG) (M : zMem) (X : zX) (hk : kM X) (p : Nat → Nat) (hw : wfO p) (hwl : wfL p) (hwt : wfT p) (hd2 : p 2 < 2147483648) (k l : Nat) (hk1 : k < p 0) (hl1 : l < p 8) : zCall G miX10_goesThrough (d + 4) [.ref 160, .int (nI k), .int (nI l)] (zVr (fun M1 X1 => X1 = X ∧ ∃ M2, scr M M2 ∧ M1 = mm M2 (goP p k l))) (mm M p) X 0 0 := by
  refine zCall.of (lv := [some (.ref 160), some (.int (nI k)), some (.int (nI l)), none]) (by decide) (Nat.le_of_ble_eq_true rfl) rfl ?_
  have hw0 := hw.1
  have hw1 := hwl.1
  have ho := hw.2 k hk1
  have hl := hwl.2 l hl1
  have hr := hw.reg hk1 (j := p (50 + 5 * l + 2)) (by omega)
  refine j_aload_n (n := 1) dX10_goesThrough_0 rfl rfl ?_
  refine j_iload_n (n := 2) dX10_goesThrough_1 rfl rfl ?_
  refine j_iconst (n := 3) (v := nI 2) dX10_goesThrough_2 rfl rfl ?_
  refine j_cV (n := 6) dX10_goesThrough_3 rfl sX10_147 (c_lockOf (d + 3) G _ _ hk _ l 2 (by omega)) (by omega) (by decide) rfl rfl (Nat.le_of_ble_eq_true rfl) (hk).2.1 (by decide) (kM_lt hk) (by decide) (by decide) ?_
  refine j_istore_n (n := 7) (lv2 := [some (.ref 160), some (.int (nI k)), some (.int (nI l)), some (.int (nI (p (50 + 5 * l + 2))))]) dX10_goesThrough_6 rfl rfl (by decide) rfl ?_
  refine j_aload_n (n := 8) dX10_goesThrough_7 rfl rfl ?_
  refine j_iload_n (n := 9) dX10_goesThrough_8 rfl rfl ?_
  refine j_iconst (n := 10) (v := nI 2) dX10_goesThrough_9 rfl rfl ?_
  refine j_iload_n (n := 11) dX10_goesThrough_10 rfl rfl ?_
  refine j_iaddN (n := 12) (c := 2 + (p (50 + 5 * l + 2))) dX10_goesThrough_11 rfl (by omega) ?_
  refine j_aload_n (n := 13) dX10_goesThrough_12 rfl rfl ?_
  refine j_aload_n (n := 14) dX10_goesThrough_13 rfl rfl ?_
  refine j_iload_n (n := 15) dX10_goesThrough_14 rfl rfl ?_
  refine j_iconst (n := 16) (v := nI 0) dX10_goesThrough_15 rfl rfl ?_
  refine j_cV (n := 19) dX10_goesThrough_16 rfl sX10_114 (c_of (d + 3) G _ _ hk _ k 0 (by omega)) (by omega) (by decide) rfl rfl (Nat.le_of_ble_eq_true rfl) (hk).2.1 (by decide) (kM_lt hk) (by decide) (by decide) ?_
  refine j_aload_n (n := 20) dX10_goesThrough_19 rfl rfl ?_
  refine j_iload_n (n := 21) dX10_goesThrough_20 rfl rfl ?_
  refine j_iconst (n := 22) (v := nI 2) dX10_goesThrough_21 rfl rfl ?_
  refine j_iload_n (n := 23) dX10_goesThrough_22 rfl rfl ?_
  refine j_iaddN (n := 24) (c := 2 + (p (50 + 5 * l + 2))) dX10_goesThrough_23 rfl (by omega) ?_
  refine j_cV (n := 27) dX10_goesThrough_24 rfl sX10_114 (c_of (d + 3) G _ _ hk _ k (2 + (p (50 + 5 * l + 2))) (by omega)) (by omega) (by decide) rfl rfl (Nat.le_of_ble_eq_true rfl) (hk).2.1 (by decide) (kM_lt hk) (by decide) (by decide) ?_
  refine j_iload_n (n := 28) dX10_goesThrough_27 rfl rfl ?_
  refine j_cVr (n := 31) dX10_goesThrough_28 rfl sX10_165 (c_worn d G _ _ hk _ hwt hd2 (p (10 + 5 * k + 0)) (p (10 + 5 * k + (2 + (p (50 + 5 * l + 2))))) (p (50 + 5 * l + 2)) (by omega) (by omega) (by omega)) (by omega) (by decide) rfl rfl (Nat.le_of_ble_eq_true rfl) (hk).2.1 (by decide) (kM_lt hk) (by decide) (by decide) (fun r1 N1 Y1 hh1 => ?_)
  obtain ⟨e11, e21, M_1, hs1, e31⟩ := hh1
  rw [e11, e21, e31]
  refine j_cVv (n := 34) dX10_goesThrough_31 rfl sX10_80 (c_gives (d + 3) G _ _ hk _ k (2 + (p (50 + 5 * l + 2))) (wornP p (p (10 + 5 * k + 0)) (p (10 + 5 * k + (2 + (p (50 + 5 * l + 2))))) (p (50 + 5 * l + 2))) (by omega)) (by omega) (by decide) rfl rfl (Nat.le_of_ble_eq_true rfl) (hk).2.1 (by decide) (kM_lt hk) (by decide) (by decide) ?_
  refine j_aload_n (n := 35) dX10_goesThrough_34 rfl rfl ?_
  refine j_iload_n (n := 36) dX10_goesThrough_35 rfl rfl ?_
  refine j_iconst (n := 37) (v := nI 1) dX10_goesThrough_36 rfl rfl ?_
  refine j_aload_n (n := 38) dX10_goesThrough_37 rfl rfl ?_
  refine j_iload_n (n := 39) dX10_goesThrough_38 rfl rfl ?_
  refine j_iconst (n := 40) (v := nI 1) dX10_goesThrough_39 rfl rfl ?_
  refine j_cV (n := 43) dX10_goesThrough_40 rfl sX10_147 (c_lockOf (d + 3) G _ _ hk _ l 1 (by omega)) (by omega) (by decide) rfl rfl (Nat.le_of_ble_eq_true rfl) (hk).2.1 (by decide) (kM_lt hk) (by decide) (by decide) ?_
  refine j_top (y := nI (p (50 + 5 * l + 1))) (congrArg nI (by repeat (first | rw [pu_eq] | rw [pu_ne _ _ (by omega)] | rw [drawZ_ne _ (by omega)]))) ?_
  refine j_cVv (n := 46) dX10_goesThrough_43 rfl sX10_80 (c_gives (d + 3) G _ _ hk _ k 1 (p (50 + 5 * l + 1)) (by omega)) (by omega) (by decide) rfl rfl (Nat.le_of_ble_eq_true rfl) (hk).2.1 (by decide) (kM_lt hk) (by decide) (by decide) ?_
  refine j_aload_n (n := 47) dX10_goesThrough_46 rfl rfl ?_
  refine jm_get (n := 50) (k := 0) (b := 161) dX10_goesThrough_47 rfl fX10_7 rfl (by decide) hk ?_
  refine j_iconst (n := 51) (v := nI 3) dX10_goesThrough_50 rfl rfl ?_
  refine j_dup2 (n := 52) dX10_goesThrough_51 rfl rfl rfl ?_
  refine jm_ald (n := 53) (L := 3100) (a := 161) (i := 3) (v := nI (p 3)) dX10_goesThrough_52 rfl hk rfl (by omega) (congrArg nI (by repeat (first | rw [pu_eq] | rw [pu_ne _ _ (by omega)] | rw [drawZ_ne _ (by omega)]))) ?_
  refine j_iconst (n := 54) (v := nI 1) dX10_goesThrough_53 rfl rfl ?_
  refine j_iaddN (n := 55) (c := p 3 + 1) dX10_goesThrough_54 rfl rfl ?_
  refine jm_ast (n := 56) (L := 3100) (a := 161) (i := 3) (x := nI (p 3 + 1)) (M2 := mm M_1 (pu (pu (pu p (10 + 5 * k + (2 + (p (50 + 5 * l + 2)))) (wornP p (p (10 + 5 * k + 0)) (p (10 + 5 * k + (2 + (p (50 + 5 * l + 2))))) (p (50 + 5 * l + 2)))) (10 + 5 * k + 1) (p (50 + 5 * l + 1))) 3 (p 3 + 1))) dX10_goesThrough_55 rfl hk rfl (by omega) (mm_w _ _ _ _) ?_
  exact j_vret dX10_goesThrough_56 rfl (Nat.le_refl _) (Nat.le_refl _) ⟨rfl, rfl, _, (scr.rf M).tr hs1, rfl⟩
def r_passes (p : Nat → Nat) (one lock : Int32) : Int32 := if ¬ ((0 ≤ one.toInt ∧ one.toInt ≤ (p 0 : Int) - 1) ∧ (0 ≤ lock.toInt ∧ lock.toInt ≤ (p 8 : Int) - 1)) then cBAD else if ¬ (p (10 + 5 * tN one + 1) = p (50 + 5 * tN lock + 0) ∧ (p (50 + 5 * tN lock + 4) = 0 ∧ p (50 + 5 * tN lock + 3) ≤ feelsN (p (10 + 5 * tN one + 0)) (p (10 + 5 * tN one + (2 + p (50 + 5 * tN lock + 2)))))) then cNO else nI (p (50 + 5 * tN lock + 1))
def q_passes (p : Nat → Nat) (one lock : Int32) : Nat → Nat := if ¬ ((0 ≤ one.toInt ∧ one.toInt ≤ (p 0 : Int) - 1) ∧ (0 ≤ lock.toInt ∧ lock.toInt ≤ (p 8 : Int) - 1)) then p else if ¬ (p (10 + 5 * tN one + 1) = p (50 + 5 * tN lock + 0) ∧ (p (50 + 5 * tN lock + 4) = 0 ∧ p (50 + 5 * tN lock + 3) ≤ feelsN (p (10 + 5 * tN one + 0)) (p (10 + 5 * tN one + (2 + p (50 + 5 * tN lock + 2)))))) then p else goP p (tN one) (tN lock)
theorem c_passes (d : Nat) (G : zG) (M : zMem) (X : zX) (hk : kM X) (p : Nat → Nat) (hw : wfO p) (hwl : wfL p) (hwt : wfT p) (hd2 : p 2 < 2147483648) (one lock : Int32) : zCall G miX10_passes (d + 5) [.ref 160, .int one, .int lock] (zIr (fun r0 M1 X1 => r0 = r_passes p one lock ∧ X1 = X ∧ ∃ M2, scr M M2 ∧ M1 = mm M2 (q_passes p one lock))) (mm M p) X 0 0 := by
  refine zCall.of (lv := [some (.ref 160), some (.int one), some (.int lock)]) (by decide) (Nat.le_of_ble_eq_true rfl) rfl ?_
  have hw0 := hw.1
  have hw1 := hwl.1
  refine j_aload_n (n := 1) dX10_passes_0 rfl rfl ?_
  refine j_iload_n (n := 2) dX10_passes_1 rfl rfl ?_
  refine j_cV (n := 5) dX10_passes_2 rfl sX10_120 (c_isOne (d + 3) G _ _ hk _ (by omega) _) (by omega) (by decide) rfl rfl (Nat.le_of_ble_eq_true rfl) (hk).2.1 (by decide) (kM_lt hk) (by decide) (by decide) ?_
  refine j_if_eqB (n := 8) (tg := 16) dX10_passes_5 rfl rfl (fun h1 => ?_) (fun h1 => ?_)
  · refine j_ldc (n := 18) (v := -1000000001) dX10_passes_16 rfl kX10_93 ?_
    exact j_iret dX10_passes_18 rfl rfl (Nat.le_refl _) (Nat.le_refl _) ⟨_, rfl, (by unfold r_passes; (try simp only [ek, el]); repeat (first | rw [if_pos (by omega)] | rw [if_neg (by omega)])), rfl, _, scr.rf M, (by unfold q_passes; (try simp only [ek, el]); (repeat (first | rw [if_pos (by omega)] | rw [if_neg (by omega)])))⟩
  · refine j_aload_n (n := 9) dX10_passes_8 rfl rfl ?_
    refine j_iload_n (n := 10) dX10_passes_9 rfl rfl ?_
    refine j_cV (n := 13) dX10_passes_10 rfl sX10_150 (c_isLock (d + 3) G _ _ hk _ (by omega) _) (by omega) (by decide) rfl rfl (Nat.le_of_ble_eq_true rfl) (hk).2.1 (by decide) (kM_lt hk) (by decide) (by decide) ?_
    refine j_if_neB (n := 16) (tg := 19) dX10_passes_13 rfl rfl (fun h2 => ?_) (fun h2 => ?_)
    · obtain ⟨k, hk1, rfl⟩ := i_of (x := one) (n := p 0) (by omega) (by omega)
      have ek : tN (nI k) = k := tN_nI (by omega)
      have ik : (nI k).toInt = k := i_N (by omega)
      obtain ⟨l, hl1, rfl⟩ := i_of (x := lock) (n := p 8) (by omega) (by omega)
      have el : tN (nI l) = l := tN_nI (by omega)
      have il : (nI l).toInt = l := i_N (by omega)
      have ho := hw.2 k hk1
      have hl := hwl.2 l hl1
      refine j_aload_n (n := 20) dX10_passes_19 rfl rfl ?_
      refine j_iload_n (n := 21) dX10_passes_20 rfl rfl ?_
      refine j_iconst (n := 22) (v := nI 1) dX10_passes_21 rfl rfl ?_
      refine j_cV (n := 25) dX10_passes_22 rfl sX10_114 (c_of (d + 4) G _ _ hk _ k 1 (by omega)) (by omega) (by decide) rfl rfl (Nat.le_of_ble_eq_true rfl) (hk).2.1 (by decide) (kM_lt hk) (by decide) (by decide) ?_
      refine j_aload_n (n := 26) dX10_passes_25 rfl rfl ?_
      refine j_iload_n (n := 27) dX10_passes_26 rfl rfl ?_
      refine j_iconst (n := 28) (v := nI 0) dX10_passes_27 rfl rfl ?_
      refine j_cV (n := 31) dX10_passes_28 rfl sX10_147 (c_lockOf (d + 4) G _ _ hk _ l 0 (by omega)) (by omega) (by decide) rfl rfl (Nat.le_of_ble_eq_true rfl) (hk).2.1 (by decide) (kM_lt hk) (by decide) (by decide) ?_
      refine j_icmp_neT (n := 34) (tg := 43) dX10_passes_31 rfl rfl (i_N (by omega)) (i_N (by omega)) (fun h3 => ?_) (fun h3 => ?_)
      · refine j_ldc (n := 45) (v := -1000000002) dX10_passes_43 rfl kX10_158 ?_
        exact j_iret dX10_passes_45 rfl rfl (Nat.le_refl _) (Nat.le_refl _) ⟨_, rfl, (by unfold r_passes; (try simp only [ek, el]); repeat (first | rw [if_pos (by omega)] | rw [if_neg (by omega)])), rfl, _, scr.rf M, (by unfold q_passes; (try simp only [ek, el]); (repeat (first | rw [if_pos (by omega)] | rw [if_neg (by omega)])))⟩
      · refine j_aload_n (n := 35) dX10_passes_34 rfl rfl ?_
        refine j_iload_n (n := 36) dX10_passes_35 rfl rfl ?_
        refine j_iload_n (n := 37) dX10_passes_36 rfl rfl ?_
        refine j_cV (n := 40) dX10_passes_37 rfl sX10_153 (c_isOpen (d + 3) G _ _ hk _ hw hwl l k (by omega) (by omega)) (by omega) (by decide) rfl rfl (Nat.le_of_ble_eq_true rfl) (hk).2.1 (by decide) (kM_lt hk) (by decide) (by decide) ?_
        refine j_if_neB (n := 43) (tg := 46) dX10_passes_40 rfl rfl (fun h4 => ?_) (fun h4 => ?_)
        · refine j_aload_n (n := 47) dX10_passes_46 rfl rfl ?_
          refine j_iload_n (n := 48) dX10_passes_47 rfl rfl ?_
          refine j_iload_n (n := 49) dX10_passes_48 rfl rfl ?_
          refine j_cVvr (n := 52) dX10_passes_49 rfl sX10_168 (c_goesThrough d G _ _ hk _ hw hwl hwt hd2 k l (by omega) (by omega)) (by omega) (by decide) rfl rfl (Nat.le_of_ble_eq_true rfl) (hk).2.1 (by decide) (kM_lt hk) (by decide) (by decide) (fun N5 Y5 hh5 => ?_)
          obtain ⟨e25, M_5, hs5, e35⟩ := hh5
          rw [e25, e35]
          refine j_aload_n (n := 53) dX10_passes_52 rfl rfl ?_
          refine j_iload_n (n := 54) dX10_passes_53 rfl rfl ?_
          refine j_iconst (n := 55) (v := nI 1) dX10_passes_54 rfl rfl ?_
          refine j_cV (n := 58) dX10_passes_55 rfl sX10_114 (c_of (d + 4) G _ _ hk _ k 1 (by omega)) (by omega) (by decide) rfl rfl (Nat.le_of_ble_eq_true rfl) (hk).2.1 (by decide) (kM_lt hk) (by decide) (by decide) ?_
          refine j_top (y := nI (p (50 + 5 * l + 1))) (congrArg nI (by unfold goP; rw [pu_ne _ _ (by omega), pu_eq])) ?_
          exact j_iret dX10_passes_58 rfl rfl (Nat.le_refl _) (Nat.le_refl _) ⟨_, rfl, (by unfold r_passes; (try simp only [ek, el]); repeat (first | rw [if_pos (by omega)] | rw [if_neg (by omega)])), rfl, _, (scr.rf M).tr hs5, (by unfold q_passes; (try simp only [ek, el]); (repeat (first | rw [if_pos (by omega)] | rw [if_neg (by omega)])))⟩
        · refine j_ldc (n := 45) (v := -1000000002) dX10_passes_43 rfl kX10_158 ?_
          exact j_iret dX10_passes_45 rfl rfl (Nat.le_refl _) (Nat.le_refl _) ⟨_, rfl, (by unfold r_passes; (try simp only [ek, el]); repeat (first | rw [if_pos (by omega)] | rw [if_neg (by omega)])), rfl, _, scr.rf M, (by unfold q_passes; (try simp only [ek, el]); (repeat (first | rw [if_pos (by omega)] | rw [if_neg (by omega)])))⟩
    · refine j_ldc (n := 18) (v := -1000000001) dX10_passes_16 rfl kX10_93 ?_
      exact j_iret dX10_passes_18 rfl rfl (Nat.le_refl _) (Nat.le_refl _) ⟨_, rfl, (by unfold r_passes; (try simp only [ek, el]); repeat (first | rw [if_pos (by omega)] | rw [if_neg (by omega)])), rfl, _, scr.rf M, (by unfold q_passes; (try simp only [ek, el]); (repeat (first | rw [if_pos (by omega)] | rw [if_neg (by omega)])))⟩
