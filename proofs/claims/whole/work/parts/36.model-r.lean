-- MODEL R: by program (wip/whole/gen/b18.py)
theorem c_isLetter (d : Nat) (G : zG) (M : zMem) (X : zX) (hk : kM X) (F p : Nat → Nat) (T : Nat → Nat) (hT : tpN M T) (hL : F 16 ≤ 96) (i : Nat) (hi : i ≤ 96) : zCall G miX10_isLetter (d + 1) [.ref 160, .int (nI i)] (zI (zB (i < F 16 ∧ 97 ≤ T i ∧ T i ≤ 122)) (mf M F p) X) (mf M F p) X 0 0 := by
  refine zCall.of (lv := [some (.ref 160), some (.int (nI i))]) (by decide) (Nat.le_of_ble_eq_true rfl) rfl ?_
  refine j_iload_n (n := 1) dX10_isLetter_0 rfl rfl ?_
  refine j_aload_n (n := 2) dX10_isLetter_1 rfl rfl ?_
  refine jm_geti (n := 5) (k := 16) (v := nI (F 16)) dX10_isLetter_2 rfl fX10_211 hk (mf_f _ _ _ 16) ?_
  refine j_icmp_geT (n := 8) (tg := 31) dX10_isLetter_5 rfl rfl (i_N (by omega)) (i_N (by omega)) (fun h1 => ?_) (fun h1 => ?_)
  · refine j_iconst (n := 32) (v := nI 0) dX10_isLetter_31 rfl rfl ?_
    exact j_rb dX10_isLetter_32 rfl rfl (Nat.le_refl _) (Nat.le_refl _) (by first | exact (zB_t (by omega)).symm | exact (zB_f (by omega)).symm) rfl rfl
  · have hti := (hT i (by omega)).2
    refine j_aload_n (n := 9) dX10_isLetter_8 rfl rfl ?_
    refine jm_get (n := 12) (k := 15) (b := 175) dX10_isLetter_9 rfl fX10_52 rfl (by decide) hk ?_
    refine j_iload_n (n := 13) dX10_isLetter_12 rfl rfl ?_
    refine jm_ald (n := 14) (L := 96) (a := 175) (i := i) (v := nI (T i)) dX10_isLetter_13 rfl hk rfl (by omega) ((congrFun (mf_o _ _ _ (by decide) (by decide)) _).trans (hT _ (by omega)).1) ?_
    refine j_i2l (n := 15) dX10_isLetter_14 rfl ?_
    refine j_ldc2 (n := 18) (v := lN 97) dX10_isLetter_15 rfl kX10_215 ?_
    refine j_ldc2 (n := 21) (v := lN 122) dX10_isLetter_18 rfl kX10_217 ?_
    refine j_cS (n := 24) dX10_isLetter_21 rfl sX10_71 (c_isInI (x := (((T i) : Nat) : Int)) (a := 97) (b := 122) d G _ _ _ _ _ ((l_toInt _).trans (i_N (by omega))) rfl rfl) (by omega) (by decide) rfl rfl (Nat.le_of_ble_eq_true rfl) (by decide) (by decide) ?_
    refine j_if_eqB (n := 27) (tg := 31) dX10_isLetter_24 rfl rfl (fun h2 => ?_) (fun h2 => ?_)
    · refine j_iconst (n := 32) (v := nI 0) dX10_isLetter_31 rfl rfl ?_
      exact j_rb dX10_isLetter_32 rfl rfl (Nat.le_refl _) (Nat.le_refl _) (by first | exact (zB_t (by omega)).symm | exact (zB_f (by omega)).symm) rfl rfl
    · refine j_iconst (n := 28) (v := nI 1) dX10_isLetter_27 rfl rfl ?_
      refine j_goto (n := 32) dX10_isLetter_28 rfl ?_
      exact j_rb dX10_isLetter_32 rfl rfl (Nat.le_refl _) (Nat.le_refl _) (by first | exact (zB_t (by omega)).symm | exact (zB_f (by omega)).symm) rfl rfl
theorem c_isDigit (d : Nat) (G : zG) (M : zMem) (X : zX) (hk : kM X) (F p : Nat → Nat) (T : Nat → Nat) (hT : tpN M T) (hL : F 16 ≤ 96) (i : Nat) (hi : i ≤ 96) : zCall G miX10_isDigit (d + 1) [.ref 160, .int (nI i)] (zI (zB (i < F 16 ∧ 48 ≤ T i ∧ T i ≤ 57)) (mf M F p) X) (mf M F p) X 0 0 := by
  refine zCall.of (lv := [some (.ref 160), some (.int (nI i))]) (by decide) (Nat.le_of_ble_eq_true rfl) rfl ?_
  refine j_iload_n (n := 1) dX10_isDigit_0 rfl rfl ?_
  refine j_aload_n (n := 2) dX10_isDigit_1 rfl rfl ?_
  refine jm_geti (n := 5) (k := 16) (v := nI (F 16)) dX10_isDigit_2 rfl fX10_211 hk (mf_f _ _ _ 16) ?_
  refine j_icmp_geT (n := 8) (tg := 31) dX10_isDigit_5 rfl rfl (i_N (by omega)) (i_N (by omega)) (fun h1 => ?_) (fun h1 => ?_)
  · refine j_iconst (n := 32) (v := nI 0) dX10_isDigit_31 rfl rfl ?_
    exact j_rb dX10_isDigit_32 rfl rfl (Nat.le_refl _) (Nat.le_refl _) (by first | exact (zB_t (by omega)).symm | exact (zB_f (by omega)).symm) rfl rfl
  · have hti := (hT i (by omega)).2
    refine j_aload_n (n := 9) dX10_isDigit_8 rfl rfl ?_
    refine jm_get (n := 12) (k := 15) (b := 175) dX10_isDigit_9 rfl fX10_52 rfl (by decide) hk ?_
    refine j_iload_n (n := 13) dX10_isDigit_12 rfl rfl ?_
    refine jm_ald (n := 14) (L := 96) (a := 175) (i := i) (v := nI (T i)) dX10_isDigit_13 rfl hk rfl (by omega) ((congrFun (mf_o _ _ _ (by decide) (by decide)) _).trans (hT _ (by omega)).1) ?_
    refine j_i2l (n := 15) dX10_isDigit_14 rfl ?_
    refine j_ldc2 (n := 18) (v := lN 48) dX10_isDigit_15 rfl kX10_219 ?_
    refine j_ldc2 (n := 21) (v := lN 57) dX10_isDigit_18 rfl kX10_221 ?_
    refine j_cS (n := 24) dX10_isDigit_21 rfl sX10_71 (c_isInI (x := (((T i) : Nat) : Int)) (a := 48) (b := 57) d G _ _ _ _ _ ((l_toInt _).trans (i_N (by omega))) rfl rfl) (by omega) (by decide) rfl rfl (Nat.le_of_ble_eq_true rfl) (by decide) (by decide) ?_
    refine j_if_eqB (n := 27) (tg := 31) dX10_isDigit_24 rfl rfl (fun h2 => ?_) (fun h2 => ?_)
    · refine j_iconst (n := 32) (v := nI 0) dX10_isDigit_31 rfl rfl ?_
      exact j_rb dX10_isDigit_32 rfl rfl (Nat.le_refl _) (Nat.le_refl _) (by first | exact (zB_t (by omega)).symm | exact (zB_f (by omega)).symm) rfl rfl
    · refine j_iconst (n := 28) (v := nI 1) dX10_isDigit_27 rfl rfl ?_
      refine j_goto (n := 32) dX10_isDigit_28 rfl ?_
      exact j_rb dX10_isDigit_32 rfl rfl (Nat.le_refl _) (Nat.le_refl _) (by first | exact (zB_t (by omega)).symm | exact (zB_f (by omega)).symm) rfl rfl
theorem c_isSign (d : Nat) (G : zG) (M : zMem) (X : zX) (hk : kM X) (F p : Nat → Nat) (h19 : F 19 ≤ 4) (h21 : F 21 ≤ 255) (e : Nat) (he : e ≤ 255) : zCall G miX10_isSign (d + 0) [.ref 160, .int (nI e)] (zI (zB (F 19 = 3 ∧ F 21 = e)) (mf M F p) X) (mf M F p) X 0 0 := by
  refine zCall.of (lv := [some (.ref 160), some (.int (nI e))]) (by decide) (Nat.le_of_ble_eq_true rfl) rfl ?_
  refine j_aload_n (n := 1) dX10_isSign_0 rfl rfl ?_
  refine jm_geti (n := 4) (k := 19) (v := nI (F 19)) dX10_isSign_1 rfl fX10_226 hk (mf_f _ _ _ 19) ?_
  refine j_iconst (n := 5) (v := nI 3) dX10_isSign_4 rfl rfl ?_
  refine j_icmp_neT (n := 8) (tg := 20) dX10_isSign_5 rfl rfl (i_N (by omega)) (i_N (by omega)) (fun h1 => ?_) (fun h1 => ?_)
  · refine j_iconst (n := 21) (v := nI 0) dX10_isSign_20 rfl rfl ?_
    exact j_rb dX10_isSign_21 rfl rfl (Nat.le_refl _) (Nat.le_refl _) (by first | exact (zB_t (by omega)).symm | exact (zB_f (by omega)).symm) rfl rfl
  · refine j_aload_n (n := 9) dX10_isSign_8 rfl rfl ?_
    refine jm_geti (n := 12) (k := 21) (v := nI (F 21)) dX10_isSign_9 rfl fX10_235 hk (mf_f _ _ _ 21) ?_
    refine j_iload_n (n := 13) dX10_isSign_12 rfl rfl ?_
    refine j_icmp_neT (n := 16) (tg := 20) dX10_isSign_13 rfl rfl (i_N (by omega)) (i_N (by omega)) (fun h2 => ?_) (fun h2 => ?_)
    · refine j_iconst (n := 21) (v := nI 0) dX10_isSign_20 rfl rfl ?_
      exact j_rb dX10_isSign_21 rfl rfl (Nat.le_refl _) (Nat.le_refl _) (by first | exact (zB_t (by omega)).symm | exact (zB_f (by omega)).symm) rfl rfl
    · refine j_iconst (n := 17) (v := nI 1) dX10_isSign_16 rfl rfl ?_
      refine j_goto (n := 21) dX10_isSign_17 rfl ?_
      exact j_rb dX10_isSign_21 rfl rfl (Nat.le_refl _) (Nat.le_refl _) (by first | exact (zB_t (by omega)).symm | exact (zB_f (by omega)).symm) rfl rfl
theorem c_step (d : Nat) (G : zG) (M : zMem) (X : zX) (hk : kM X) (F p : Nat → Nat) (h : F 25 + 2 * F 24 + 1 < 3100) (w v : Nat) : zCall G miX10_step (d + 0) [.ref 160, .int (nI w), .int (nI v)] (zV (mf M (pu F 24 (F 24 + 1)) (pu (pu p (F 25 + 2 * F 24) w) (F 25 + 2 * F 24 + 1) v)) X) (mf M F p) X 0 0 := by
  refine zCall.of (lv := [some (.ref 160), some (.int (nI w)), some (.int (nI v))]) (by decide) (Nat.le_of_ble_eq_true rfl) rfl ?_
  refine j_aload_n (n := 1) dX10_step_0 rfl rfl ?_
  refine jm_get (n := 4) (k := 0) (b := 161) dX10_step_1 rfl fX10_7 rfl (by decide) hk ?_
  refine j_aload_n (n := 5) dX10_step_4 rfl rfl ?_
  refine jm_geti (n := 8) (k := 25) (v := nI (F 25)) dX10_step_5 rfl fX10_247 hk (mf_f _ _ _ 25) ?_
  refine j_iconst (n := 9) (v := nI 2) dX10_step_8 rfl rfl ?_
  refine j_aload_n (n := 10) dX10_step_9 rfl rfl ?_
  refine jm_geti (n := 13) (k := 24) (v := nI (F 24)) dX10_step_10 rfl fX10_250 hk (mf_f _ _ _ 24) ?_
  refine j_imulN (n := 14) (c := 2 * (F 24)) dX10_step_13 rfl rfl ?_
  refine j_iaddN (n := 15) (c := F 25 + 2 * (F 24)) dX10_step_14 rfl rfl ?_
  refine j_iload_n (n := 16) dX10_step_15 rfl rfl ?_
  refine jm_ast (n := 17) (L := 3100) (a := 161) (i := F 25 + 2 * (F 24)) (x := nI w) (M2 := mf M F (pu p (F 25 + 2 * (F 24)) w)) dX10_step_16 rfl hk rfl (by omega) (mf_s _ _ _ _ _) ?_
  refine j_aload_n (n := 18) dX10_step_17 rfl rfl ?_
  refine jm_get (n := 21) (k := 0) (b := 161) dX10_step_18 rfl fX10_7 rfl (by decide) hk ?_
  refine j_aload_n (n := 22) dX10_step_21 rfl rfl ?_
  refine jm_geti (n := 25) (k := 25) (v := nI (F 25)) dX10_step_22 rfl fX10_247 hk (mf_f _ _ _ 25) ?_
  refine j_iconst (n := 26) (v := nI 2) dX10_step_25 rfl rfl ?_
  refine j_aload_n (n := 27) dX10_step_26 rfl rfl ?_
  refine jm_geti (n := 30) (k := 24) (v := nI (F 24)) dX10_step_27 rfl fX10_250 hk (mf_f _ _ _ 24) ?_
  refine j_imulN (n := 31) (c := 2 * (F 24)) dX10_step_30 rfl rfl ?_
  refine j_iaddN (n := 32) (c := F 25 + 2 * (F 24)) dX10_step_31 rfl rfl ?_
  refine j_iconst (n := 33) (v := nI 1) dX10_step_32 rfl rfl ?_
  refine j_iaddN (n := 34) (c := F 25 + 2 * (F 24) + 1) dX10_step_33 rfl rfl ?_
  refine j_iload_n (n := 35) dX10_step_34 rfl rfl ?_
  refine jm_ast (n := 36) (L := 3100) (a := 161) (i := F 25 + 2 * (F 24) + 1) (x := nI v) (M2 := mf M F (pu (pu p (F 25 + 2 * (F 24)) w) (F 25 + 2 * (F 24) + 1) v)) dX10_step_35 rfl hk rfl (by omega) (mf_s _ _ _ _ _) ?_
  refine j_aload_n (n := 37) dX10_step_36 rfl rfl ?_
  refine j_dup (n := 38) dX10_step_37 rfl rfl ?_
  refine jm_geti (n := 41) (k := 24) (v := nI (F 24)) dX10_step_38 rfl fX10_250 hk (mf_f _ _ _ 24) ?_
  refine j_iconst (n := 42) (v := nI 1) dX10_step_41 rfl rfl ?_
  refine j_iaddN (n := 43) (c := F 24 + 1) dX10_step_42 rfl rfl ?_
  refine jm_put (n := 46) (k := 24) (x := nI (F 24 + 1)) (M2 := mf M (pu F 24 (F 24 + 1)) (pu (pu p (F 25 + 2 * (F 24)) w) (F 25 + 2 * (F 24) + 1) v)) dX10_step_43 rfl pX10_250 rfl rfl hk (mf_w rfl) ?_
  exact j_rv dX10_step_46 rfl (Nat.le_refl _) (Nat.le_refl _) rfl rfl
theorem c_isName (d : Nat) (G : zG) (M : zMem) (X : zX) (key e : Nat) (hkey : key ≤ 2) (he : e ≤ 255) : zCall G miX10_isName (d + 0) [.int (nI key), .int (nI e)] (zI (zB ((key = 0 ∧ (e = 114 ∨ e = 115 ∨ e = 116)) ∨ (key = 1 ∧ (e = 101 ∨ e = 104)) ∨ (key = 2 ∧ (e = 114 ∨ e = 111)))) M X) M X 0 0 := by
  refine zCall.of (lv := [some (.int (nI key)), some (.int (nI e))]) (by decide) (Nat.le_of_ble_eq_true rfl) rfl ?_
  refine j_iload_n (n := 1) dX10_isName_0 rfl rfl ?_
  have hs1 : key = 0 ∨ key = 1 ∨ (¬ key = 0 ∧ ¬ key = 1) := by omega
  rcases hs1 with hs1 | hs1 | hs1
  · refine j_lookup (off := 27) (tg := 28) dX10_isName_1 (by decide) (by show Op.lookupswitch.offset ([(0, 27), (1, 51)] : List (Int × Int)) 69 _ = _; rw [i_N (by omega)]; (repeat (first | (rw [Op.lookupswitch.offset_cons, if_pos (by omega)]; done) | rw [Op.lookupswitch.offset_cons, if_neg (by omega)])); all_goals rfl) rfl ?_
    refine j_iload_n (n := 29) dX10_isName_28 rfl rfl ?_
    refine j_bipush (n := 31) (v := nI 114) dX10_isName_29 rfl (by decide) ?_
    refine j_icmp_eqT (n := 34) (tg := 46) dX10_isName_31 rfl rfl (i_N (by omega)) (i_N (by omega)) (fun h2 => ?_) (fun h2 => ?_)
    · refine j_iconst (n := 47) (v := nI 1) dX10_isName_46 rfl rfl ?_
      refine j_goto (n := 51) dX10_isName_47 rfl ?_
      exact j_rb dX10_isName_51 rfl rfl (Nat.le_refl _) (Nat.le_refl _) (by first | exact (zB_t (by omega)).symm | exact (zB_f (by omega)).symm) rfl rfl
    · refine j_iload_n (n := 35) dX10_isName_34 rfl rfl ?_
      refine j_bipush (n := 37) (v := nI 115) dX10_isName_35 rfl (by decide) ?_
      refine j_icmp_eqT (n := 40) (tg := 46) dX10_isName_37 rfl rfl (i_N (by omega)) (i_N (by omega)) (fun h3 => ?_) (fun h3 => ?_)
      · refine j_iconst (n := 47) (v := nI 1) dX10_isName_46 rfl rfl ?_
        refine j_goto (n := 51) dX10_isName_47 rfl ?_
        exact j_rb dX10_isName_51 rfl rfl (Nat.le_refl _) (Nat.le_refl _) (by first | exact (zB_t (by omega)).symm | exact (zB_f (by omega)).symm) rfl rfl
      · refine j_iload_n (n := 41) dX10_isName_40 rfl rfl ?_
        refine j_bipush (n := 43) (v := nI 116) dX10_isName_41 rfl (by decide) ?_
        refine j_icmp_neT (n := 46) (tg := 50) dX10_isName_43 rfl rfl (i_N (by omega)) (i_N (by omega)) (fun h4 => ?_) (fun h4 => ?_)
        · refine j_iconst (n := 51) (v := nI 0) dX10_isName_50 rfl rfl ?_
          exact j_rb dX10_isName_51 rfl rfl (Nat.le_refl _) (Nat.le_refl _) (by first | exact (zB_t (by omega)).symm | exact (zB_f (by omega)).symm) rfl rfl
        · refine j_iconst (n := 47) (v := nI 1) dX10_isName_46 rfl rfl ?_
          refine j_goto (n := 51) dX10_isName_47 rfl ?_
          exact j_rb dX10_isName_51 rfl rfl (Nat.le_refl _) (Nat.le_refl _) (by first | exact (zB_t (by omega)).symm | exact (zB_f (by omega)).symm) rfl rfl
  · refine j_lookup (off := 51) (tg := 52) dX10_isName_1 (by decide) (by show Op.lookupswitch.offset ([(0, 27), (1, 51)] : List (Int × Int)) 69 _ = _; rw [i_N (by omega)]; (repeat (first | (rw [Op.lookupswitch.offset_cons, if_pos (by omega)]; done) | rw [Op.lookupswitch.offset_cons, if_neg (by omega)])); all_goals rfl) rfl ?_
    refine j_iload_n (n := 53) dX10_isName_52 rfl rfl ?_
    refine j_bipush (n := 55) (v := nI 101) dX10_isName_53 rfl (by decide) ?_
    refine j_icmp_eqT (n := 58) (tg := 64) dX10_isName_55 rfl rfl (i_N (by omega)) (i_N (by omega)) (fun h5 => ?_) (fun h5 => ?_)
    · refine j_iconst (n := 65) (v := nI 1) dX10_isName_64 rfl rfl ?_
      refine j_goto (n := 69) dX10_isName_65 rfl ?_
      exact j_rb dX10_isName_69 rfl rfl (Nat.le_refl _) (Nat.le_refl _) (by first | exact (zB_t (by omega)).symm | exact (zB_f (by omega)).symm) rfl rfl
    · refine j_iload_n (n := 59) dX10_isName_58 rfl rfl ?_
      refine j_bipush (n := 61) (v := nI 104) dX10_isName_59 rfl (by decide) ?_
      refine j_icmp_neT (n := 64) (tg := 68) dX10_isName_61 rfl rfl (i_N (by omega)) (i_N (by omega)) (fun h6 => ?_) (fun h6 => ?_)
      · refine j_iconst (n := 69) (v := nI 0) dX10_isName_68 rfl rfl ?_
        exact j_rb dX10_isName_69 rfl rfl (Nat.le_refl _) (Nat.le_refl _) (by first | exact (zB_t (by omega)).symm | exact (zB_f (by omega)).symm) rfl rfl
      · refine j_iconst (n := 65) (v := nI 1) dX10_isName_64 rfl rfl ?_
        refine j_goto (n := 69) dX10_isName_65 rfl ?_
        exact j_rb dX10_isName_69 rfl rfl (Nat.le_refl _) (Nat.le_refl _) (by first | exact (zB_t (by omega)).symm | exact (zB_f (by omega)).symm) rfl rfl
  · refine j_lookup (off := 69) (tg := 70) dX10_isName_1 (by decide) (by show Op.lookupswitch.offset ([(0, 27), (1, 51)] : List (Int × Int)) 69 _ = _; rw [i_N (by omega)]; (repeat (first | (rw [Op.lookupswitch.offset_cons, if_pos (by omega)]; done) | rw [Op.lookupswitch.offset_cons, if_neg (by omega)])); all_goals rfl) rfl ?_
    refine j_iload_n (n := 71) dX10_isName_70 rfl rfl ?_
    refine j_bipush (n := 73) (v := nI 114) dX10_isName_71 rfl (by decide) ?_
    refine j_icmp_eqT (n := 76) (tg := 82) dX10_isName_73 rfl rfl (i_N (by omega)) (i_N (by omega)) (fun h7 => ?_) (fun h7 => ?_)
    · refine j_iconst (n := 83) (v := nI 1) dX10_isName_82 rfl rfl ?_
      refine j_goto (n := 87) dX10_isName_83 rfl ?_
      exact j_rb dX10_isName_87 rfl rfl (Nat.le_refl _) (Nat.le_refl _) (by first | exact (zB_t (by omega)).symm | exact (zB_f (by omega)).symm) rfl rfl
    · refine j_iload_n (n := 77) dX10_isName_76 rfl rfl ?_
      refine j_bipush (n := 79) (v := nI 111) dX10_isName_77 rfl (by decide) ?_
      refine j_icmp_neT (n := 82) (tg := 86) dX10_isName_79 rfl rfl (i_N (by omega)) (i_N (by omega)) (fun h8 => ?_) (fun h8 => ?_)
      · refine j_iconst (n := 87) (v := nI 0) dX10_isName_86 rfl rfl ?_
        exact j_rb dX10_isName_87 rfl rfl (Nat.le_refl _) (Nat.le_refl _) (by first | exact (zB_t (by omega)).symm | exact (zB_f (by omega)).symm) rfl rfl
      · refine j_iconst (n := 83) (v := nI 1) dX10_isName_82 rfl rfl ?_
        refine j_goto (n := 87) dX10_isName_83 rfl ?_
        exact j_rb dX10_isName_87 rfl rfl (Nat.le_refl _) (Nat.le_refl _) (by first | exact (zB_t (by omega)).symm | exact (zB_f (by omega)).symm) rfl rfl
def isWd (T F : Nat → Nat) (a b e g : Nat) : Prop := F 19 = 1 ∧ ((g = 0 ∧ F 18 - F 17 = 3) ∨ (¬ g = 0 ∧ F 18 - F 17 = 4)) ∧ T (F 17) = a ∧ T (F 17 + 1) = b ∧ T (F 17 + 2) = e ∧ (g = 0 ∨ T (F 17 + 3) = g)
theorem c_isWordAt (d : Nat) (G : zG) (M : zMem) (X : zX) (hk : kM X) (F p : Nat → Nat) (T : Nat → Nat) (hT : tpN M T) (hL : F 16 ≤ 96) (h19 : F 19 ≤ 4) (h17 : F 17 ≤ F 18) (h18 : F 18 ≤ F 16) (a b e g : Nat) (ha : a ≤ 255) (hb : b ≤ 255) (he : e ≤ 255) (hg : g ≤ 255) : zCall G miX10_isWordAt (d + 0) [.ref 160, .int (nI a), .int (nI b), .int (nI e), .int (nI g)] (zI (zB (F 19 = 1 ∧ ((g = 0 ∧ F 18 - F 17 = 3) ∨ (¬ g = 0 ∧ F 18 - F 17 = 4)) ∧ T (F 17) = a ∧ T (F 17 + 1) = b ∧ T (F 17 + 2) = e ∧ (g = 0 ∨ T (F 17 + 3) = g))) (mf M F p) X) (mf M F p) X 0 0 := by
  refine zCall.of (lv := [some (.ref 160), some (.int (nI a)), some (.int (nI b)), some (.int (nI e)), some (.int (nI g)), none]) (by decide) (Nat.le_of_ble_eq_true rfl) rfl ?_
  refine j_iload (n := 2) dX10_isWordAt_0 rfl rfl ?_
  refine j_if_neN (n := 5) (tg := 9) dX10_isWordAt_2 rfl rfl (by omega) (fun h1 => ?_) (fun h1 => ?_)
  · refine j_iconst (n := 10) (v := nI 4) dX10_isWordAt_9 rfl rfl ?_
    refine j_istore (n := 12) (lv2 := [some (.ref 160), some (.int (nI a)), some (.int (nI b)), some (.int (nI e)), some (.int (nI g)), some (.int (nI 4))]) dX10_isWordAt_10 rfl rfl (by decide) rfl ?_
    refine j_aload_n (n := 13) dX10_isWordAt_12 rfl rfl ?_
    refine jm_geti (n := 16) (k := 19) (v := nI (F 19)) dX10_isWordAt_13 rfl fX10_226 hk (mf_f _ _ _ 19) ?_
    refine j_iconst (n := 17) (v := nI 1) dX10_isWordAt_16 rfl rfl ?_
    refine j_icmp_neT (n := 20) (tg := 102) dX10_isWordAt_17 rfl rfl (i_N (by omega)) (i_N (by omega)) (fun h2 => ?_) (fun h2 => ?_)
    · refine j_iconst (n := 103) (v := nI 0) dX10_isWordAt_102 rfl rfl ?_
      exact j_rb dX10_isWordAt_103 rfl rfl (Nat.le_refl _) (Nat.le_refl _) (by first | exact (zB_t (by omega)).symm | exact (zB_f (by omega)).symm) rfl rfl
    · refine j_aload_n (n := 21) dX10_isWordAt_20 rfl rfl ?_
      refine jm_geti (n := 24) (k := 18) (v := nI (F 18)) dX10_isWordAt_21 rfl fX10_223 hk (mf_f _ _ _ 18) ?_
      refine j_aload_n (n := 25) dX10_isWordAt_24 rfl rfl ?_
      refine jm_geti (n := 28) (k := 17) (v := nI (F 17)) dX10_isWordAt_25 rfl fX10_229 hk (mf_f _ _ _ 17) ?_
      refine j_isubN (n := 29) (c := F 18 - (F 17)) dX10_isWordAt_28 rfl (by omega) (by omega) ?_
      refine j_iload (n := 31) dX10_isWordAt_29 rfl rfl ?_
      refine j_icmp_neT (n := 34) (tg := 102) dX10_isWordAt_31 rfl rfl (i_N (by omega)) (i_N (by omega)) (fun h3 => ?_) (fun h3 => ?_)
      · refine j_iconst (n := 103) (v := nI 0) dX10_isWordAt_102 rfl rfl ?_
        exact j_rb dX10_isWordAt_103 rfl rfl (Nat.le_refl _) (Nat.le_refl _) (by first | exact (zB_t (by omega)).symm | exact (zB_f (by omega)).symm) rfl rfl
      · have t0 := (hT (F 17) (by omega)).2
        have t1 := (hT (F 17 + 1) (by omega)).2
        have t2 := (hT (F 17 + 2) (by omega)).2
        refine j_aload_n (n := 35) dX10_isWordAt_34 rfl rfl ?_
        refine jm_get (n := 38) (k := 15) (b := 175) dX10_isWordAt_35 rfl fX10_52 rfl (by decide) hk ?_
        refine j_aload_n (n := 39) dX10_isWordAt_38 rfl rfl ?_
        refine jm_geti (n := 42) (k := 17) (v := nI (F 17)) dX10_isWordAt_39 rfl fX10_229 hk (mf_f _ _ _ 17) ?_
        refine jm_ald (n := 43) (L := 96) (a := 175) (i := F 17) (v := nI (T (F 17))) dX10_isWordAt_42 rfl hk rfl (by omega) ((congrFun (mf_o _ _ _ (by decide) (by decide)) _).trans (hT _ (by omega)).1) ?_
        refine j_iload_n (n := 44) dX10_isWordAt_43 rfl rfl ?_
        refine j_icmp_neT (n := 47) (tg := 102) dX10_isWordAt_44 rfl rfl (i_N (by omega)) (i_N (by omega)) (fun h4 => ?_) (fun h4 => ?_)
        · refine j_iconst (n := 103) (v := nI 0) dX10_isWordAt_102 rfl rfl ?_
          exact j_rb dX10_isWordAt_103 rfl rfl (Nat.le_refl _) (Nat.le_refl _) (by first | exact (zB_t (by omega)).symm | exact (zB_f (by omega)).symm) rfl rfl
        · refine j_aload_n (n := 48) dX10_isWordAt_47 rfl rfl ?_
          refine jm_get (n := 51) (k := 15) (b := 175) dX10_isWordAt_48 rfl fX10_52 rfl (by decide) hk ?_
          refine j_aload_n (n := 52) dX10_isWordAt_51 rfl rfl ?_
          refine jm_geti (n := 55) (k := 17) (v := nI (F 17)) dX10_isWordAt_52 rfl fX10_229 hk (mf_f _ _ _ 17) ?_
          refine j_iconst (n := 56) (v := nI 1) dX10_isWordAt_55 rfl rfl ?_
          refine j_iaddN (n := 57) (c := F 17 + 1) dX10_isWordAt_56 rfl rfl ?_
          refine jm_ald (n := 58) (L := 96) (a := 175) (i := F 17 + 1) (v := nI (T (F 17 + 1))) dX10_isWordAt_57 rfl hk rfl (by omega) ((congrFun (mf_o _ _ _ (by decide) (by decide)) _).trans (hT _ (by omega)).1) ?_
          refine j_iload_n (n := 59) dX10_isWordAt_58 rfl rfl ?_
          refine j_icmp_neT (n := 62) (tg := 102) dX10_isWordAt_59 rfl rfl (i_N (by omega)) (i_N (by omega)) (fun h5 => ?_) (fun h5 => ?_)
          · refine j_iconst (n := 103) (v := nI 0) dX10_isWordAt_102 rfl rfl ?_
            exact j_rb dX10_isWordAt_103 rfl rfl (Nat.le_refl _) (Nat.le_refl _) (by first | exact (zB_t (by omega)).symm | exact (zB_f (by omega)).symm) rfl rfl
          · refine j_aload_n (n := 63) dX10_isWordAt_62 rfl rfl ?_
            refine jm_get (n := 66) (k := 15) (b := 175) dX10_isWordAt_63 rfl fX10_52 rfl (by decide) hk ?_
            refine j_aload_n (n := 67) dX10_isWordAt_66 rfl rfl ?_
            refine jm_geti (n := 70) (k := 17) (v := nI (F 17)) dX10_isWordAt_67 rfl fX10_229 hk (mf_f _ _ _ 17) ?_
            refine j_iconst (n := 71) (v := nI 2) dX10_isWordAt_70 rfl rfl ?_
            refine j_iaddN (n := 72) (c := F 17 + 2) dX10_isWordAt_71 rfl rfl ?_
            refine jm_ald (n := 73) (L := 96) (a := 175) (i := F 17 + 2) (v := nI (T (F 17 + 2))) dX10_isWordAt_72 rfl hk rfl (by omega) ((congrFun (mf_o _ _ _ (by decide) (by decide)) _).trans (hT _ (by omega)).1) ?_
            refine j_iload_n (n := 74) dX10_isWordAt_73 rfl rfl ?_
            refine j_icmp_neT (n := 77) (tg := 102) dX10_isWordAt_74 rfl rfl (i_N (by omega)) (i_N (by omega)) (fun h6 => ?_) (fun h6 => ?_)
            · refine j_iconst (n := 103) (v := nI 0) dX10_isWordAt_102 rfl rfl ?_
              exact j_rb dX10_isWordAt_103 rfl rfl (Nat.le_refl _) (Nat.le_refl _) (by first | exact (zB_t (by omega)).symm | exact (zB_f (by omega)).symm) rfl rfl
            · refine j_iload (n := 79) dX10_isWordAt_77 rfl rfl ?_
              refine j_if_eqN (n := 82) (tg := 98) dX10_isWordAt_79 rfl rfl (by omega) (fun h7 => ?_) (fun h7 => ?_)
              · refine j_iconst (n := 99) (v := nI 1) dX10_isWordAt_98 rfl rfl ?_
                refine j_goto (n := 103) dX10_isWordAt_99 rfl ?_
                exact j_rb dX10_isWordAt_103 rfl rfl (Nat.le_refl _) (Nat.le_refl _) (by first | exact (zB_t (by omega)).symm | exact (zB_f (by omega)).symm) rfl rfl
              · have t3 := (hT (F 17 + 3) (by omega)).2
                refine j_aload_n (n := 83) dX10_isWordAt_82 rfl rfl ?_
                refine jm_get (n := 86) (k := 15) (b := 175) dX10_isWordAt_83 rfl fX10_52 rfl (by decide) hk ?_
                refine j_aload_n (n := 87) dX10_isWordAt_86 rfl rfl ?_
                refine jm_geti (n := 90) (k := 17) (v := nI (F 17)) dX10_isWordAt_87 rfl fX10_229 hk (mf_f _ _ _ 17) ?_
                refine j_iconst (n := 91) (v := nI 3) dX10_isWordAt_90 rfl rfl ?_
                refine j_iaddN (n := 92) (c := F 17 + 3) dX10_isWordAt_91 rfl rfl ?_
                refine jm_ald (n := 93) (L := 96) (a := 175) (i := F 17 + 3) (v := nI (T (F 17 + 3))) dX10_isWordAt_92 rfl hk rfl (by omega) ((congrFun (mf_o _ _ _ (by decide) (by decide)) _).trans (hT _ (by omega)).1) ?_
                refine j_iload (n := 95) dX10_isWordAt_93 rfl rfl ?_
                refine j_icmp_neT (n := 98) (tg := 102) dX10_isWordAt_95 rfl rfl (i_N (by omega)) (i_N (by omega)) (fun h8 => ?_) (fun h8 => ?_)
                · refine j_iconst (n := 103) (v := nI 0) dX10_isWordAt_102 rfl rfl ?_
                  exact j_rb dX10_isWordAt_103 rfl rfl (Nat.le_refl _) (Nat.le_refl _) (by first | exact (zB_t (by omega)).symm | exact (zB_f (by omega)).symm) rfl rfl
                · refine j_iconst (n := 99) (v := nI 1) dX10_isWordAt_98 rfl rfl ?_
                  refine j_goto (n := 103) dX10_isWordAt_99 rfl ?_
                  exact j_rb dX10_isWordAt_103 rfl rfl (Nat.le_refl _) (Nat.le_refl _) (by first | exact (zB_t (by omega)).symm | exact (zB_f (by omega)).symm) rfl rfl
  · refine j_iconst (n := 6) (v := nI 3) dX10_isWordAt_5 rfl rfl ?_
    refine j_goto (n := 10) dX10_isWordAt_6 rfl ?_
    refine j_istore (n := 12) (lv2 := [some (.ref 160), some (.int (nI a)), some (.int (nI b)), some (.int (nI e)), some (.int (nI g)), some (.int (nI 3))]) dX10_isWordAt_10 rfl rfl (by decide) rfl ?_
    refine j_aload_n (n := 13) dX10_isWordAt_12 rfl rfl ?_
    refine jm_geti (n := 16) (k := 19) (v := nI (F 19)) dX10_isWordAt_13 rfl fX10_226 hk (mf_f _ _ _ 19) ?_
    refine j_iconst (n := 17) (v := nI 1) dX10_isWordAt_16 rfl rfl ?_
    refine j_icmp_neT (n := 20) (tg := 102) dX10_isWordAt_17 rfl rfl (i_N (by omega)) (i_N (by omega)) (fun h9 => ?_) (fun h9 => ?_)
    · refine j_iconst (n := 103) (v := nI 0) dX10_isWordAt_102 rfl rfl ?_
      exact j_rb dX10_isWordAt_103 rfl rfl (Nat.le_refl _) (Nat.le_refl _) (by first | exact (zB_t (by omega)).symm | exact (zB_f (by omega)).symm) rfl rfl
    · refine j_aload_n (n := 21) dX10_isWordAt_20 rfl rfl ?_
      refine jm_geti (n := 24) (k := 18) (v := nI (F 18)) dX10_isWordAt_21 rfl fX10_223 hk (mf_f _ _ _ 18) ?_
      refine j_aload_n (n := 25) dX10_isWordAt_24 rfl rfl ?_
      refine jm_geti (n := 28) (k := 17) (v := nI (F 17)) dX10_isWordAt_25 rfl fX10_229 hk (mf_f _ _ _ 17) ?_
      refine j_isubN (n := 29) (c := F 18 - (F 17)) dX10_isWordAt_28 rfl (by omega) (by omega) ?_
      refine j_iload (n := 31) dX10_isWordAt_29 rfl rfl ?_
      refine j_icmp_neT (n := 34) (tg := 102) dX10_isWordAt_31 rfl rfl (i_N (by omega)) (i_N (by omega)) (fun h10 => ?_) (fun h10 => ?_)
      · refine j_iconst (n := 103) (v := nI 0) dX10_isWordAt_102 rfl rfl ?_
        exact j_rb dX10_isWordAt_103 rfl rfl (Nat.le_refl _) (Nat.le_refl _) (by first | exact (zB_t (by omega)).symm | exact (zB_f (by omega)).symm) rfl rfl
      · have t0 := (hT (F 17) (by omega)).2
        have t1 := (hT (F 17 + 1) (by omega)).2
        have t2 := (hT (F 17 + 2) (by omega)).2
        refine j_aload_n (n := 35) dX10_isWordAt_34 rfl rfl ?_
        refine jm_get (n := 38) (k := 15) (b := 175) dX10_isWordAt_35 rfl fX10_52 rfl (by decide) hk ?_
        refine j_aload_n (n := 39) dX10_isWordAt_38 rfl rfl ?_
        refine jm_geti (n := 42) (k := 17) (v := nI (F 17)) dX10_isWordAt_39 rfl fX10_229 hk (mf_f _ _ _ 17) ?_
        refine jm_ald (n := 43) (L := 96) (a := 175) (i := F 17) (v := nI (T (F 17))) dX10_isWordAt_42 rfl hk rfl (by omega) ((congrFun (mf_o _ _ _ (by decide) (by decide)) _).trans (hT _ (by omega)).1) ?_
        refine j_iload_n (n := 44) dX10_isWordAt_43 rfl rfl ?_
        refine j_icmp_neT (n := 47) (tg := 102) dX10_isWordAt_44 rfl rfl (i_N (by omega)) (i_N (by omega)) (fun h11 => ?_) (fun h11 => ?_)
        · refine j_iconst (n := 103) (v := nI 0) dX10_isWordAt_102 rfl rfl ?_
          exact j_rb dX10_isWordAt_103 rfl rfl (Nat.le_refl _) (Nat.le_refl _) (by first | exact (zB_t (by omega)).symm | exact (zB_f (by omega)).symm) rfl rfl
        · refine j_aload_n (n := 48) dX10_isWordAt_47 rfl rfl ?_
          refine jm_get (n := 51) (k := 15) (b := 175) dX10_isWordAt_48 rfl fX10_52 rfl (by decide) hk ?_
          refine j_aload_n (n := 52) dX10_isWordAt_51 rfl rfl ?_
          refine jm_geti (n := 55) (k := 17) (v := nI (F 17)) dX10_isWordAt_52 rfl fX10_229 hk (mf_f _ _ _ 17) ?_
          refine j_iconst (n := 56) (v := nI 1) dX10_isWordAt_55 rfl rfl ?_
          refine j_iaddN (n := 57) (c := F 17 + 1) dX10_isWordAt_56 rfl rfl ?_
          refine jm_ald (n := 58) (L := 96) (a := 175) (i := F 17 + 1) (v := nI (T (F 17 + 1))) dX10_isWordAt_57 rfl hk rfl (by omega) ((congrFun (mf_o _ _ _ (by decide) (by decide)) _).trans (hT _ (by omega)).1) ?_
          refine j_iload_n (n := 59) dX10_isWordAt_58 rfl rfl ?_
          refine j_icmp_neT (n := 62) (tg := 102) dX10_isWordAt_59 rfl rfl (i_N (by omega)) (i_N (by omega)) (fun h12 => ?_) (fun h12 => ?_)
          · refine j_iconst (n := 103) (v := nI 0) dX10_isWordAt_102 rfl rfl ?_
            exact j_rb dX10_isWordAt_103 rfl rfl (Nat.le_refl _) (Nat.le_refl _) (by first | exact (zB_t (by omega)).symm | exact (zB_f (by omega)).symm) rfl rfl
          · refine j_aload_n (n := 63) dX10_isWordAt_62 rfl rfl ?_
            refine jm_get (n := 66) (k := 15) (b := 175) dX10_isWordAt_63 rfl fX10_52 rfl (by decide) hk ?_
            refine j_aload_n (n := 67) dX10_isWordAt_66 rfl rfl ?_
            refine jm_geti (n := 70) (k := 17) (v := nI (F 17)) dX10_isWordAt_67 rfl fX10_229 hk (mf_f _ _ _ 17) ?_
            refine j_iconst (n := 71) (v := nI 2) dX10_isWordAt_70 rfl rfl ?_
            refine j_iaddN (n := 72) (c := F 17 + 2) dX10_isWordAt_71 rfl rfl ?_
            refine jm_ald (n := 73) (L := 96) (a := 175) (i := F 17 + 2) (v := nI (T (F 17 + 2))) dX10_isWordAt_72 rfl hk rfl (by omega) ((congrFun (mf_o _ _ _ (by decide) (by decide)) _).trans (hT _ (by omega)).1) ?_
            refine j_iload_n (n := 74) dX10_isWordAt_73 rfl rfl ?_
            refine j_icmp_neT (n := 77) (tg := 102) dX10_isWordAt_74 rfl rfl (i_N (by omega)) (i_N (by omega)) (fun h13 => ?_) (fun h13 => ?_)
            · refine j_iconst (n := 103) (v := nI 0) dX10_isWordAt_102 rfl rfl ?_
              exact j_rb dX10_isWordAt_103 rfl rfl (Nat.le_refl _) (Nat.le_refl _) (by first | exact (zB_t (by omega)).symm | exact (zB_f (by omega)).symm) rfl rfl
            · refine j_iload (n := 79) dX10_isWordAt_77 rfl rfl ?_
              refine j_if_eqN (n := 82) (tg := 98) dX10_isWordAt_79 rfl rfl (by omega) (fun h14 => ?_) (fun h14 => ?_)
              · refine j_iconst (n := 99) (v := nI 1) dX10_isWordAt_98 rfl rfl ?_
                refine j_goto (n := 103) dX10_isWordAt_99 rfl ?_
                exact j_rb dX10_isWordAt_103 rfl rfl (Nat.le_refl _) (Nat.le_refl _) (by first | exact (zB_t (by omega)).symm | exact (zB_f (by omega)).symm) rfl rfl
              · have t3 := (hT (F 17 + 3) (by omega)).2
                refine j_aload_n (n := 83) dX10_isWordAt_82 rfl rfl ?_
                refine jm_get (n := 86) (k := 15) (b := 175) dX10_isWordAt_83 rfl fX10_52 rfl (by decide) hk ?_
                refine j_aload_n (n := 87) dX10_isWordAt_86 rfl rfl ?_
                refine jm_geti (n := 90) (k := 17) (v := nI (F 17)) dX10_isWordAt_87 rfl fX10_229 hk (mf_f _ _ _ 17) ?_
                refine j_iconst (n := 91) (v := nI 3) dX10_isWordAt_90 rfl rfl ?_
                refine j_iaddN (n := 92) (c := F 17 + 3) dX10_isWordAt_91 rfl rfl ?_
                refine jm_ald (n := 93) (L := 96) (a := 175) (i := F 17 + 3) (v := nI (T (F 17 + 3))) dX10_isWordAt_92 rfl hk rfl (by omega) ((congrFun (mf_o _ _ _ (by decide) (by decide)) _).trans (hT _ (by omega)).1) ?_
                refine j_iload (n := 95) dX10_isWordAt_93 rfl rfl ?_
                refine j_icmp_neT (n := 98) (tg := 102) dX10_isWordAt_95 rfl rfl (i_N (by omega)) (i_N (by omega)) (fun h15 => ?_) (fun h15 => ?_)
                · refine j_iconst (n := 103) (v := nI 0) dX10_isWordAt_102 rfl rfl ?_
                  exact j_rb dX10_isWordAt_103 rfl rfl (Nat.le_refl _) (Nat.le_refl _) (by first | exact (zB_t (by omega)).symm | exact (zB_f (by omega)).symm) rfl rfl
                · refine j_iconst (n := 99) (v := nI 1) dX10_isWordAt_98 rfl rfl ?_
                  refine j_goto (n := 103) dX10_isWordAt_99 rfl ?_
                  exact j_rb dX10_isWordAt_103 rfl rfl (Nat.le_refl _) (Nat.le_refl _) (by first | exact (zB_t (by omega)).symm | exact (zB_f (by omega)).symm) rfl rfl
/-- the key that the word at hand is: 3 if it is none -/
def keyW (T F : Nat → Nat) : Nat := if F 19 = 1 ∧ F 18 - F 17 = 4 ∧ T (F 17) = 119 ∧ T (F 17 + 1) = 101 ∧ T (F 17 + 2) = 97 ∧ T (F 17 + 3) = 114 then 0 else if F 19 = 1 ∧ F 18 - F 17 = 3 ∧ T (F 17) = 102 ∧ T (F 17 + 1) = 101 ∧ T (F 17 + 2) = 101 then 1 else if F 19 = 1 ∧ F 18 - F 17 = 4 ∧ T (F 17) = 102 ∧ T (F 17 + 1) = 105 ∧ T (F 17 + 2) = 110 ∧ T (F 17 + 3) = 101 then 2 else 3
def keyV (k : Nat) : Int32 := if k = 3 then -1 else nI k
theorem c_key (d : Nat) (G : zG) (M : zMem) (X : zX) (hk : kM X) (F p : Nat → Nat) (T : Nat → Nat) (hT : tpN M T) (hL : F 16 ≤ 96) (h19 : F 19 ≤ 4) (h17 : F 17 ≤ F 18) (h18 : F 18 ≤ F 16) : zCall G miX10_key (d + 1) [.ref 160] (zI (keyV (keyW T F)) (mf M F p) X) (mf M F p) X 0 0 := by
  refine zCall.of (lv := [some (.ref 160)]) (by decide) (Nat.le_of_ble_eq_true rfl) rfl ?_
  refine j_aload_n (n := 1) dX10_key_0 rfl rfl ?_
  refine j_bipush (n := 3) (v := nI 119) dX10_key_1 rfl (by decide) ?_
  refine j_bipush (n := 5) (v := nI 101) dX10_key_3 rfl (by decide) ?_
  refine j_bipush (n := 7) (v := nI 97) dX10_key_5 rfl (by decide) ?_
  refine j_bipush (n := 9) (v := nI 114) dX10_key_7 rfl (by decide) ?_
  refine j_cV (n := 12) dX10_key_9 rfl sX10_244 (c_isWordAt d G _ _ hk _ _ T hT hL h19 h17 h18 119 101 97 114 (by decide) (by decide) (by decide) (by decide)) (by omega) (by decide) rfl rfl (Nat.le_of_ble_eq_true rfl) (hk).2.1 (by decide) (kM_lt hk) (by decide) (by decide) ?_
  refine j_if_eqB (n := 15) (tg := 17) dX10_key_12 rfl rfl (fun h1 => ?_) (fun h1 => ?_)
  · refine j_aload_n (n := 18) dX10_key_17 rfl rfl ?_
    refine j_bipush (n := 20) (v := nI 102) dX10_key_18 rfl (by decide) ?_
    refine j_bipush (n := 22) (v := nI 101) dX10_key_20 rfl (by decide) ?_
    refine j_bipush (n := 24) (v := nI 101) dX10_key_22 rfl (by decide) ?_
    refine j_iconst (n := 25) (v := nI 0) dX10_key_24 rfl rfl ?_
    refine j_cV (n := 28) dX10_key_25 rfl sX10_244 (c_isWordAt d G _ _ hk _ _ T hT hL h19 h17 h18 102 101 101 0 (by decide) (by decide) (by decide) (by decide)) (by omega) (by decide) rfl rfl (Nat.le_of_ble_eq_true rfl) (hk).2.1 (by decide) (kM_lt hk) (by decide) (by decide) ?_
    refine j_if_eqB (n := 31) (tg := 33) dX10_key_28 rfl rfl (fun h2 => ?_) (fun h2 => ?_)
    · refine j_aload_n (n := 34) dX10_key_33 rfl rfl ?_
      refine j_bipush (n := 36) (v := nI 102) dX10_key_34 rfl (by decide) ?_
      refine j_bipush (n := 38) (v := nI 105) dX10_key_36 rfl (by decide) ?_
      refine j_bipush (n := 40) (v := nI 110) dX10_key_38 rfl (by decide) ?_
      refine j_bipush (n := 42) (v := nI 101) dX10_key_40 rfl (by decide) ?_
      refine j_cV (n := 45) dX10_key_42 rfl sX10_244 (c_isWordAt d G _ _ hk _ _ T hT hL h19 h17 h18 102 105 110 101 (by decide) (by decide) (by decide) (by decide)) (by omega) (by decide) rfl rfl (Nat.le_of_ble_eq_true rfl) (hk).2.1 (by decide) (kM_lt hk) (by decide) (by decide) ?_
      refine j_if_eqB (n := 48) (tg := 52) dX10_key_45 rfl rfl (fun h3 => ?_) (fun h3 => ?_)
      · refine j_iconst (n := 53) (v := (-1)) dX10_key_52 rfl rfl ?_
        exact j_ri dX10_key_53 rfl (Nat.le_refl _) (Nat.le_refl _) (by unfold keyW; (repeat (first | rw [if_pos (by omega)] | rw [if_neg (by omega)])); rfl) rfl rfl
      · refine j_iconst (n := 49) (v := nI 2) dX10_key_48 rfl rfl ?_
        refine j_goto (n := 53) dX10_key_49 rfl ?_
        exact j_ri dX10_key_53 rfl (Nat.le_refl _) (Nat.le_refl _) (by unfold keyW; (repeat (first | rw [if_pos (by omega)] | rw [if_neg (by omega)])); rfl) rfl rfl
    · refine j_iconst (n := 32) (v := nI 1) dX10_key_31 rfl rfl ?_
      exact j_ri dX10_key_32 rfl (Nat.le_refl _) (Nat.le_refl _) (by unfold keyW; (repeat (first | rw [if_pos (by omega)] | rw [if_neg (by omega)])); rfl) rfl rfl
  · refine j_iconst (n := 16) (v := nI 0) dX10_key_15 rfl rfl ?_
    exact j_ri dX10_key_16 rfl (Nat.le_refl _) (Nat.le_refl _) (by unfold keyW; (repeat (first | rw [if_pos (by omega)] | rw [if_neg (by omega)])); rfl) rfl rfl
