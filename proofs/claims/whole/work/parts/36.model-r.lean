-- MODEL R: by program (wip/whole/gen/b18.py)
theorem c_isLetter (d : Nat) (G : zG) (M : zMem) (X : zX) (hk : kM X) (F p : Nat → Nat) (T : Nat → Nat) (hT : tpN M T) (hL : F 16 ≤ 96) (i : Nat) (hi : i ≤ 96) : zCall G miX10_isLetter (d + 1) [.ref 160, .int (nI i)] (zI (zB (i < F 16 ∧ 97 ≤ T i ∧ T i ≤ 122)) (mf M F p) X) (mf M F p) X 0 0 := by
  refine zCall.of (lv := [some (.ref 160), some (.int (nI i))]) (by decide) (Nat.le_of_ble_eq_true rfl) rfl ?_
  refine j_iload_n (n := 1) dX10_isLetter_0 rfl rfl ?_
  refine j_aload_n (n := 2) dX10_isLetter_1 rfl rfl ?_
  refine jm_geti (n := 5) (k := 16) (v := nI (F 16)) dX10_isLetter_2 rfl fX10_211 hk (mf_f _ _ _ 16) ?_
  refine j_icmp_geT (n := 8) (tg := 31) dX10_isLetter_5 rfl rfl (i_N (by omega)) (i_N (by omega)) (fun h1 => ?_) (fun h1 => ?_)
  · refine j_iconst (n := 32) (v := nI 0) dX10_isLetter_31 rfl rfl ?_
    exact j_rb dX10_isLetter_32 rfl rfl (Nat.le_refl _) (Nat.le_refl _) (by first | exact (zB_t (by omega)).symm | exact (zB_f (by omega)).symm) rfl rfl
  · have hti := (hT i (by omega)).2
    refine j_aload_n (n := 9) dX10_isLetter_8 rfl rfl ?_
    refine jm_get (n := 12) (k := 15) (b := 175) dX10_isLetter_9 rfl fX10_52 rfl (by decide) hk ?_
    refine j_iload_n (n := 13) dX10_isLetter_12 rfl rfl ?_
    refine jm_ald (n := 14) (L := 96) (a := 175) (i := i) (v := nI (T i)) dX10_isLetter_13 rfl hk rfl (by omega) ((congrFun (mf_o _ _ _ (by decide) (by decide)) _).trans (hT _ (by omega)).1) ?_
    refine j_i2l (n := 15) dX10_isLetter_14 rfl ?_
    refine j_ldc2 (n := 18) (v := lN 97) dX10_isLetter_15 rfl kX10_215 ?_
    refine j_ldc2 (n := 21) (v := lN 122) dX10_isLetter_18 rfl kX10_217 ?_
    refine j_cS (n := 24) dX10_isLetter_21 rfl sX10_71 (c_isInI (x := (((T i) : Nat) : Int)) (a := 97) (b := 122) d G _ _ _ _ _ ((l_toInt _).trans (i_N (by omega))) rfl rfl) (by omega) (by decide) rfl rfl (Nat.le_of_ble_eq_true rfl) (by decide) (by decide) ?_
    refine j_if_eqB (n := 27) (tg := 31) dX10_isLetter_24 rfl rfl (fun h2 => ?_) (fun h2 => ?_)
    · refine j_iconst (n := 32) (v := nI 0) dX10_isLetter_31 rfl rfl ?_
      exact j_rb dX10_isLetter_32 rfl rfl (Nat.le_refl _) (Nat.le_refl _) (by first | exact (zB_t (by omega)).symm | exact (zB_f (by omega)).symm) rfl rfl
    · refine j_iconst (n := 28) (v := nI 1) dX10_isLetter_27 rfl rfl ?_
      refine j_goto (n := 32) dX10_isLetter_28 rfl ?_
      exact j_rb dX10_isLetter_32 rfl rfl (Nat.le_refl _) (Nat.le_refl _) (by first | exact (zB_t (by omega)).symm | exact (zB_f (by omega)).symm) rfl rfl
theorem c_isDigit (d : Nat) (G : zG) (M : zMem) (X : zX) (hk : kM X) (F p : Nat → Nat) (T : Nat → Nat) (hT : tpN M T) (hL : F 16 ≤ 96) (i : Nat) (hi : i ≤ 96) : zCall G miX10_isDigit (d + 1) [.ref 160, .int (nI i)] (zI (zB (i < F 16 ∧ 48 ≤ T i ∧ T i ≤ 57)) (mf M F p) X) (mf M F p) X 0 0 := by
  refine zCall.of (lv := [some (.ref 160), some (.int (nI i))]) (by decide) (Nat.le_of_ble_eq_true rfl) rfl ?_
  refine j_iload_n (n := 1) dX10_isDigit_0 rfl rfl ?_
  refine j_aload_n (n := 2) dX10_isDigit_1 rfl rfl ?_
  refine jm_geti (n := 5) (k := 16) (v := nI (F 16)) dX10_isDigit_2 rfl fX10_211 hk (mf_f _ _ _ 16) ?_
  refine j_icmp_geT (n := 8) (tg := 31) dX10_isDigit_5 rfl rfl (i_N (by omega)) (i_N (by omega)) (fun h1 => ?_) (fun h1 => ?_)
  · refine j_iconst (n := 32) (v := nI 0) dX10_isDigit_31 rfl rfl ?_
    exact j_rb dX10_isDigit_32 rfl rfl (Nat.le_refl _) (Nat.le_refl _) (by first | exact (zB_t (by omega)).symm | exact (zB_f (by omega)).symm) rfl rfl
  · have hti := (hT i (by omega)).2
    refine j_aload_n (n := 9) dX10_isDigit_8 rfl rfl ?_
    refine jm_get (n := 12) (k := 15) (b := 175) dX10_isDigit_9 rfl fX10_52 rfl (by decide) hk ?_
    refine j_iload_n (n := 13) dX10_isDigit_12 rfl rfl ?_
    refine jm_ald (n := 14) (L := 96) (a := 175) (i := i) (v := nI (T i)) dX10_isDigit_13 rfl hk rfl (by omega) ((congrFun (mf_o _ _ _ (by decide) (by decide)) _).trans (hT _ (by omega)).1) ?_
    refine j_i2l (n := 15) dX10_isDigit_14 rfl ?_
    refine j_ldc2 (n := 18) (v := lN 48) dX10_isDigit_15 rfl kX10_219 ?_
    refine j_ldc2 (n := 21) (v := lN 57) dX10_isDigit_18 rfl kX10_221 ?_
    refine j_cS (n := 24) dX10_isDigit_21 rfl sX10_71 (c_isInI (x := (((T i) : Nat) : Int)) (a := 48) (b := 57) d G _ _ _ _ _ ((l_toInt _).trans (i_N (by omega))) rfl rfl) (by omega) (by decide) rfl rfl (Nat.le_of_ble_eq_true rfl) (by decide) (by decide) ?_
    refine j_if_eqB (n := 27) (tg := 31) dX10_isDigit_24 rfl rfl (fun h2 => ?_) (fun h2 => ?_)
    · refine j_iconst (n := 32) (v := nI 0) dX10_isDigit_31 rfl rfl ?_
      exact j_rb dX10_isDigit_32 rfl rfl (Nat.le_refl _) (Nat.le_refl _) (by first | exact (zB_t (by omega)).symm | exact (zB_f (by omega)).symm) rfl rfl
    · refine j_iconst (n := 28) (v := nI 1) dX10_isDigit_27 rfl rfl ?_
      refine j_goto (n := 32) dX10_isDigit_28 rfl ?_
      exact j_rb dX10_isDigit_32 rfl rfl (Nat.le_refl _) (Nat.le_refl _) (by first | exact (zB_t (by omega)).symm | exact (zB_f (by omega)).symm) rfl rfl
theorem c_isSign (d : Nat) (G : zG) (M : zMem) (X : zX) (hk : kM X) (F p : Nat → Nat) (h19 : F 19 ≤ 4) (h21 : F 21 ≤ 255) (e : Nat) (he : e ≤ 255) : zCall G miX10_isSign (d + 0) [.ref 160, .int (nI e)] (zI (zB (F 19 = 3 ∧ F 21 = e)) (mf M F p) X) (mf M F p) X 0 0 := by
  refine zCall.of (lv := [some (.ref 160), some (.int (nI e))]) (by decide) (Nat.le_of_ble_eq_true rfl) rfl ?_
  refine j_aload_n (n := 1) dX10_isSign_0 rfl rfl ?_
  refine jm_geti (n := 4) (k := 19) (v := nI (F 19)) dX10_isSign_1 rfl fX10_226 hk (mf_f _ _ _ 19) ?_
  refine j_iconst (n := 5) (v := nI 3) dX10_isSign_4 rfl rfl ?_
  refine j_icmp_neT (n := 8) (tg := 20) dX10_isSign_5 rfl rfl (i_N (by omega)) (i_N (by omega)) (fun h1 => ?_) (fun h1 => ?_)
  · refine j_iconst (n := 21) (v := nI 0) dX10_isSign_20 rfl rfl ?_
    exact j_rb dX10_isSign_21 rfl rfl (Nat.le_refl _) (Nat.le_refl _) (by first | exact (zB_t (by omega)).symm | exact (zB_f (by omega)).symm) rfl rfl
  · refine j_aload_n (n := 9) dX10_isSign_8 rfl rfl ?_
    refine jm_geti (n := 12) (k := 21) (v := nI (F 21)) dX10_isSign_9 rfl fX10_235 hk (mf_f _ _ _ 21) ?_
    refine j_iload_n (n := 13) dX10_isSign_12 rfl rfl ?_
    refine j_icmp_neT (n := 16) (tg := 20) dX10_isSign_13 rfl rfl (i_N (by omega)) (i_N (by omega)) (fun h2 => ?_) (fun h2 => ?_)
    · refine j_iconst (n := 21) (v := nI 0) dX10_isSign_20 rfl rfl ?_
      exact j_rb dX10_isSign_21 rfl rfl (Nat.le_refl _) (Nat.le_refl _) (by first | exact (zB_t (by omega)).symm | exact (zB_f (by omega)).symm) rfl rfl
    · refine j_iconst (n := 17) (v := nI 1) dX10_isSign_16 rfl rfl ?_
      refine j_goto (n := 21) dX10_isSign_17 rfl ?_
      exact j_rb dX10_isSign_21 rfl rfl (Nat.le_refl _) (Nat.le_refl _) (by first | exact (zB_t (by omega)).symm | exact (zB_f (by omega)).symm) rfl rfl
theorem c_step (d : Nat) (G : zG) (M : zMem) (X : zX) (hk : kM X) (F p : Nat → Nat) (h : F 25 + 2 * F 24 + 1 < 3100) (w v : Nat) : zCall G miX10_step (d + 0) [.ref 160, .int (nI w), .int (nI v)] (zV (mf M (pu F 24 (F 24 + 1)) (pu (pu p (F 25 + 2 * F 24) w) (F 25 + 2 * F 24 + 1) v)) X) (mf M F p) X 0 0 := by
  refine zCall.of (lv := [some (.ref 160), some (.int (nI w)), some (.int (nI v))]) (by decide) (Nat.le_of_ble_eq_true rfl) rfl ?_
  refine j_aload_n (n := 1) dX10_step_0 rfl rfl ?_
  refine jm_get (n := 4) (k := 0) (b := 161) dX10_step_1 rfl fX10_7 rfl (by decide) hk ?_
  refine j_aload_n (n := 5) dX10_step_4 rfl rfl ?_
  refine jm_geti (n := 8) (k := 25) (v := nI (F 25)) dX10_step_5 rfl fX10_247 hk (mf_f _ _ _ 25) ?_
  refine j_iconst (n := 9) (v := nI 2) dX10_step_8 rfl rfl ?_
  refine j_aload_n (n := 10) dX10_step_9 rfl rfl ?_
  refine jm_geti (n := 13) (k := 24) (v := nI (F 24)) dX10_step_10 rfl fX10_250 hk (mf_f _ _ _ 24) ?_
  refine j_imulN (n := 14) (c := 2 * (F 24)) dX10_step_13 rfl rfl ?_
  refine j_iaddN (n := 15) (c := F 25 + 2 * (F 24)) dX10_step_14 rfl rfl ?_
  refine j_iload_n (n := 16) dX10_step_15 rfl rfl ?_
  refine jm_ast (n := 17) (L := 3100) (a := 161) (i := F 25 + 2 * (F 24)) (x := nI w) (M2 := mf M F (pu p (F 25 + 2 * (F 24)) w)) dX10_step_16 rfl hk rfl (by omega) (mf_s _ _ _ _ _) ?_
  refine j_aload_n (n := 18) dX10_step_17 rfl rfl ?_
  refine jm_get (n := 21) (k := 0) (b := 161) dX10_step_18 rfl fX10_7 rfl (by decide) hk ?_
  refine j_aload_n (n := 22) dX10_step_21 rfl rfl ?_
  refine jm_geti (n := 25) (k := 25) (v := nI (F 25)) dX10_step_22 rfl fX10_247 hk (mf_f _ _ _ 25) ?_
  refine j_iconst (n := 26) (v := nI 2) dX10_step_25 rfl rfl ?_
  refine j_aload_n (n := 27) dX10_step_26 rfl rfl ?_
  refine jm_geti (n := 30) (k := 24) (v := nI (F 24)) dX10_step_27 rfl fX10_250 hk (mf_f _ _ _ 24) ?_
  refine j_imulN (n := 31) (c := 2 * (F 24)) dX10_step_30 rfl rfl ?_
  refine j_iaddN (n := 32) (c := F 25 + 2 * (F 24)) dX10_step_31 rfl rfl ?_
  refine j_iconst (n := 33) (v := nI 1) dX10_step_32 rfl rfl ?_
  refine j_iaddN (n := 34) (c := F 25 + 2 * (F 24) + 1) dX10_step_33 rfl rfl ?_
  refine j_iload_n (n := 35) dX10_step_34 rfl rfl ?_
  refine jm_ast (n := 36) (L := 3100) (a := 161) (i := F 25 + 2 * (F 24) + 1) (x := nI v) (M2 := mf M F (pu (pu p (F 25 + 2 * (F 24)) w) (F 25 + 2 * (F 24) + 1) v)) dX10_step_35 rfl hk rfl (by omega) (mf_s _ _ _ _ _) ?_
  refine j_aload_n (n := 37) dX10_step_36 rfl rfl ?_
  refine j_dup (n := 38) dX10_step_37 rfl rfl ?_
  refine jm_geti (n := 41) (k := 24) (v := nI (F 24)) dX10_step_38 rfl fX10_250 hk (mf_f _ _ _ 24) ?_
  refine j_iconst (n := 42) (v := nI 1) dX10_step_41 rfl rfl ?_
  refine j_iaddN (n := 43) (c := F 24 + 1) dX10_step_42 rfl rfl ?_
  refine jm_put (n := 46) (k := 24) (x := nI (F 24 + 1)) (M2 := mf M (pu F 24 (F 24 + 1)) (pu (pu p (F 25 + 2 * (F 24)) w) (F 25 + 2 * (F 24) + 1) v)) dX10_step_43 rfl pX10_250 rfl rfl hk (mf_w rfl) ?_
  exact j_rv dX10_step_46 rfl (Nat.le_refl _) (Nat.le_refl _) rfl rfl
