-- CLASS I: by program (wip/whole/gen/c9.py)
def flF (f : Nat → Int32) (n : Nat) (v : Int32) : Nat → Int32 := fun i => if i < n then v else f i
theorem flF_0 (f : Nat → Int32) (v : Int32) : flF f 0 v = f := by
  funext i
  unfold flF
  rw [if_neg (by omega)]
theorem flF_s (f : Nat → Int32) (n : Nat) (v : Int32) : upd (flF f n v) n v = flF f (n + 1) v := by
  funext i
  simp only [flF, upd]
  by_cases h : i = n
  · rw [if_pos h, if_pos (by omega)]
  · rw [if_neg h]
    by_cases h2 : i < n
    · rw [if_pos h2, if_pos (by omega)]
    · rw [if_neg h2, if_neg (by omega)]
theorem c_fill (d : Nat) (G : zG) (M : zMem) (X : zX) (a L : Nat) (hc : xc X a = 100) (hL : xl X a = L) (hLb : L < 2147483648) (lo : 16 ≤ a) (hi : a < xz X) (v : Int32) : zCall G miJ7_fill_53178 (d + 0) [.ref a, .int v] (zV (zs M a (flF (M a) L v)) X) M X 0 0 := by
  refine zCall.of (lv := [some (.ref a), some (.int v), none, none]) (by decide) (Nat.le_of_ble_eq_true rfl) rfl ?_
  refine j_iconst (n := 1) (v := nI 0) dJ7_fill_53178_0 rfl rfl ?_
  refine j_istore_n (n := 2) (lv2 := [some (.ref a), some (.int v), some (.int (nI 0)), none]) dJ7_fill_53178_1 rfl rfl (by decide) rfl ?_
  refine j_aload_n (n := 3) dJ7_fill_53178_2 rfl rfl ?_
  refine j_alen (n := 4) (t := 0) (L := L) dJ7_fill_53178_3 rfl hc (by decide) hL lo hi ?_
  refine j_istore_n (n := 5) (lv2 := [some (.ref a), some (.int v), some (.int (nI 0)), some (.int (nI L))]) dJ7_fill_53178_4 rfl rfl (by decide) rfl ?_
  have loop : ∀ (j k : Nat), L - k = j → k ≤ L → zAt G miJ7_fill_53178 (zRm (d + 0) 0 0) (zQ G (zV (zs M a (flF (M a) L v)) X) 0 0) 5 [some (.ref a), some (.int v), some (.int (nI k)), some (.int (nI L))] [] (zs M a (flF (M a) k v)) X (0, 0) := by
    intro j
    induction j using Nat.strongRecOn with
    | ind j ih =>
      intro k hj hk0
      refine j_iload_n (n := 6) dJ7_fill_53178_5 rfl rfl ?_
      refine j_iload_n (n := 7) dJ7_fill_53178_6 rfl rfl ?_
      refine j_icmp_geT (n := 10) (tg := 20) dJ7_fill_53178_7 rfl rfl (i_N (by omega)) (i_N (by omega)) (fun h101 => ?_) (fun h101 => ?_)
      · exact j_rv dJ7_fill_53178_20 rfl (Nat.le_refl _) (Nat.le_refl _) (by rw [show k = L by omega]) rfl
      · refine j_aload_n (n := 11) dJ7_fill_53178_10 rfl rfl ?_
        refine j_iload_n (n := 12) dJ7_fill_53178_11 rfl rfl ?_
        refine j_iload_n (n := 13) dJ7_fill_53178_12 rfl rfl ?_
        refine j_iastN (n := 14) (L := L) (a := a) (i := k) (x := v) (M2 := (zs M a (flF (M a) (k + 1) v))) dJ7_fill_53178_13 rfl hc hL (by omega) (by omega) lo hi (by rw [zs_eq, zs_zs, flF_s]) ?_
        refine j_iinc (n := 17) (y := nI (k + 1)) (lv2 := [some (.ref a), some (.int v), some (.int (nI (k + 1))), some (.int (nI L))]) dJ7_fill_53178_14 rfl rfl (by decide) rfl (show nI k + nI 1 = nI (k + 1) by rw [nI_add]) rfl ?_
        refine j_goto (n := 5) dJ7_fill_53178_17 rfl ?_
        exact ih _ (by omega) (k + 1) rfl (by omega)
  have g := loop _ 0 rfl (Nat.zero_le _)
  rw [flF_0, zs_id] at g
  exact g
def beS (M : zMem) (a : Nat) (x y : Int32) : zMem := zs (zs M a (upd (upd (M a) 0 x) 1 y)) (a + 1) (flF (M (a + 1)) 24 (nI 0))
theorem c_becomeS (d : Nat) (G : zG) (M : zMem) (X : zX) (a : Nat) (hs : isS X a) (x y : Int32) : zCall G miX4_become (d + 1) [.ref a, .int x, .int y] (zV (beS M a x y) X) M X 0 0 := by
  refine zCall.of (lv := [some (.ref a), some (.int x), some (.int y)]) (by decide) (Nat.le_of_ble_eq_true rfl) rfl ?_
  refine j_aload_n (n := 1) dX4_become_0 rfl rfl ?_
  refine j_iload_n (n := 2) dX4_become_1 rfl rfl ?_
  refine jc_put (n := 5) (k := 0) (x := x) (M2 := zs M a (upd (M a) 0 x)) dX4_become_2 rfl pX4_11 (fun h => by cases h) rfl rfl (hs).2.2.1 (hs).1 (Nat.lt_of_succ_lt (hs).2.1) rfl ?_
  refine j_aload_n (n := 6) dX4_become_5 rfl rfl ?_
  refine j_iload_n (n := 7) dX4_become_6 rfl rfl ?_
  refine jc_put (n := 10) (k := 1) (x := y) (M2 := zs M a (upd (upd (M a) 0 x) 1 y)) dX4_become_7 rfl pX4_19 (fun h => by cases h) rfl rfl (hs).2.2.1 (hs).1 (Nat.lt_of_succ_lt (hs).2.1) (by rw [zs_eq, zs_zs]) ?_
  refine j_aload_n (n := 11) dX4_become_10 rfl rfl ?_
  refine j_getr (n := 14) (k := 2) (b := a + 1) dX4_become_11 rfl fX4_15 (hs).2.2.1 (hs).1 (Nat.lt_of_succ_lt (hs).2.1) (hs).2.2.2.1 ?_
  refine j_iconst (n := 15) (v := nI 0) dX4_become_14 rfl rfl ?_
  refine j_cSv (n := 18) dX4_become_15 rfl sX4_22 (c_fill d G _ _ (a + 1) 24 (hs).2.2.2.2.1 (hs).2.2.2.2.2 (by decide) (Nat.le_succ_of_le (hs).1) (hs).2.1 (nI 0)) (by omega) (by decide) rfl rfl (Nat.le_of_ble_eq_true rfl) (by decide) (by decide) ?_
  refine j_mem (M2 := zs (zs M a (upd (upd (M a) 0 x) 1 y)) (a + 1) (flF (M (a + 1)) 24 (nI 0))) (congrArg (fun f => zs _ _ (flF f _ _)) (by simp [zs])) ?_
  exact j_rv dX4_become_18 rfl (Nat.le_refl _) (Nat.le_refl _) rfl rfl
def asS (M : zMem) (a b : Nat) : zMem := zs (zs M a (upd (upd (M a) 0 (M b 0)) 1 (M b 1))) (a + 1) (va_cpy (M (b + 1)) (M (a + 1)) 0 0 24)
theorem c_becomeAsS (d : Nat) (G : zG) (M : zMem) (X : zX) (a : Nat) (hs : isS X a) (b : Nat) (ht : isS X b) (hab : b ≠ a) (hab1 : b + 1 ≠ a) : zCall G miX4_becomeAs (d + 1) [.ref a, .ref b] (zV (asS M a b) X) M X 0 0 := by
  refine zCall.of (lv := [some (.ref a), some (.ref b)]) (by decide) (Nat.le_of_ble_eq_true rfl) rfl ?_
  refine j_aload_n (n := 1) dX4_becomeAs_0 rfl rfl ?_
  refine j_aload_n (n := 2) dX4_becomeAs_1 rfl rfl ?_
  refine jc_get (n := 5) (k := 0) (v := M b 0) dX4_becomeAs_2 rfl fX4_11 (ht).2.2.1 (ht).1 (Nat.lt_of_succ_lt (ht).2.1) rfl ?_
  refine jc_put (n := 8) (k := 0) (x := M b 0) (M2 := zs M a (upd (M a) 0 (M b 0))) dX4_becomeAs_5 rfl pX4_11 (fun h => by cases h) rfl rfl (hs).2.2.1 (hs).1 (Nat.lt_of_succ_lt (hs).2.1) rfl ?_
  refine j_aload_n (n := 9) dX4_becomeAs_8 rfl rfl ?_
  refine j_aload_n (n := 10) dX4_becomeAs_9 rfl rfl ?_
  refine jc_get (n := 13) (k := 1) (v := M b 1) dX4_becomeAs_10 rfl fX4_19 (ht).2.2.1 (ht).1 (Nat.lt_of_succ_lt (ht).2.1) (congrFun (zs_ne _ _ hab) 1) ?_
  refine jc_put (n := 16) (k := 1) (x := M b 1) (M2 := zs M a (upd (upd (M a) 0 (M b 0)) 1 (M b 1))) dX4_becomeAs_13 rfl pX4_19 (fun h => by cases h) rfl rfl (hs).2.2.1 (hs).1 (Nat.lt_of_succ_lt (hs).2.1) (by rw [zs_eq, zs_zs]) ?_
  refine j_aload_n (n := 17) dX4_becomeAs_16 rfl rfl ?_
  refine j_getr (n := 20) (k := 2) (b := b + 1) dX4_becomeAs_17 rfl fX4_15 (ht).2.2.1 (ht).1 (Nat.lt_of_succ_lt (ht).2.1) (ht).2.2.2.1 ?_
  refine j_iconst (n := 21) (v := nI 0) dX4_becomeAs_20 rfl rfl ?_
  refine j_aload_n (n := 22) dX4_becomeAs_21 rfl rfl ?_
  refine j_getr (n := 25) (k := 2) (b := a + 1) dX4_becomeAs_22 rfl fX4_15 (hs).2.2.1 (hs).1 (Nat.lt_of_succ_lt (hs).2.1) (hs).2.2.2.1 ?_
  refine j_iconst (n := 26) (v := nI 0) dX4_becomeAs_25 rfl rfl ?_
  refine j_bipush (n := 28) (v := nI 24) dX4_becomeAs_26 rfl (by decide) ?_
  refine j_acopy (n := 31) (L0 := 24) (L := 24) (sp := 0) (dp := 0) (k := 24) (M2 := asS M a b) dX4_becomeAs_28 rfl ac_X4 (ht).2.2.2.2.1 (ht).2.2.2.2.2 (hs).2.2.2.2.1 (hs).2.2.2.2.2 (Nat.le_succ_of_le (ht).1) (ht).2.1 (Nat.le_succ_of_le (hs).1) (hs).2.1 (by decide) (by decide) (by decide) (by decide) (by omega) (Nat.le_of_ble_eq_true rfl) (by unfold asS; rw [zs_ne _ _ (by omega), zs_ne _ _ (by omega)]) ?_
  exact j_rv dX4_becomeAs_31 rfl (Nat.le_refl _) (Nat.le_refl _) rfl rfl
theorem c_isMissing (d : Nat) (G : zG) (M : zMem) (X : zX) (a : Nat) (hs : isS X a) (v : Int32) (hv : M a 0 = v) : zCall G miX4_isMissing (d + 0) [.ref a] (zI (zB (v.toInt = -1)) M X) M X 0 0 := by
  refine zCall.of (lv := [some (.ref a)]) (by decide) (Nat.le_of_ble_eq_true rfl) rfl ?_
  refine j_aload_n (n := 1) dX4_isMissing_0 rfl rfl ?_
  refine jc_get (n := 4) (k := 0) (v := v) dX4_isMissing_1 rfl fX4_11 (hs).2.2.1 (hs).1 (Nat.lt_of_succ_lt (hs).2.1) hv ?_
  refine j_iconst (n := 5) (v := (-1)) dX4_isMissing_4 rfl rfl ?_
  refine j_icmp_neT (n := 8) (tg := 12) dX4_isMissing_5 rfl rfl rfl (show Int32.toInt (-1) = (-1 : Int) from by decide) (fun h101 => ?_) (fun h101 => ?_)
  · refine j_iconst (n := 13) (v := nI 0) dX4_isMissing_12 rfl rfl ?_
    exact j_rb dX4_isMissing_13 rfl rfl (Nat.le_refl _) (Nat.le_refl _) (by first | exact (zB_t (by omega)).symm | exact (zB_f (by omega)).symm) rfl rfl
  · refine j_iconst (n := 9) (v := nI 1) dX4_isMissing_8 rfl rfl ?_
    refine j_goto (n := 13) dX4_isMissing_9 rfl ?_
    exact j_rb dX4_isMissing_13 rfl rfl (Nat.le_refl _) (Nat.le_refl _) (by first | exact (zB_t (by omega)).symm | exact (zB_f (by omega)).symm) rfl rfl
theorem c_hasPlace (d : Nat) (G : zG) (M : zMem) (X : zX) (a : Nat) (hs : isS X a) (L : Nat) (hv : M a 1 = nI L) (hL : L ≤ 24) (x : Int32) : zCall G miX4_hasPlace (d + 0) [.ref a, .int x] (zI (zB (0 ≤ x.toInt ∧ x.toInt ≤ (L : Int) - 1)) M X) M X 0 0 := by
  refine zCall.of (lv := [some (.ref a), some (.int x)]) (by decide) (Nat.le_of_ble_eq_true rfl) rfl ?_
  refine j_iload_n (n := 1) dX4_hasPlace_0 rfl rfl ?_
  refine j_if_ltT (n := 4) (tg := 16) dX4_hasPlace_1 rfl rfl (fun h101 => ?_) (fun h101 => ?_)
  · refine j_iconst (n := 17) (v := nI 0) dX4_hasPlace_16 rfl rfl ?_
    exact j_rb dX4_hasPlace_17 rfl rfl (Nat.le_refl _) (Nat.le_refl _) (by first | exact (zB_t (by omega)).symm | exact (zB_f (by omega)).symm) rfl rfl
  · refine j_iload_n (n := 5) dX4_hasPlace_4 rfl rfl ?_
    refine j_aload_n (n := 6) dX4_hasPlace_5 rfl rfl ?_
    refine jc_get (n := 9) (k := 1) (v := nI L) dX4_hasPlace_6 rfl fX4_19 (hs).2.2.1 (hs).1 (Nat.lt_of_succ_lt (hs).2.1) hv ?_
    refine j_icmp_geT (n := 12) (tg := 16) dX4_hasPlace_9 rfl rfl rfl (i_N (by omega)) (fun h102 => ?_) (fun h102 => ?_)
    · refine j_iconst (n := 17) (v := nI 0) dX4_hasPlace_16 rfl rfl ?_
      exact j_rb dX4_hasPlace_17 rfl rfl (Nat.le_refl _) (Nat.le_refl _) (by first | exact (zB_t (by omega)).symm | exact (zB_f (by omega)).symm) rfl rfl
    · refine j_iconst (n := 13) (v := nI 1) dX4_hasPlace_12 rfl rfl ?_
      refine j_goto (n := 17) dX4_hasPlace_13 rfl ?_
      exact j_rb dX4_hasPlace_17 rfl rfl (Nat.le_refl _) (Nat.le_refl _) (by first | exact (zB_t (by omega)).symm | exact (zB_f (by omega)).symm) rfl rfl
theorem c_hasPlaces (d : Nat) (G : zG) (M : zMem) (X : zX) (a : Nat) (hs : isS X a) (L : Nat) (hv : M a 1 = nI L) (hL : L ≤ 24) (x y : Int32) : zCall G miX4_hasPlaces (d + 0) [.ref a, .int x, .int y] (zI (zB (0 ≤ x.toInt ∧ 0 ≤ y.toInt ∧ x.toInt + y.toInt ≤ (L : Int))) M X) M X 0 0 := by
  refine zCall.of (lv := [some (.ref a), some (.int x), some (.int y)]) (by decide) (Nat.le_of_ble_eq_true rfl) rfl ?_
  refine j_iload_n (n := 1) dX4_hasPlaces_0 rfl rfl ?_
  refine j_if_ltT (n := 4) (tg := 30) dX4_hasPlaces_1 rfl rfl (fun h101 => ?_) (fun h101 => ?_)
  · refine j_iconst (n := 31) (v := nI 0) dX4_hasPlaces_30 rfl rfl ?_
    exact j_rb dX4_hasPlaces_31 rfl rfl (Nat.le_refl _) (Nat.le_refl _) (by first | exact (zB_t (by omega)).symm | exact (zB_f (by omega)).symm) rfl rfl
  · refine j_iload_n (n := 5) dX4_hasPlaces_4 rfl rfl ?_
    refine j_if_ltT (n := 8) (tg := 30) dX4_hasPlaces_5 rfl rfl (fun h102 => ?_) (fun h102 => ?_)
    · refine j_iconst (n := 31) (v := nI 0) dX4_hasPlaces_30 rfl rfl ?_
      exact j_rb dX4_hasPlaces_31 rfl rfl (Nat.le_refl _) (Nat.le_refl _) (by first | exact (zB_t (by omega)).symm | exact (zB_f (by omega)).symm) rfl rfl
    · refine j_iload_n (n := 9) dX4_hasPlaces_8 rfl rfl ?_
      refine j_aload_n (n := 10) dX4_hasPlaces_9 rfl rfl ?_
      refine jc_get (n := 13) (k := 1) (v := nI L) dX4_hasPlaces_10 rfl fX4_19 (hs).2.2.1 (hs).1 (Nat.lt_of_succ_lt (hs).2.1) hv ?_
      refine j_icmp_gtT (n := 16) (tg := 30) dX4_hasPlaces_13 rfl rfl rfl (i_N (by omega)) (fun h103 => ?_) (fun h103 => ?_)
      · refine j_iconst (n := 31) (v := nI 0) dX4_hasPlaces_30 rfl rfl ?_
        exact j_rb dX4_hasPlaces_31 rfl rfl (Nat.le_refl _) (Nat.le_refl _) (by first | exact (zB_t (by omega)).symm | exact (zB_f (by omega)).symm) rfl rfl
      · refine j_iload_n (n := 17) dX4_hasPlaces_16 rfl rfl ?_
        refine j_aload_n (n := 18) dX4_hasPlaces_17 rfl rfl ?_
        refine jc_get (n := 21) (k := 1) (v := nI L) dX4_hasPlaces_18 rfl fX4_19 (hs).2.2.1 (hs).1 (Nat.lt_of_succ_lt (hs).2.1) hv ?_
        refine j_iload_n (n := 22) dX4_hasPlaces_21 rfl rfl ?_
        refine j_isub (n := 23) dX4_hasPlaces_22 rfl ?_
        have esb : (nI L - y).toInt = (L : Int) - y.toInt := by rw [Int32.toInt_sub, i_N (by omega), Int.bmod_eq_of_le (by omega) (by omega)]
        refine j_icmp_gtT (n := 26) (tg := 30) dX4_hasPlaces_23 rfl rfl rfl rfl (fun h104 => ?_) (fun h104 => ?_)
        · refine j_iconst (n := 31) (v := nI 0) dX4_hasPlaces_30 rfl rfl ?_
          exact j_rb dX4_hasPlaces_31 rfl rfl (Nat.le_refl _) (Nat.le_refl _) (by first | exact (zB_t (by omega)).symm | exact (zB_f (by omega)).symm) rfl rfl
        · refine j_iconst (n := 27) (v := nI 1) dX4_hasPlaces_26 rfl rfl ?_
          refine j_goto (n := 31) dX4_hasPlaces_27 rfl ?_
          exact j_rb dX4_hasPlaces_31 rfl rfl (Nat.le_refl _) (Nat.le_refl _) (by first | exact (zB_t (by omega)).symm | exact (zB_f (by omega)).symm) rfl rfl
theorem c_isNumber (d : Nat) (G : zG) (M : zMem) (X : zX) (a : Nat) (hs : isS X a) (q : Nat) (hq : q < 24) (v : Int32) (hv : M (a + 1) q = v) : zCall G miX4_isNumber (d + 0) [.ref a, .int (nI q)] (zI (zB (¬ v.toInt = -1000000005)) M X) M X 0 0 := by
  refine zCall.of (lv := [some (.ref a), some (.int (nI q))]) (by decide) (Nat.le_of_ble_eq_true rfl) rfl ?_
  refine j_aload_n (n := 1) dX4_isNumber_0 rfl rfl ?_
  refine j_getr (n := 4) (k := 2) (b := a + 1) dX4_isNumber_1 rfl fX4_15 (hs).2.2.1 (hs).1 (Nat.lt_of_succ_lt (hs).2.1) (hs).2.2.2.1 ?_
  refine j_iload_n (n := 5) dX4_isNumber_4 rfl rfl ?_
  refine j_ialdN (n := 6) (L := 24) (a := a + 1) (i := q) (v := v) dX4_isNumber_5 rfl (hs).2.2.2.2.1 (hs).2.2.2.2.2 (by omega) (by decide) (Nat.le_succ_of_le (hs).1) (hs).2.1 hv ?_
  refine j_ldc (n := 8) (v := -1000000005) dX4_isNumber_6 rfl kX4_34 ?_
  refine j_icmp_eqT (n := 11) (tg := 15) dX4_isNumber_8 rfl rfl rfl (show Int32.toInt (-1000000005) = (-1000000005 : Int) from by decide) (fun h101 => ?_) (fun h101 => ?_)
  · refine j_iconst (n := 16) (v := nI 0) dX4_isNumber_15 rfl rfl ?_
    exact j_rb dX4_isNumber_16 rfl rfl (Nat.le_refl _) (Nat.le_refl _) (by first | exact (zB_t (by omega)).symm | exact (zB_f (by omega)).symm) rfl rfl
  · refine j_iconst (n := 12) (v := nI 1) dX4_isNumber_11 rfl rfl ?_
    refine j_goto (n := 16) dX4_isNumber_12 rfl ?_
    exact j_rb dX4_isNumber_16 rfl rfl (Nat.le_refl _) (Nat.le_refl _) (by first | exact (zB_t (by omega)).symm | exact (zB_f (by omega)).symm) rfl rfl
def mC_sheet (M : zMem) (sheet sort n : Int32) : zMem := if ¬ ((0 ≤ sheet.toInt ∧ sheet.toInt ≤ 3) ∧ (-1 ≤ sort.toInt ∧ sort.toInt ≤ 1) ∧ (0 ≤ sort.toInt → n.toInt ≤ 24)) then M else if 0 ≤ sort.toInt ∧ n.toInt < 0 then M else if sort.toInt < 0 then beS M (127 + 2 * tN sheet) (-1) (nI 0) else beS M (127 + 2 * tN sheet) sort n
theorem k_sheet (d : Nat) (G : zG) (M : zMem) (X : zX) (hr : kR X) (sheet sort n : Int32) : zCall G miX9_sheet (d + 2) [.ref 16, .int sheet, .int sort, .int n] (zI (r_sheet sheet sort n) (mC_sheet M sheet sort n) X) M X 0 0 := by
  refine zCall.of (lv := [some (.ref 16), some (.int sheet), some (.int sort), some (.int n)]) (by decide) (Nat.le_of_ble_eq_true rfl) rfl ?_
  refine j_iload_n (n := 1) dX9_sheet_0 rfl rfl ?_
  refine j_cS (n := 4) dX9_sheet_1 rfl sX9_230 (k_isSheet (d + 1) G _ _ _) (by omega) (by decide) rfl rfl (Nat.le_of_ble_eq_true rfl) (by decide) (by decide) ?_
  refine j_if_eqB (n := 7) (tg := 17) dX9_sheet_4 rfl rfl (fun h101 => ?_) (fun h101 => ?_)
  · refine j_ldc (n := 19) (v := -1000000001) dX9_sheet_17 rfl kX9_71 ?_
    exact j_ri dX9_sheet_19 rfl (Nat.le_refl _) (Nat.le_refl _) (by unfold r_sheet; (repeat (first | rw [if_pos (by omega)] | rw [if_neg (by omega)])); all_goals rfl) (by unfold mC_sheet; (try simp only [eq]); (repeat (first | rw [if_pos (by omega)] | rw [if_neg (by omega)])); all_goals rfl) rfl
  · refine j_iload_n (n := 8) dX9_sheet_7 rfl rfl ?_
    refine j_iconst (n := 9) (v := (-1)) dX9_sheet_8 rfl rfl ?_
    refine j_icmp_ltT (n := 12) (tg := 17) dX9_sheet_9 rfl rfl rfl (show Int32.toInt (-1) = (-1 : Int) from by decide) (fun h102 => ?_) (fun h102 => ?_)
    · refine j_ldc (n := 19) (v := -1000000001) dX9_sheet_17 rfl kX9_71 ?_
      exact j_ri dX9_sheet_19 rfl (Nat.le_refl _) (Nat.le_refl _) (by unfold r_sheet; (repeat (first | rw [if_pos (by omega)] | rw [if_neg (by omega)])); all_goals rfl) (by unfold mC_sheet; (try simp only [eq]); (repeat (first | rw [if_pos (by omega)] | rw [if_neg (by omega)])); all_goals rfl) rfl
    · refine j_iload_n (n := 13) dX9_sheet_12 rfl rfl ?_
      refine j_iconst (n := 14) (v := nI 1) dX9_sheet_13 rfl rfl ?_
      refine j_icmp_leT (n := 17) (tg := 20) dX9_sheet_14 rfl rfl rfl (i_N (by omega)) (fun h103 => ?_) (fun h103 => ?_)
      · obtain ⟨q, hq_, rfl⟩ := i_of (x := sheet) (n := 4) (by omega) (by omega)
        have eq : tN (nI q) = q := tN_nI (by omega)
        have iq : (nI q).toInt = q := i_N (by omega)
        refine j_iload_n (n := 21) dX9_sheet_20 rfl rfl ?_
        refine j_iconst (n := 22) (v := (-1)) dX9_sheet_21 rfl rfl ?_
        refine j_icmp_neT (n := 25) (tg := 38) dX9_sheet_22 rfl rfl rfl (show Int32.toInt (-1) = (-1 : Int) from by decide) (fun h104 => ?_) (fun h104 => ?_)
        · refine j_iload_n (n := 39) dX9_sheet_38 rfl rfl ?_
          refine j_bipush (n := 41) (v := nI 24) dX9_sheet_39 rfl (by decide) ?_
          refine j_icmp_leT (n := 44) (tg := 47) dX9_sheet_41 rfl rfl rfl (i_N (by omega)) (fun h105 => ?_) (fun h105 => ?_)
          · refine j_iload_n (n := 48) dX9_sheet_47 rfl rfl ?_
            refine j_if_geT (n := 51) (tg := 55) dX9_sheet_48 rfl rfl (fun h106 => ?_) (fun h106 => ?_)
            · refine j_aload_n (n := 56) dX9_sheet_55 rfl rfl ?_
              refine j_getr (n := 59) (k := 8) (b := 123) dX9_sheet_56 rfl fX9_42 (hr).c (by decide) ((hr).hi (by decide)) (hr.f (k := 8) rfl (by decide)) ?_
              refine j_iload_n (n := 60) dX9_sheet_59 rfl rfl ?_
              refine jc_aald (n := 61) (t := 5) (L := 4) (i := q) (b := 127 + 2 * q) dX9_sheet_60 rfl (hr.a (a := 123) rfl (by decide) rfl).1 (by decide) rfl (hr.a (a := 123) rfl (by decide) rfl).2 (by omega) (by decide) (by decide) (hr.hi (by decide)) (hr.she (by omega)) ?_
              refine j_iload_n (n := 62) dX9_sheet_61 rfl rfl ?_
              refine j_iload_n (n := 63) dX9_sheet_62 rfl rfl ?_
              refine j_cVv (n := 66) dX9_sheet_63 rfl sX9_283 (c_becomeS d G _ _ (127 + 2 * q) (hr.sh (i := q) (by omega)) _ _) (by omega) (by decide) rfl rfl (Nat.le_of_ble_eq_true rfl) ((hr.sh (i := q) (by omega))).2.2.1 ((hr.sh (i := q) (by omega))).1 (Nat.lt_of_succ_lt ((hr.sh (i := q) (by omega))).2.1) (by decide) (by decide) ?_
              refine j_iload_n (n := 67) dX9_sheet_66 rfl rfl ?_
              exact j_ri dX9_sheet_67 rfl (Nat.le_refl _) (Nat.le_refl _) (by unfold r_sheet; (repeat (first | rw [if_pos (by omega)] | rw [if_neg (by omega)])); all_goals rfl) (by unfold mC_sheet; (try simp only [eq]); (repeat (first | rw [if_pos (by omega)] | rw [if_neg (by omega)])); all_goals rfl) rfl
            · refine j_ldcw (n := 54) (v := -1000000014) dX9_sheet_51 rfl kX9_286 ?_
              exact j_ri dX9_sheet_54 rfl (Nat.le_refl _) (Nat.le_refl _) (by unfold r_sheet; (repeat (first | rw [if_pos (by omega)] | rw [if_neg (by omega)])); all_goals rfl) (by unfold mC_sheet; (try simp only [eq]); (repeat (first | rw [if_pos (by omega)] | rw [if_neg (by omega)])); all_goals rfl) rfl
          · refine j_ldc (n := 46) (v := -1000000001) dX9_sheet_44 rfl kX9_71 ?_
            exact j_ri dX9_sheet_46 rfl (Nat.le_refl _) (Nat.le_refl _) (by unfold r_sheet; (repeat (first | rw [if_pos (by omega)] | rw [if_neg (by omega)])); all_goals rfl) (by unfold mC_sheet; (try simp only [eq]); (repeat (first | rw [if_pos (by omega)] | rw [if_neg (by omega)])); all_goals rfl) rfl
        · refine j_aload_n (n := 26) dX9_sheet_25 rfl rfl ?_
          refine j_getr (n := 29) (k := 8) (b := 123) dX9_sheet_26 rfl fX9_42 (hr).c (by decide) ((hr).hi (by decide)) (hr.f (k := 8) rfl (by decide)) ?_
          refine j_iload_n (n := 30) dX9_sheet_29 rfl rfl ?_
          refine jc_aald (n := 31) (t := 5) (L := 4) (i := q) (b := 127 + 2 * q) dX9_sheet_30 rfl (hr.a (a := 123) rfl (by decide) rfl).1 (by decide) rfl (hr.a (a := 123) rfl (by decide) rfl).2 (by omega) (by decide) (by decide) (hr.hi (by decide)) (hr.she (by omega)) ?_
          refine j_iconst (n := 32) (v := (-1)) dX9_sheet_31 rfl rfl ?_
          refine j_iconst (n := 33) (v := nI 0) dX9_sheet_32 rfl rfl ?_
          refine j_cVv (n := 36) dX9_sheet_33 rfl sX9_283 (c_becomeS d G _ _ (127 + 2 * q) (hr.sh (i := q) (by omega)) _ _) (by omega) (by decide) rfl rfl (Nat.le_of_ble_eq_true rfl) ((hr.sh (i := q) (by omega))).2.2.1 ((hr.sh (i := q) (by omega))).1 (Nat.lt_of_succ_lt ((hr.sh (i := q) (by omega))).2.1) (by decide) (by decide) ?_
          refine j_iconst (n := 37) (v := nI 0) dX9_sheet_36 rfl rfl ?_
          exact j_ri dX9_sheet_37 rfl (Nat.le_refl _) (Nat.le_refl _) (by unfold r_sheet; (repeat (first | rw [if_pos (by omega)] | rw [if_neg (by omega)])); all_goals rfl) (by unfold mC_sheet; (try simp only [eq]); (repeat (first | rw [if_pos (by omega)] | rw [if_neg (by omega)])); all_goals rfl) rfl
      · refine j_ldc (n := 19) (v := -1000000001) dX9_sheet_17 rfl kX9_71 ?_
        exact j_ri dX9_sheet_19 rfl (Nat.le_refl _) (Nat.le_refl _) (by unfold r_sheet; (repeat (first | rw [if_pos (by omega)] | rw [if_neg (by omega)])); all_goals rfl) (by unfold mC_sheet; (try simp only [eq]); (repeat (first | rw [if_pos (by omega)] | rw [if_neg (by omega)])); all_goals rfl) rfl
def wfSC (M : zMem) : Prop := ∀ i, i < 4 → (-1 ≤ (M (127 + 2 * i) 0).toInt ∧ (M (127 + 2 * i) 0).toInt ≤ 1) ∧ tN (M (127 + 2 * i) 1) ≤ 24
def mC_mark (M : zMem) (sheet place v : Int32) : zMem := if r_mark sheet (M (127 + 2 * tN sheet) 0) (tN (M (127 + 2 * tN sheet) 1)) place v = nI 1 then zs M (127 + 2 * tN sheet + 1) (upd (M (127 + 2 * tN sheet + 1)) (tN place) (if (M (127 + 2 * tN sheet) 0).toInt = 0 then (Int32.toInt16 v).toInt32 else v)) else M
theorem k_mark (d : Nat) (G : zG) (M : zMem) (X : zX) (hr : kR X) (hsc : wfSC M) (sheet place v : Int32) : zCall G miX9_mark (d + 1) [.ref 16, .int sheet, .int place, .int v] (zI (r_mark sheet (M (127 + 2 * tN sheet) 0) (tN (M (127 + 2 * tN sheet) 1)) place v) (mC_mark M sheet place v) X) M X 0 0 := by
  refine zCall.of (lv := [some (.ref 16), some (.int sheet), some (.int place), some (.int v), none]) (by decide) (Nat.le_of_ble_eq_true rfl) rfl ?_
  refine j_iload_n (n := 1) dX9_mark_0 rfl rfl ?_
  refine j_cS (n := 4) dX9_mark_1 rfl sX9_230 (k_isSheet d G _ _ _) (by omega) (by decide) rfl rfl (Nat.le_of_ble_eq_true rfl) (by decide) (by decide) ?_
  refine j_if_neB (n := 7) (tg := 10) dX9_mark_4 rfl rfl (fun h101 => ?_) (fun h101 => ?_)
  · obtain ⟨q, hq_, rfl⟩ := i_of (x := sheet) (n := 4) (by omega) (by omega)
    have eq : tN (nI q) = q := tN_nI (by omega)
    have iq : (nI q).toInt = q := i_N (by omega)
    have hsq := hsc q hq_
    refine j_aload_n (n := 11) dX9_mark_10 rfl rfl ?_
    refine j_getr (n := 14) (k := 8) (b := 123) dX9_mark_11 rfl fX9_42 (hr).c (by decide) ((hr).hi (by decide)) (hr.f (k := 8) rfl (by decide)) ?_
    refine j_iload_n (n := 15) dX9_mark_14 rfl rfl ?_
    refine jc_aald (n := 16) (t := 5) (L := 4) (i := q) (b := 127 + 2 * q) dX9_mark_15 rfl (hr.a (a := 123) rfl (by decide) rfl).1 (by decide) rfl (hr.a (a := 123) rfl (by decide) rfl).2 (by omega) (by decide) (by decide) (hr.hi (by decide)) (hr.she (by omega)) ?_
    refine j_astore (n := 18) (lv2 := [some (.ref 16), some (.int (nI q)), some (.int place), some (.int v), some (.ref (127 + 2 * q))]) dX9_mark_16 rfl rfl (by decide) rfl ?_
    refine j_aload (n := 20) dX9_mark_18 rfl rfl ?_
    refine j_cV (n := 23) dX9_mark_20 rfl sX9_233 (c_isMissing d G _ _ (127 + 2 * q) (hr.sh (i := q) (by omega)) _ rfl) (by omega) (by decide) rfl rfl (Nat.le_of_ble_eq_true rfl) ((hr.sh (i := q) (by omega))).2.2.1 ((hr.sh (i := q) (by omega))).1 (Nat.lt_of_succ_lt ((hr.sh (i := q) (by omega))).2.1) (by decide) (by decide) ?_
    refine j_if_eqB (n := 26) (tg := 29) dX9_mark_23 rfl rfl (fun h102 => ?_) (fun h102 => ?_)
    · refine j_aload (n := 31) dX9_mark_29 rfl rfl ?_
      refine j_iload_n (n := 32) dX9_mark_31 rfl rfl ?_
      refine j_cV (n := 35) dX9_mark_32 rfl sX9_287 (c_hasPlace d G _ _ (127 + 2 * q) (hr.sh (i := q) (by omega)) (tN (M (127 + 2 * q) 1)) ((show _ = M (127 + 2 * q) 1 from rfl).trans (nI_tN _).symm) (by omega) _) (by omega) (by decide) rfl rfl (Nat.le_of_ble_eq_true rfl) ((hr.sh (i := q) (by omega))).2.2.1 ((hr.sh (i := q) (by omega))).1 (Nat.lt_of_succ_lt ((hr.sh (i := q) (by omega))).2.1) (by decide) (by decide) ?_
      refine j_if_neB (n := 38) (tg := 42) dX9_mark_35 rfl rfl (fun h103 => ?_) (fun h103 => ?_)
      · obtain ⟨pl, hpl_, rfl⟩ := i_of (x := place) (n := 24) (by omega) (by omega)
        have epl : tN (nI pl) = pl := tN_nI (by omega)
        have ipl : (nI pl).toInt = pl := i_N (by omega)
        refine j_aload (n := 44) dX9_mark_42 rfl rfl ?_
        refine jc_get (n := 47) (k := 0) (v := M (127 + 2 * q) 0) dX9_mark_44 rfl fX9_291 ((hr.sh (i := q) (by omega))).2.2.1 ((hr.sh (i := q) (by omega))).1 (Nat.lt_of_succ_lt ((hr.sh (i := q) (by omega))).2.1) rfl ?_
        refine j_if_neT (n := 50) (tg := 70) dX9_mark_47 rfl rfl (fun h104 => ?_) (fun h104 => ?_)
        · refine j_iload_n (n := 71) dX9_mark_70 rfl rfl ?_
          refine j_ldc (n := 73) (v := -1000000005) dX9_mark_71 rfl kX9_219 ?_
          refine j_icmp_eqT (n := 76) (tg := 93) dX9_mark_73 rfl rfl rfl (show Int32.toInt (-1000000005) = (-1000000005 : Int) from by decide) (fun h105 => ?_) (fun h105 => ?_)
          · refine j_aload (n := 95) dX9_mark_93 rfl rfl ?_
            refine j_getr (n := 98) (k := 2) (b := 127 + 2 * q + 1) dX9_mark_95 rfl fX9_292 ((hr.sh (i := q) (by omega))).2.2.1 ((hr.sh (i := q) (by omega))).1 (Nat.lt_of_succ_lt ((hr.sh (i := q) (by omega))).2.1) ((hr.sh (i := q) (by omega))).2.2.2.1 ?_
            refine j_iload_n (n := 99) dX9_mark_98 rfl rfl ?_
            refine j_iload_n (n := 100) dX9_mark_99 rfl rfl ?_
            refine j_iastN (n := 101) (L := 24) (a := 127 + 2 * q + 1) (i := pl) (x := v) (M2 := zs M (127 + 2 * q + 1) (upd (M (127 + 2 * q + 1)) pl v)) dX9_mark_100 rfl ((hr.sh (i := q) (by omega))).2.2.2.2.1 ((hr.sh (i := q) (by omega))).2.2.2.2.2 (by omega) (by decide) (Nat.le_succ_of_le ((hr.sh (i := q) (by omega))).1) ((hr.sh (i := q) (by omega))).2.1 rfl ?_
            refine j_iconst (n := 102) (v := nI 1) dX9_mark_101 rfl rfl ?_
            exact j_ri dX9_mark_102 rfl (Nat.le_refl _) (Nat.le_refl _) (by unfold r_mark; (try simp only [eq]); (repeat (first | rw [if_pos (by omega)] | rw [if_neg (by omega)])); all_goals rfl) (by have hrm : r_mark (nI q) (M (127 + 2 * q) 0) (tN (M (127 + 2 * q) 1)) (nI pl) v = nI 1 := (by unfold r_mark; (repeat (first | rw [if_pos (by omega)] | rw [if_neg (by omega)])); all_goals rfl); unfold mC_mark; rw [eq, hrm]; first | (rw [if_neg (by decide)]; done) | (rw [if_pos rfl, epl]; first | (rw [if_pos (by omega)]; done) | rw [if_neg (by omega)])) rfl
          · refine j_iload_n (n := 77) dX9_mark_76 rfl rfl ?_
            refine j_ldcw (n := 80) (v := -99999) dX9_mark_77 rfl kX9_295 ?_
            refine j_icmp_ltT (n := 83) (tg := 90) dX9_mark_80 rfl rfl rfl (show Int32.toInt (-99999) = (-99999 : Int) from by decide) (fun h106 => ?_) (fun h106 => ?_)
            · refine j_ldc (n := 92) (v := -1000000001) dX9_mark_90 rfl kX9_71 ?_
              exact j_ri dX9_mark_92 rfl (Nat.le_refl _) (Nat.le_refl _) (by unfold r_mark; (try simp only [eq]); (repeat (first | rw [if_pos (by omega)] | rw [if_neg (by omega)])); all_goals rfl) (by have hrm : r_mark (nI q) (M (127 + 2 * q) 0) (tN (M (127 + 2 * q) 1)) (nI pl) v = (-1000000001) := (by unfold r_mark; (repeat (first | rw [if_pos (by omega)] | rw [if_neg (by omega)])); all_goals rfl); unfold mC_mark; rw [eq, hrm]; first | (rw [if_neg (by decide)]; done) | (rw [if_pos rfl, epl]; first | (rw [if_pos (by omega)]; done) | rw [if_neg (by omega)])) rfl
            · refine j_iload_n (n := 84) dX9_mark_83 rfl rfl ?_
              refine j_ldcw (n := 87) (v := 99999) dX9_mark_84 rfl kX9_296 ?_
              refine j_icmp_leT (n := 90) (tg := 93) dX9_mark_87 rfl rfl rfl (show Int32.toInt (99999) = (99999 : Int) from by decide) (fun h107 => ?_) (fun h107 => ?_)
              · refine j_aload (n := 95) dX9_mark_93 rfl rfl ?_
                refine j_getr (n := 98) (k := 2) (b := 127 + 2 * q + 1) dX9_mark_95 rfl fX9_292 ((hr.sh (i := q) (by omega))).2.2.1 ((hr.sh (i := q) (by omega))).1 (Nat.lt_of_succ_lt ((hr.sh (i := q) (by omega))).2.1) ((hr.sh (i := q) (by omega))).2.2.2.1 ?_
                refine j_iload_n (n := 99) dX9_mark_98 rfl rfl ?_
                refine j_iload_n (n := 100) dX9_mark_99 rfl rfl ?_
                refine j_iastN (n := 101) (L := 24) (a := 127 + 2 * q + 1) (i := pl) (x := v) (M2 := zs M (127 + 2 * q + 1) (upd (M (127 + 2 * q + 1)) pl v)) dX9_mark_100 rfl ((hr.sh (i := q) (by omega))).2.2.2.2.1 ((hr.sh (i := q) (by omega))).2.2.2.2.2 (by omega) (by decide) (Nat.le_succ_of_le ((hr.sh (i := q) (by omega))).1) ((hr.sh (i := q) (by omega))).2.1 rfl ?_
                refine j_iconst (n := 102) (v := nI 1) dX9_mark_101 rfl rfl ?_
                exact j_ri dX9_mark_102 rfl (Nat.le_refl _) (Nat.le_refl _) (by unfold r_mark; (try simp only [eq]); (repeat (first | rw [if_pos (by omega)] | rw [if_neg (by omega)])); all_goals rfl) (by have hrm : r_mark (nI q) (M (127 + 2 * q) 0) (tN (M (127 + 2 * q) 1)) (nI pl) v = nI 1 := (by unfold r_mark; (repeat (first | rw [if_pos (by omega)] | rw [if_neg (by omega)])); all_goals rfl); unfold mC_mark; rw [eq, hrm]; first | (rw [if_neg (by decide)]; done) | (rw [if_pos rfl, epl]; first | (rw [if_pos (by omega)]; done) | rw [if_neg (by omega)])) rfl
              · refine j_ldc (n := 92) (v := -1000000001) dX9_mark_90 rfl kX9_71 ?_
                exact j_ri dX9_mark_92 rfl (Nat.le_refl _) (Nat.le_refl _) (by unfold r_mark; (try simp only [eq]); (repeat (first | rw [if_pos (by omega)] | rw [if_neg (by omega)])); all_goals rfl) (by have hrm : r_mark (nI q) (M (127 + 2 * q) 0) (tN (M (127 + 2 * q) 1)) (nI pl) v = (-1000000001) := (by unfold r_mark; (repeat (first | rw [if_pos (by omega)] | rw [if_neg (by omega)])); all_goals rfl); unfold mC_mark; rw [eq, hrm]; first | (rw [if_neg (by decide)]; done) | (rw [if_pos rfl, epl]; first | (rw [if_pos (by omega)]; done) | rw [if_neg (by omega)])) rfl
        · refine j_iload_n (n := 51) dX9_mark_50 rfl rfl ?_
          refine j_ldc (n := 53) (v := -1000000005) dX9_mark_51 rfl kX9_219 ?_
          refine j_icmp_neT (n := 56) (tg := 59) dX9_mark_53 rfl rfl rfl (show Int32.toInt (-1000000005) = (-1000000005 : Int) from by decide) (fun h108 => ?_) (fun h108 => ?_)
          · refine j_aload (n := 61) dX9_mark_59 rfl rfl ?_
            refine j_getr (n := 64) (k := 2) (b := 127 + 2 * q + 1) dX9_mark_61 rfl fX9_292 ((hr.sh (i := q) (by omega))).2.2.1 ((hr.sh (i := q) (by omega))).1 (Nat.lt_of_succ_lt ((hr.sh (i := q) (by omega))).2.1) ((hr.sh (i := q) (by omega))).2.2.2.1 ?_
            refine j_iload_n (n := 65) dX9_mark_64 rfl rfl ?_
            refine j_iload_n (n := 66) dX9_mark_65 rfl rfl ?_
            refine j_i2s (n := 67) dX9_mark_66 rfl ?_
            refine j_iastN (n := 68) (L := 24) (a := 127 + 2 * q + 1) (i := pl) (x := (Int32.toInt16 v).toInt32) (M2 := zs M (127 + 2 * q + 1) (upd (M (127 + 2 * q + 1)) pl ((Int32.toInt16 v).toInt32))) dX9_mark_67 rfl ((hr.sh (i := q) (by omega))).2.2.2.2.1 ((hr.sh (i := q) (by omega))).2.2.2.2.2 (by omega) (by decide) (Nat.le_succ_of_le ((hr.sh (i := q) (by omega))).1) ((hr.sh (i := q) (by omega))).2.1 rfl ?_
            refine j_iconst (n := 69) (v := nI 1) dX9_mark_68 rfl rfl ?_
            exact j_ri dX9_mark_69 rfl (Nat.le_refl _) (Nat.le_refl _) (by unfold r_mark; (try simp only [eq]); (repeat (first | rw [if_pos (by omega)] | rw [if_neg (by omega)])); all_goals rfl) (by have hrm : r_mark (nI q) (M (127 + 2 * q) 0) (tN (M (127 + 2 * q) 1)) (nI pl) v = nI 1 := (by unfold r_mark; (repeat (first | rw [if_pos (by omega)] | rw [if_neg (by omega)])); all_goals rfl); unfold mC_mark; rw [eq, hrm]; first | (rw [if_neg (by decide)]; done) | (rw [if_pos rfl, epl]; first | (rw [if_pos (by omega)]; done) | rw [if_neg (by omega)])) rfl
          · refine j_ldc (n := 58) (v := -1000000012) dX9_mark_56 rfl kX9_113 ?_
            exact j_ri dX9_mark_58 rfl (Nat.le_refl _) (Nat.le_refl _) (by unfold r_mark; (try simp only [eq]); (repeat (first | rw [if_pos (by omega)] | rw [if_neg (by omega)])); all_goals rfl) (by have hrm : r_mark (nI q) (M (127 + 2 * q) 0) (tN (M (127 + 2 * q) 1)) (nI pl) v = (-1000000012) := (by unfold r_mark; (repeat (first | rw [if_pos (by omega)] | rw [if_neg (by omega)])); all_goals rfl); unfold mC_mark; rw [eq, hrm]; first | (rw [if_neg (by decide)]; done) | (rw [if_pos rfl, epl]; first | (rw [if_pos (by omega)]; done) | rw [if_neg (by omega)])) rfl
      · refine j_ldcw (n := 41) (v := -1000000013) dX9_mark_38 rfl kX9_290 ?_
        exact j_ri dX9_mark_41 rfl (Nat.le_refl _) (Nat.le_refl _) (by unfold r_mark; (try simp only [eq]); (repeat (first | rw [if_pos (by omega)] | rw [if_neg (by omega)])); all_goals rfl) (by have hrm : r_mark (nI q) (M (127 + 2 * q) 0) (tN (M (127 + 2 * q) 1)) place v = (-1000000013) := (by unfold r_mark; (repeat (first | rw [if_pos (by omega)] | rw [if_neg (by omega)])); all_goals rfl); unfold mC_mark; rw [eq, hrm]; first | (rw [if_neg (by decide)]; done) | (rw [if_pos rfl, epl]; first | (rw [if_pos (by omega)]; done) | rw [if_neg (by omega)])) rfl
    · refine j_ldc (n := 28) (v := -1000000011) dX9_mark_26 rfl kX9_237 ?_
      exact j_ri dX9_mark_28 rfl (Nat.le_refl _) (Nat.le_refl _) (by unfold r_mark; (try simp only [eq]); (repeat (first | rw [if_pos (by omega)] | rw [if_neg (by omega)])); all_goals rfl) (by have hrm : r_mark (nI q) (M (127 + 2 * q) 0) (tN (M (127 + 2 * q) 1)) place v = (-1000000011) := (by unfold r_mark; (repeat (first | rw [if_pos (by omega)] | rw [if_neg (by omega)])); all_goals rfl); unfold mC_mark; rw [eq, hrm]; first | (rw [if_neg (by decide)]; done) | (rw [if_pos rfl, epl]; first | (rw [if_pos (by omega)]; done) | rw [if_neg (by omega)])) rfl
  · refine j_ldc (n := 9) (v := -1000000001) dX9_mark_7 rfl kX9_71 ?_
    exact j_ri dX9_mark_9 rfl (Nat.le_refl _) (Nat.le_refl _) (by unfold r_mark; (try simp only [eq]); (repeat (first | rw [if_pos (by omega)] | rw [if_neg (by omega)])); all_goals rfl) (by have hrm : r_mark sheet (M (127 + 2 * tN sheet) 0) (tN (M (127 + 2 * tN sheet) 1)) place v = cBAD := (by unfold r_mark; rw [if_pos (by omega)]); unfold mC_mark; rw [hrm, if_neg (by decide)]) rfl
