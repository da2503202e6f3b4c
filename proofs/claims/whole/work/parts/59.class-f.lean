-- CLASS F: by program (wip/whole/gen/c6.py)
theorem k_isKind (d : Nat) (G : zG) (M : zMem) (X : zX) (x : Int32) : zCall G miX9_isKind (d + 0) [.int x] (zI (zB (0 ≤ x.toInt ∧ x.toInt ≤ 5)) M X) M X 0 0 := by
  refine zCall.of (lv := [some (.int x)]) (by decide) (Nat.le_of_ble_eq_true rfl) rfl ?_
  refine j_iload_n (n := 1) dX9_isKind_0 rfl rfl ?_
  refine j_if_ltT (n := 4) (tg := 14) dX9_isKind_1 rfl rfl (fun h101 => ?_) (fun h101 => ?_)
  · refine j_iconst (n := 15) (v := nI 0) dX9_isKind_14 rfl rfl ?_
    exact j_rb dX9_isKind_15 rfl rfl (Nat.le_refl _) (Nat.le_refl _) (by first | exact (zB_t (by omega)).symm | exact (zB_f (by omega)).symm) rfl rfl
  · refine j_iload_n (n := 5) dX9_isKind_4 rfl rfl ?_
    refine j_bipush (n := 7) (v := nI 6) dX9_isKind_5 rfl (by decide) ?_
    refine j_icmp_geT (n := 10) (tg := 14) dX9_isKind_7 rfl rfl rfl (i_N (by omega)) (fun h102 => ?_) (fun h102 => ?_)
    · refine j_iconst (n := 15) (v := nI 0) dX9_isKind_14 rfl rfl ?_
      exact j_rb dX9_isKind_15 rfl rfl (Nat.le_refl _) (Nat.le_refl _) (by first | exact (zB_t (by omega)).symm | exact (zB_f (by omega)).symm) rfl rfl
    · refine j_iconst (n := 11) (v := nI 1) dX9_isKind_10 rfl rfl ?_
      refine j_goto (n := 15) dX9_isKind_11 rfl ?_
      exact j_rb dX9_isKind_15 rfl rfl (Nat.le_refl _) (Nat.le_refl _) (by first | exact (zB_t (by omega)).symm | exact (zB_f (by omega)).symm) rfl rfl
theorem k_isRoom (d : Nat) (G : zG) (M : zMem) (X : zX) (x : Int32) : zCall G miX9_isRoom (d + 0) [.int x] (zI (zB (0 ≤ x.toInt ∧ x.toInt ≤ 7)) M X) M X 0 0 := by
  refine zCall.of (lv := [some (.int x)]) (by decide) (Nat.le_of_ble_eq_true rfl) rfl ?_
  refine j_iload_n (n := 1) dX9_isRoom_0 rfl rfl ?_
  refine j_if_ltT (n := 4) (tg := 14) dX9_isRoom_1 rfl rfl (fun h101 => ?_) (fun h101 => ?_)
  · refine j_iconst (n := 15) (v := nI 0) dX9_isRoom_14 rfl rfl ?_
    exact j_rb dX9_isRoom_15 rfl rfl (Nat.le_refl _) (Nat.le_refl _) (by first | exact (zB_t (by omega)).symm | exact (zB_f (by omega)).symm) rfl rfl
  · refine j_iload_n (n := 5) dX9_isRoom_4 rfl rfl ?_
    refine j_bipush (n := 7) (v := nI 8) dX9_isRoom_5 rfl (by decide) ?_
    refine j_icmp_geT (n := 10) (tg := 14) dX9_isRoom_7 rfl rfl rfl (i_N (by omega)) (fun h102 => ?_) (fun h102 => ?_)
    · refine j_iconst (n := 15) (v := nI 0) dX9_isRoom_14 rfl rfl ?_
      exact j_rb dX9_isRoom_15 rfl rfl (Nat.le_refl _) (Nat.le_refl _) (by first | exact (zB_t (by omega)).symm | exact (zB_f (by omega)).symm) rfl rfl
    · refine j_iconst (n := 11) (v := nI 1) dX9_isRoom_10 rfl rfl ?_
      refine j_goto (n := 15) dX9_isRoom_11 rfl ?_
      exact j_rb dX9_isRoom_15 rfl rfl (Nat.le_refl _) (Nat.le_refl _) (by first | exact (zB_t (by omega)).symm | exact (zB_f (by omega)).symm) rfl rfl
theorem k_isSort (d : Nat) (G : zG) (M : zMem) (X : zX) (x : Int32) : zCall G miX9_isSort (d + 0) [.int x] (zI (zB (0 ≤ x.toInt ∧ x.toInt ≤ 2)) M X) M X 0 0 := by
  refine zCall.of (lv := [some (.int x)]) (by decide) (Nat.le_of_ble_eq_true rfl) rfl ?_
  refine j_iload_n (n := 1) dX9_isSort_0 rfl rfl ?_
  refine j_if_ltT (n := 4) (tg := 13) dX9_isSort_1 rfl rfl (fun h101 => ?_) (fun h101 => ?_)
  · refine j_iconst (n := 14) (v := nI 0) dX9_isSort_13 rfl rfl ?_
    exact j_rb dX9_isSort_14 rfl rfl (Nat.le_refl _) (Nat.le_refl _) (by first | exact (zB_t (by omega)).symm | exact (zB_f (by omega)).symm) rfl rfl
  · refine j_iload_n (n := 5) dX9_isSort_4 rfl rfl ?_
    refine j_iconst (n := 6) (v := nI 3) dX9_isSort_5 rfl rfl ?_
    refine j_icmp_geT (n := 9) (tg := 13) dX9_isSort_6 rfl rfl rfl (i_N (by omega)) (fun h102 => ?_) (fun h102 => ?_)
    · refine j_iconst (n := 14) (v := nI 0) dX9_isSort_13 rfl rfl ?_
      exact j_rb dX9_isSort_14 rfl rfl (Nat.le_refl _) (Nat.le_refl _) (by first | exact (zB_t (by omega)).symm | exact (zB_f (by omega)).symm) rfl rfl
    · refine j_iconst (n := 10) (v := nI 1) dX9_isSort_9 rfl rfl ?_
      refine j_goto (n := 14) dX9_isSort_10 rfl ?_
      exact j_rb dX9_isSort_14 rfl rfl (Nat.le_refl _) (Nat.le_refl _) (by first | exact (zB_t (by omega)).symm | exact (zB_f (by omega)).symm) rfl rfl
theorem k_isRegret (d : Nat) (G : zG) (M : zMem) (X : zX) (x : Int32) : zCall G miX9_isRegret (d + 0) [.int x] (zI (zB (0 ≤ x.toInt ∧ x.toInt ≤ 99)) M X) M X 0 0 := by
  refine zCall.of (lv := [some (.int x)]) (by decide) (Nat.le_of_ble_eq_true rfl) rfl ?_
  refine j_iload_n (n := 1) dX9_isRegret_0 rfl rfl ?_
  refine j_if_ltT (n := 4) (tg := 14) dX9_isRegret_1 rfl rfl (fun h101 => ?_) (fun h101 => ?_)
  · refine j_iconst (n := 15) (v := nI 0) dX9_isRegret_14 rfl rfl ?_
    exact j_rb dX9_isRegret_15 rfl rfl (Nat.le_refl _) (Nat.le_refl _) (by first | exact (zB_t (by omega)).symm | exact (zB_f (by omega)).symm) rfl rfl
  · refine j_iload_n (n := 5) dX9_isRegret_4 rfl rfl ?_
    refine j_bipush (n := 7) (v := nI 99) dX9_isRegret_5 rfl (by decide) ?_
    refine j_icmp_gtT (n := 10) (tg := 14) dX9_isRegret_7 rfl rfl rfl (i_N (by omega)) (fun h102 => ?_) (fun h102 => ?_)
    · refine j_iconst (n := 15) (v := nI 0) dX9_isRegret_14 rfl rfl ?_
      exact j_rb dX9_isRegret_15 rfl rfl (Nat.le_refl _) (Nat.le_refl _) (by first | exact (zB_t (by omega)).symm | exact (zB_f (by omega)).symm) rfl rfl
    · refine j_iconst (n := 11) (v := nI 1) dX9_isRegret_10 rfl rfl ?_
      refine j_goto (n := 15) dX9_isRegret_11 rfl ?_
      exact j_rb dX9_isRegret_15 rfl rfl (Nat.le_refl _) (Nat.le_refl _) (by first | exact (zB_t (by omega)).symm | exact (zB_f (by omega)).symm) rfl rfl
theorem k_isSet (d : Nat) (G : zG) (M : zMem) (X : zX) (x : Int32) : zCall G miX9_isSet (d + 0) [.int x] (zI (zB (0 ≤ x.toInt ∧ x.toInt ≤ 99)) M X) M X 0 0 := by
  refine zCall.of (lv := [some (.int x)]) (by decide) (Nat.le_of_ble_eq_true rfl) rfl ?_
  refine j_iload_n (n := 1) dX9_isSet_0 rfl rfl ?_
  refine j_if_ltT (n := 4) (tg := 14) dX9_isSet_1 rfl rfl (fun h101 => ?_) (fun h101 => ?_)
  · refine j_iconst (n := 15) (v := nI 0) dX9_isSet_14 rfl rfl ?_
    exact j_rb dX9_isSet_15 rfl rfl (Nat.le_refl _) (Nat.le_refl _) (by first | exact (zB_t (by omega)).symm | exact (zB_f (by omega)).symm) rfl rfl
  · refine j_iload_n (n := 5) dX9_isSet_4 rfl rfl ?_
    refine j_bipush (n := 7) (v := nI 99) dX9_isSet_5 rfl (by decide) ?_
    refine j_icmp_gtT (n := 10) (tg := 14) dX9_isSet_7 rfl rfl rfl (i_N (by omega)) (fun h102 => ?_) (fun h102 => ?_)
    · refine j_iconst (n := 15) (v := nI 0) dX9_isSet_14 rfl rfl ?_
      exact j_rb dX9_isSet_15 rfl rfl (Nat.le_refl _) (Nat.le_refl _) (by first | exact (zB_t (by omega)).symm | exact (zB_f (by omega)).symm) rfl rfl
    · refine j_iconst (n := 11) (v := nI 1) dX9_isSet_10 rfl rfl ?_
      refine j_goto (n := 15) dX9_isSet_11 rfl ?_
      exact j_rb dX9_isSet_15 rfl rfl (Nat.le_refl _) (Nat.le_refl _) (by first | exact (zB_t (by omega)).symm | exact (zB_f (by omega)).symm) rfl rfl
theorem k_isSheet (d : Nat) (G : zG) (M : zMem) (X : zX) (x : Int32) : zCall G miX9_isSheet (d + 0) [.int x] (zI (zB (0 ≤ x.toInt ∧ x.toInt ≤ 3)) M X) M X 0 0 := by
  refine zCall.of (lv := [some (.int x)]) (by decide) (Nat.le_of_ble_eq_true rfl) rfl ?_
  refine j_iload_n (n := 1) dX9_isSheet_0 rfl rfl ?_
  refine j_if_ltT (n := 4) (tg := 13) dX9_isSheet_1 rfl rfl (fun h101 => ?_) (fun h101 => ?_)
  · refine j_iconst (n := 14) (v := nI 0) dX9_isSheet_13 rfl rfl ?_
    exact j_rb dX9_isSheet_14 rfl rfl (Nat.le_refl _) (Nat.le_refl _) (by first | exact (zB_t (by omega)).symm | exact (zB_f (by omega)).symm) rfl rfl
  · refine j_iload_n (n := 5) dX9_isSheet_4 rfl rfl ?_
    refine j_iconst (n := 6) (v := nI 4) dX9_isSheet_5 rfl rfl ?_
    refine j_icmp_geT (n := 9) (tg := 13) dX9_isSheet_6 rfl rfl rfl (i_N (by omega)) (fun h102 => ?_) (fun h102 => ?_)
    · refine j_iconst (n := 14) (v := nI 0) dX9_isSheet_13 rfl rfl ?_
      exact j_rb dX9_isSheet_14 rfl rfl (Nat.le_refl _) (Nat.le_refl _) (by first | exact (zB_t (by omega)).symm | exact (zB_f (by omega)).symm) rfl rfl
    · refine j_iconst (n := 10) (v := nI 1) dX9_isSheet_9 rfl rfl ?_
      refine j_goto (n := 14) dX9_isSheet_10 rfl ?_
      exact j_rb dX9_isSheet_14 rfl rfl (Nat.le_refl _) (Nat.le_refl _) (by first | exact (zB_t (by omega)).symm | exact (zB_f (by omega)).symm) rfl rfl
theorem k_isSlot (d : Nat) (G : zG) (M : zMem) (X : zX) (x : Int32) : zCall G miX9_isSlot (d + 0) [.int x] (zI (zB (0 ≤ x.toInt ∧ x.toInt ≤ 4)) M X) M X 0 0 := by
  refine zCall.of (lv := [some (.int x)]) (by decide) (Nat.le_of_ble_eq_true rfl) rfl ?_
  refine j_iload_n (n := 1) dX9_isSlot_0 rfl rfl ?_
  refine j_if_ltT (n := 4) (tg := 13) dX9_isSlot_1 rfl rfl (fun h101 => ?_) (fun h101 => ?_)
  · refine j_iconst (n := 14) (v := nI 0) dX9_isSlot_13 rfl rfl ?_
    exact j_rb dX9_isSlot_14 rfl rfl (Nat.le_refl _) (Nat.le_refl _) (by first | exact (zB_t (by omega)).symm | exact (zB_f (by omega)).symm) rfl rfl
  · refine j_iload_n (n := 5) dX9_isSlot_4 rfl rfl ?_
    refine j_iconst (n := 6) (v := nI 5) dX9_isSlot_5 rfl rfl ?_
    refine j_icmp_geT (n := 9) (tg := 13) dX9_isSlot_6 rfl rfl rfl (i_N (by omega)) (fun h102 => ?_) (fun h102 => ?_)
    · refine j_iconst (n := 14) (v := nI 0) dX9_isSlot_13 rfl rfl ?_
      exact j_rb dX9_isSlot_14 rfl rfl (Nat.le_refl _) (Nat.le_refl _) (by first | exact (zB_t (by omega)).symm | exact (zB_f (by omega)).symm) rfl rfl
    · refine j_iconst (n := 10) (v := nI 1) dX9_isSlot_9 rfl rfl ?_
      refine j_goto (n := 14) dX9_isSlot_10 rfl ?_
      exact j_rb dX9_isSlot_14 rfl rfl (Nat.le_refl _) (Nat.le_refl _) (by first | exact (zB_t (by omega)).symm | exact (zB_f (by omega)).symm) rfl rfl
theorem k_isOne (d : Nat) (G : zG) (M : zMem) (X : zX) (hr : kR X) (c : Nat → Nat) (hn : c 0 ≤ 8) (x : Int32) : zCall G miX9_isOne (d + 0) [.ref 16, .int x] (zI (zB (0 ≤ x.toInt ∧ x.toInt ≤ (c 0 : Int) - 1)) (cm M 17 c) X) (cm M 17 c) X 0 0 := by
  refine zCall.of (lv := [some (.ref 16), some (.int x)]) (by decide) (Nat.le_of_ble_eq_true rfl) rfl ?_
  refine j_iload_n (n := 1) dX9_isOne_0 rfl rfl ?_
  refine j_if_ltT (n := 4) (tg := 19) dX9_isOne_1 rfl rfl (fun h101 => ?_) (fun h101 => ?_)
  · refine j_iconst (n := 20) (v := nI 0) dX9_isOne_19 rfl rfl ?_
    exact j_rb dX9_isOne_20 rfl rfl (Nat.le_refl _) (Nat.le_refl _) (by first | exact (zB_t (by omega)).symm | exact (zB_f (by omega)).symm) rfl rfl
  · refine j_iload_n (n := 5) dX9_isOne_4 rfl rfl ?_
    refine j_aload_n (n := 6) dX9_isOne_5 rfl rfl ?_
    refine j_getr (n := 9) (k := 0) (b := 17) dX9_isOne_6 rfl fX9_10 (hr).c (by decide) ((hr).hi (by decide)) (hr.f (k := 0) rfl (by decide)) ?_
    refine jc_get (n := 12) (k := 1) (v := nI (c 0)) dX9_isOne_9 rfl fX9_72 (hr.1.1).c (hr.1.1).lo ((hr.1.1).hi (by omega)) (cm_r (ix_t rfl)) ?_
    refine j_icmp_geT (n := 15) (tg := 19) dX9_isOne_12 rfl rfl rfl (i_N (by omega)) (fun h102 => ?_) (fun h102 => ?_)
    · refine j_iconst (n := 20) (v := nI 0) dX9_isOne_19 rfl rfl ?_
      exact j_rb dX9_isOne_20 rfl rfl (Nat.le_refl _) (Nat.le_refl _) (by first | exact (zB_t (by omega)).symm | exact (zB_f (by omega)).symm) rfl rfl
    · refine j_iconst (n := 16) (v := nI 1) dX9_isOne_15 rfl rfl ?_
      refine j_goto (n := 20) dX9_isOne_16 rfl ?_
      exact j_rb dX9_isOne_20 rfl rfl (Nat.le_refl _) (Nat.le_refl _) (by first | exact (zB_t (by omega)).symm | exact (zB_f (by omega)).symm) rfl rfl
theorem k_isLock (d : Nat) (G : zG) (M : zMem) (X : zX) (hr : kR X) (c : Nat → Nat) (hn : c 8 ≤ 10) (x : Int32) : zCall G miX9_isLock (d + 0) [.ref 16, .int x] (zI (zB (0 ≤ x.toInt ∧ x.toInt ≤ (c 8 : Int) - 1)) (cm M 17 c) X) (cm M 17 c) X 0 0 := by
  refine zCall.of (lv := [some (.ref 16), some (.int x)]) (by decide) (Nat.le_of_ble_eq_true rfl) rfl ?_
  refine j_iload_n (n := 1) dX9_isLock_0 rfl rfl ?_
  refine j_if_ltT (n := 4) (tg := 19) dX9_isLock_1 rfl rfl (fun h101 => ?_) (fun h101 => ?_)
  · refine j_iconst (n := 20) (v := nI 0) dX9_isLock_19 rfl rfl ?_
    exact j_rb dX9_isLock_20 rfl rfl (Nat.le_refl _) (Nat.le_refl _) (by first | exact (zB_t (by omega)).symm | exact (zB_f (by omega)).symm) rfl rfl
  · refine j_iload_n (n := 5) dX9_isLock_4 rfl rfl ?_
    refine j_aload_n (n := 6) dX9_isLock_5 rfl rfl ?_
    refine j_getr (n := 9) (k := 0) (b := 17) dX9_isLock_6 rfl fX9_10 (hr).c (by decide) ((hr).hi (by decide)) (hr.f (k := 0) rfl (by decide)) ?_
    refine jc_get (n := 12) (k := 3) (v := nI (c 8)) dX9_isLock_9 rfl fX9_120 (hr.1.1).c (hr.1.1).lo ((hr.1.1).hi (by omega)) (cm_r (ix_t rfl)) ?_
    refine j_icmp_geT (n := 15) (tg := 19) dX9_isLock_12 rfl rfl rfl (i_N (by omega)) (fun h102 => ?_) (fun h102 => ?_)
    · refine j_iconst (n := 20) (v := nI 0) dX9_isLock_19 rfl rfl ?_
      exact j_rb dX9_isLock_20 rfl rfl (Nat.le_refl _) (Nat.le_refl _) (by first | exact (zB_t (by omega)).symm | exact (zB_f (by omega)).symm) rfl rfl
    · refine j_iconst (n := 16) (v := nI 1) dX9_isLock_15 rfl rfl ?_
      refine j_goto (n := 20) dX9_isLock_16 rfl ?_
      exact j_rb dX9_isLock_20 rfl rfl (Nat.le_refl _) (Nat.le_refl _) (by first | exact (zB_t (by omega)).symm | exact (zB_f (by omega)).symm) rfl rfl
theorem k_fitsLock (d : Nat) (G : zG) (M : zMem) (X : zX) (w v : Int32) : zCall G miX9_fitsLock (d + 1) [.int w, .int v] (zI (zB ((0 ≤ w.toInt ∧ w.toInt ≤ 3) ∧ (0 ≤ v.toInt ∧ v.toInt ≤ 99) ∧ (w.toInt < 2 → v.toInt ≤ 7) ∧ (w.toInt = 2 → v.toInt ≤ 2))) M X) M X 0 0 := by
  refine zCall.of (lv := [some (.int w), some (.int v)]) (by decide) (Nat.le_of_ble_eq_true rfl) rfl ?_
  refine j_iload_n (n := 1) dX9_fitsLock_0 rfl rfl ?_
  have hs101 : (w).toInt = 0 ∨ (w).toInt = 1 ∨ (w).toInt = 2 ∨ (w).toInt = 3 ∨ ((w).toInt < 0 ∨ 3 < (w).toInt) := by omega
  rcases hs101 with hs101 | hs101 | hs101 | hs101 | hs101
  · refine j_tabIn (i := 0) (off := 31) (tg := 32) dX9_fitsLock_1 (by omega) (by decide) rfl rfl ?_
    refine j_iload_n (n := 33) dX9_fitsLock_32 rfl rfl ?_
    refine j_cS (n := 36) dX9_fitsLock_33 rfl sX9_65 (k_isRoom d G _ _ _) (by omega) (by decide) rfl rfl (Nat.le_of_ble_eq_true rfl) (by decide) (by decide) ?_
    exact j_rb dX9_fitsLock_36 rfl zB_nar (Nat.le_refl _) (Nat.le_refl _) (zB_congr (by omega)) rfl rfl
  · refine j_tabIn (i := 1) (off := 31) (tg := 32) dX9_fitsLock_1 (by omega) (by decide) rfl rfl ?_
    refine j_iload_n (n := 33) dX9_fitsLock_32 rfl rfl ?_
    refine j_cS (n := 36) dX9_fitsLock_33 rfl sX9_65 (k_isRoom d G _ _ _) (by omega) (by decide) rfl rfl (Nat.le_of_ble_eq_true rfl) (by decide) (by decide) ?_
    exact j_rb dX9_fitsLock_36 rfl zB_nar (Nat.le_refl _) (Nat.le_refl _) (zB_congr (by omega)) rfl rfl
  · refine j_tabIn (i := 2) (off := 36) (tg := 37) dX9_fitsLock_1 (by omega) (by decide) rfl rfl ?_
    refine j_iload_n (n := 38) dX9_fitsLock_37 rfl rfl ?_
    refine j_cS (n := 41) dX9_fitsLock_38 rfl sX9_114 (k_isSort d G _ _ _) (by omega) (by decide) rfl rfl (Nat.le_of_ble_eq_true rfl) (by decide) (by decide) ?_
    exact j_rb dX9_fitsLock_41 rfl zB_nar (Nat.le_refl _) (Nat.le_refl _) (zB_congr (by omega)) rfl rfl
  · refine j_tabIn (i := 3) (off := 41) (tg := 42) dX9_fitsLock_1 (by omega) (by decide) rfl rfl ?_
    refine j_iload_n (n := 43) dX9_fitsLock_42 rfl rfl ?_
    refine j_cS (n := 46) dX9_fitsLock_43 rfl sX9_117 (k_isSet d G _ _ _) (by omega) (by decide) rfl rfl (Nat.le_of_ble_eq_true rfl) (by decide) (by decide) ?_
    exact j_rb dX9_fitsLock_46 rfl zB_nar (Nat.le_refl _) (Nat.le_refl _) (zB_congr (by omega)) rfl rfl
  · refine j_tabOut (tg := 47) dX9_fitsLock_1 (by omega) rfl ?_
    refine j_iconst (n := 48) (v := nI 0) dX9_fitsLock_47 rfl rfl ?_
    exact j_rb dX9_fitsLock_48 rfl rfl (Nat.le_refl _) (Nat.le_refl _) (zB_f (by omega)).symm rfl rfl
theorem k_one (d : Nat) (G : zG) (M : zMem) (X : zX) (hr : kR X) (c : Nat → Nat) (hn : c 0 ≤ 8) (kind room a b e : Int32) : zCall G miX9_one (d + 1) [.ref 16, .int kind, .int room, .int a, .int b, .int e] (zI (r_one c kind room a b e) (cm M 17 (q_one c kind room a b e)) X) (cm M 17 c) X 0 0 := by
  refine zCall.of (lv := [some (.ref 16), some (.int kind), some (.int room), some (.int a), some (.int b), some (.int e)]) (by decide) (Nat.le_of_ble_eq_true rfl) rfl ?_
  refine j_iload_n (n := 1) dX9_one_0 rfl rfl ?_
  refine j_cS (n := 4) dX9_one_1 rfl sX9_61 (k_isKind d G _ _ _) (by omega) (by decide) rfl rfl (Nat.le_of_ble_eq_true rfl) (by decide) (by decide) ?_
  refine j_if_eqB (n := 7) (tg := 37) dX9_one_4 rfl rfl (fun h101 => ?_) (fun h101 => ?_)
  · refine j_ldc (n := 39) (v := -1000000001) dX9_one_37 rfl kX9_71 ?_
    exact j_ri dX9_one_39 rfl (Nat.le_refl _) (Nat.le_refl _) (by unfold r_one; (repeat (first | rw [if_pos (by omega)] | rw [if_neg (by omega)])); all_goals rfl) (by unfold q_one; (repeat (first | rw [if_pos (by omega)] | rw [if_neg (by omega)])); all_goals rfl) rfl
  · refine j_iload_n (n := 8) dX9_one_7 rfl rfl ?_
    refine j_cS (n := 11) dX9_one_8 rfl sX9_65 (k_isRoom d G _ _ _) (by omega) (by decide) rfl rfl (Nat.le_of_ble_eq_true rfl) (by decide) (by decide) ?_
    refine j_if_eqB (n := 14) (tg := 37) dX9_one_11 rfl rfl (fun h102 => ?_) (fun h102 => ?_)
    · refine j_ldc (n := 39) (v := -1000000001) dX9_one_37 rfl kX9_71 ?_
      exact j_ri dX9_one_39 rfl (Nat.le_refl _) (Nat.le_refl _) (by unfold r_one; (repeat (first | rw [if_pos (by omega)] | rw [if_neg (by omega)])); all_goals rfl) (by unfold q_one; (repeat (first | rw [if_pos (by omega)] | rw [if_neg (by omega)])); all_goals rfl) rfl
    · refine j_iload_n (n := 15) dX9_one_14 rfl rfl ?_
      refine j_cS (n := 18) dX9_one_15 rfl sX9_68 (k_isRegret d G _ _ _) (by omega) (by decide) rfl rfl (Nat.le_of_ble_eq_true rfl) (by decide) (by decide) ?_
      refine j_if_eqB (n := 21) (tg := 37) dX9_one_18 rfl rfl (fun h103 => ?_) (fun h103 => ?_)
      · refine j_ldc (n := 39) (v := -1000000001) dX9_one_37 rfl kX9_71 ?_
        exact j_ri dX9_one_39 rfl (Nat.le_refl _) (Nat.le_refl _) (by unfold r_one; (repeat (first | rw [if_pos (by omega)] | rw [if_neg (by omega)])); all_goals rfl) (by unfold q_one; (repeat (first | rw [if_pos (by omega)] | rw [if_neg (by omega)])); all_goals rfl) rfl
      · refine j_iload (n := 23) dX9_one_21 rfl rfl ?_
        refine j_cS (n := 26) dX9_one_23 rfl sX9_68 (k_isRegret d G _ _ _) (by omega) (by decide) rfl rfl (Nat.le_of_ble_eq_true rfl) (by decide) (by decide) ?_
        refine j_if_eqB (n := 29) (tg := 37) dX9_one_26 rfl rfl (fun h104 => ?_) (fun h104 => ?_)
        · refine j_ldc (n := 39) (v := -1000000001) dX9_one_37 rfl kX9_71 ?_
          exact j_ri dX9_one_39 rfl (Nat.le_refl _) (Nat.le_refl _) (by unfold r_one; (repeat (first | rw [if_pos (by omega)] | rw [if_neg (by omega)])); all_goals rfl) (by unfold q_one; (repeat (first | rw [if_pos (by omega)] | rw [if_neg (by omega)])); all_goals rfl) rfl
        · refine j_iload (n := 31) dX9_one_29 rfl rfl ?_
          refine j_cS (n := 34) dX9_one_31 rfl sX9_68 (k_isRegret d G _ _ _) (by omega) (by decide) rfl rfl (Nat.le_of_ble_eq_true rfl) (by decide) (by decide) ?_
          refine j_if_neB (n := 37) (tg := 40) dX9_one_34 rfl rfl (fun h105 => ?_) (fun h105 => ?_)
          · obtain ⟨kd, hkd_, rfl⟩ := i_of (x := kind) (n := 6) (by omega) (by omega)
            have ekd : tN (nI kd) = kd := tN_nI (by omega)
            have ikd : (nI kd).toInt = kd := i_N (by omega)
            obtain ⟨rm, hrm_, rfl⟩ := i_of (x := room) (n := 8) (by omega) (by omega)
            have erm : tN (nI rm) = rm := tN_nI (by omega)
            have irm : (nI rm).toInt = rm := i_N (by omega)
            obtain ⟨ra, hra_, rfl⟩ := i_of (x := a) (n := 100) (by omega) (by omega)
            have era : tN (nI ra) = ra := tN_nI (by omega)
            have ira : (nI ra).toInt = ra := i_N (by omega)
            obtain ⟨rb, hrb_, rfl⟩ := i_of (x := b) (n := 100) (by omega) (by omega)
            have erb : tN (nI rb) = rb := tN_nI (by omega)
            have irb : (nI rb).toInt = rb := i_N (by omega)
            obtain ⟨re, hre_, rfl⟩ := i_of (x := e) (n := 100) (by omega) (by omega)
            have ere : tN (nI re) = re := tN_nI (by omega)
            have ire : (nI re).toInt = re := i_N (by omega)
            refine j_aload_n (n := 41) dX9_one_40 rfl rfl ?_
            refine j_getr (n := 44) (k := 0) (b := 17) dX9_one_41 rfl fX9_10 (hr).c (by decide) ((hr).hi (by decide)) (hr.f (k := 0) rfl (by decide)) ?_
            refine jc_get (n := 47) (k := 1) (v := nI (c 0)) dX9_one_44 rfl fX9_72 (hr.1.1).c (hr.1.1).lo ((hr.1.1).hi (by omega)) (cm_r (ix_t rfl)) ?_
            refine j_bipush (n := 49) (v := nI 8) dX9_one_47 rfl (by decide) ?_
            refine j_icmp_ltT (n := 52) (tg := 55) dX9_one_49 rfl rfl (i_N (by omega)) (i_N (by omega)) (fun h106 => ?_) (fun h106 => ?_)
            · refine j_aload_n (n := 56) dX9_one_55 rfl rfl ?_
              refine j_getr (n := 59) (k := 0) (b := 17) dX9_one_56 rfl fX9_10 (hr).c (by decide) ((hr).hi (by decide)) (hr.f (k := 0) rfl (by decide)) ?_
              refine j_getr (n := 62) (k := 0) (b := 18) dX9_one_59 rfl fX9_77 (hr.1.1).c (hr.1.1).lo ((hr.1.1).hi (by omega)) (hr.1.1).r0 ?_
              refine j_aload_n (n := 63) dX9_one_62 rfl rfl ?_
              refine j_getr (n := 66) (k := 0) (b := 17) dX9_one_63 rfl fX9_10 (hr).c (by decide) ((hr).hi (by decide)) (hr.f (k := 0) rfl (by decide)) ?_
              refine jc_get (n := 69) (k := 1) (v := nI (c 0)) dX9_one_66 rfl fX9_72 (hr.1.1).c (hr.1.1).lo ((hr.1.1).hi (by omega)) (cm_r (ix_t rfl)) ?_
              refine jc_aald (n := 70) (t := 2) (L := 8) (i := c 0) (b := 17 + 5 + 2 * (c 0)) dX9_one_69 rfl ((hr.1.1).a1).1 (by decide) rfl ((hr.1.1).a1).2 (by omega) (by decide) (by have := (hr.1.1).lo; omega) ((hr.1.1).hi (by omega)) ((hr.1.1).e1 (by omega)) ?_
              refine j_iload_n (n := 71) dX9_one_70 rfl rfl ?_
              refine j_iload_n (n := 72) dX9_one_71 rfl rfl ?_
              refine j_iload_n (n := 73) dX9_one_72 rfl rfl ?_
              refine j_iload (n := 75) dX9_one_73 rfl rfl ?_
              refine j_iload (n := 77) dX9_one_75 rfl rfl ?_
              refine j_cVv (n := 80) dX9_one_77 rfl sX9_81 (c_becomeP d G _ _ (17 + 5 + 2 * (c 0)) ((hr.1.1).p (by omega)) (nI kd) (nI rm) (nI ra) (nI rb) (nI re)) (by omega) (by decide) rfl rfl (Nat.le_of_ble_eq_true rfl) ((hr.1.1).p (by omega)).2.2.1 ((hr.1.1).p (by omega)).1 ((hr.1.1).hi (by omega)) (by decide) (by decide) ?_
              refine j_mem (M2 := cm M 17 (pu (pu (pu (pu (pu c (10 + 5 * (c 0) + 0) kd) (10 + 5 * (c 0) + 1) rm) (10 + 5 * (c 0) + 2) ra) (10 + 5 * (c 0) + 3) rb) (10 + 5 * (c 0) + 4) re)) (cm_be (by omega)) ?_
              refine j_aload_n (n := 81) dX9_one_80 rfl rfl ?_
              refine j_getr (n := 84) (k := 0) (b := 17) dX9_one_81 rfl fX9_10 (hr).c (by decide) ((hr).hi (by decide)) (hr.f (k := 0) rfl (by decide)) ?_
              refine j_dup (n := 85) dX9_one_84 rfl rfl ?_
              refine jc_get (n := 88) (k := 1) (v := nI (c 0)) dX9_one_85 rfl fX9_72 (hr.1.1).c (hr.1.1).lo ((hr.1.1).hi (by omega)) ((cm_r (ix_t rfl)).trans (congrArg nI (by repeat (first | rw [pu_eq] | rw [pu_ne _ _ (by omega)] | rw [drawZ_ne _ (by omega)])))) ?_
              refine j_dup_x1 (n := 89) dX9_one_88 rfl rfl rfl ?_
              refine j_iconst (n := 90) (v := nI 1) dX9_one_89 rfl rfl ?_
              refine j_iaddN (n := 91) (c := c 0 + 1) dX9_one_90 rfl rfl ?_
              refine jc_put (n := 94) (k := 1) (x := nI (c 0 + 1)) (M2 := cm M 17 (pu (pu (pu (pu (pu (pu c (10 + 5 * (c 0) + 0) kd) (10 + 5 * (c 0) + 1) rm) (10 + 5 * (c 0) + 2) ra) (10 + 5 * (c 0) + 3) rb) (10 + 5 * (c 0) + 4) re) 0 (c 0 + 1))) dX9_one_91 rfl pX9_72 (fun h => by cases h) rfl rfl (hr.1.1).c (hr.1.1).lo ((hr.1.1).hi (by omega)) (cm_w (ix_t rfl) _) ?_
              exact j_ri dX9_one_94 rfl (Nat.le_refl _) (Nat.le_refl _) (by unfold r_one; (repeat (first | rw [if_pos (by omega)] | rw [if_neg (by omega)])); all_goals rfl) (by unfold q_one; rw [if_neg (by omega), if_neg (by omega), ekd, erm, era, erb, ere]; exact congrArg (cm M 17) (comes_c rfl)) rfl
            · refine j_ldc (n := 54) (v := -1000000003) dX9_one_52 rfl kX9_76 ?_
              exact j_ri dX9_one_54 rfl (Nat.le_refl _) (Nat.le_refl _) (by unfold r_one; (repeat (first | rw [if_pos (by omega)] | rw [if_neg (by omega)])); all_goals rfl) (by unfold q_one; (repeat (first | rw [if_pos (by omega)] | rw [if_neg (by omega)])); all_goals rfl) rfl
          · refine j_ldc (n := 39) (v := -1000000001) dX9_one_37 rfl kX9_71 ?_
            exact j_ri dX9_one_39 rfl (Nat.le_refl _) (Nat.le_refl _) (by unfold r_one; (repeat (first | rw [if_pos (by omega)] | rw [if_neg (by omega)])); all_goals rfl) (by unfold q_one; (repeat (first | rw [if_pos (by omega)] | rw [if_neg (by omega)])); all_goals rfl) rfl
theorem k_told (d : Nat) (G : zG) (M : zMem) (X : zX) (hr : kR X) (c : Nat → Nat) (hw : wfO c) (one what : Int32) : zCall G miX9_told (d + 2) [.ref 16, .int one, .int what] (zI (r_told c one what) (cm M 17 c) X) (cm M 17 c) X 0 0 := by
  refine zCall.of (lv := [some (.ref 16), some (.int one), some (.int what), none]) (by decide) (Nat.le_of_ble_eq_true rfl) rfl ?_
  have hw0 := hw.1
  refine j_aload_n (n := 1) dX9_told_0 rfl rfl ?_
  refine j_iload_n (n := 2) dX9_told_1 rfl rfl ?_
  refine j_cV (n := 5) dX9_told_2 rfl sX9_87 (k_isOne (d + 1) G _ _ hr _ (by omega) _) (by omega) (by decide) rfl rfl (Nat.le_of_ble_eq_true rfl) (hr).c (by decide) ((hr).hi (by decide)) (by decide) (by decide) ?_
  refine j_if_neB (n := 8) (tg := 11) dX9_told_5 rfl rfl (fun h101 => ?_) (fun h101 => ?_)
  · obtain ⟨k, hk_, rfl⟩ := i_of (x := one) (n := c 0) (by omega) (by omega)
    have ek : tN (nI k) = k := tN_nI (by omega)
    have ik : (nI k).toInt = k := i_N (by omega)
    have ho := hw.2 k hk_
    refine j_aload_n (n := 12) dX9_told_11 rfl rfl ?_
    refine j_getr (n := 15) (k := 0) (b := 17) dX9_told_12 rfl fX9_10 (hr).c (by decide) ((hr).hi (by decide)) (hr.f (k := 0) rfl (by decide)) ?_
    refine j_getr (n := 18) (k := 0) (b := 18) dX9_told_15 rfl fX9_77 (hr.1.1).c (hr.1.1).lo ((hr.1.1).hi (by omega)) (hr.1.1).r0 ?_
    refine j_iload_n (n := 19) dX9_told_18 rfl rfl ?_
    refine jc_aald (n := 20) (t := 2) (L := 8) (i := k) (b := 17 + 5 + 2 * k) dX9_told_19 rfl ((hr.1.1).a1).1 (by decide) rfl ((hr.1.1).a1).2 (by omega) (by decide) (by have := (hr.1.1).lo; omega) ((hr.1.1).hi (by omega)) ((hr.1.1).e1 (by omega)) ?_
    refine j_astore_n (n := 21) (lv2 := [some (.ref 16), some (.int (nI k)), some (.int what), some (.ref (17 + 5 + 2 * k))]) dX9_told_20 rfl rfl (by decide) rfl ?_
    refine j_iload_n (n := 22) dX9_told_21 rfl rfl ?_
    have hs102 : (what).toInt = 0 ∨ (what).toInt = 1 ∨ (what).toInt = 2 ∨ (what).toInt = 3 ∨ (what).toInt = 4 ∨ (what).toInt = 5 ∨ (what).toInt = 6 ∨ (what).toInt = 7 ∨ (what).toInt = 8 ∨ ((what).toInt < 0 ∨ 8 < (what).toInt) := by omega
    rcases hs102 with hs102 | hs102 | hs102 | hs102 | hs102 | hs102 | hs102 | hs102 | hs102 | hs102
    · refine j_tabIn (i := 0) (off := 50) (tg := 72) dX9_told_22 (by omega) (by decide) rfl rfl ?_
      obtain rfl : what = nI 0 := int32_eq (by rw [i_N (by decide)]; omega)
      have ew : tN (nI 0) = 0 := tN_nI (by decide)
      have iw : (nI 0).toInt = 0 := i_N (by decide)
      refine j_aload_n (n := 73) dX9_told_72 rfl rfl ?_
      refine jc_get (n := 76) (k := 0) (v := nI (c (10 + 5 * k + 0))) dX9_told_73 rfl fX9_90 ((hr.1.1).p (by omega)).2.2.1 ((hr.1.1).p (by omega)).1 ((hr.1.1).hi (by omega)) (cm_r (ix_p (by omega) (by decide) rfl)) ?_
      exact j_ri dX9_told_76 rfl (Nat.le_refl _) (Nat.le_refl _) (by unfold r_told; (try simp only [ek, ew]); (repeat (first | rw [if_pos (by omega)] | rw [if_neg (by omega)])); all_goals first | rfl | (unfold regsP; rfl)) rfl rfl
    · refine j_tabIn (i := 1) (off := 55) (tg := 77) dX9_told_22 (by omega) (by decide) rfl rfl ?_
      obtain rfl : what = nI 1 := int32_eq (by rw [i_N (by decide)]; omega)
      have ew : tN (nI 1) = 1 := tN_nI (by decide)
      have iw : (nI 1).toInt = 1 := i_N (by decide)
      refine j_aload_n (n := 78) dX9_told_77 rfl rfl ?_
      refine jc_get (n := 81) (k := 1) (v := nI (c (10 + 5 * k + 1))) dX9_told_78 rfl fX9_93 ((hr.1.1).p (by omega)).2.2.1 ((hr.1.1).p (by omega)).1 ((hr.1.1).hi (by omega)) (cm_r (ix_p (by omega) (by decide) rfl)) ?_
      exact j_ri dX9_told_81 rfl (Nat.le_refl _) (Nat.le_refl _) (by unfold r_told; (try simp only [ek, ew]); (repeat (first | rw [if_pos (by omega)] | rw [if_neg (by omega)])); all_goals first | rfl | (unfold regsP; rfl)) rfl rfl
    · refine j_tabIn (i := 2) (off := 60) (tg := 82) dX9_told_22 (by omega) (by decide) rfl rfl ?_
      obtain rfl : what = nI 2 := int32_eq (by rw [i_N (by decide)]; omega)
      have ew : tN (nI 2) = 2 := tN_nI (by decide)
      have iw : (nI 2).toInt = 2 := i_N (by decide)
      refine j_aload_n (n := 83) dX9_told_82 rfl rfl ?_
      refine j_getr (n := 86) (k := 2) (b := 17 + 6 + 2 * k) dX9_told_83 rfl fX9_96 ((hr.1.1).p (by omega)).2.2.1 ((hr.1.1).p (by omega)).1 ((hr.1.1).hi (by omega)) ((hr.1.1).pr (by omega)) ?_
      refine j_iload_n (n := 87) dX9_told_86 rfl rfl ?_
      refine j_iconst (n := 88) (v := nI 2) dX9_told_87 rfl rfl ?_
      refine j_isubN (n := 89) (c := 0) dX9_told_88 rfl (by omega) (by omega) ?_
      refine j_ialdN (n := 90) (L := 3) (a := 17 + 6 + 2 * k) (i := 0) (v := nI (c (10 + 5 * k + 2))) dX9_told_89 rfl ((hr.1.1).pa (by omega)).1 ((hr.1.1).pa (by omega)).2 (by omega) (by decide) (by have := (hr.1.1).lo; omega) ((hr.1.1).hi (by omega)) (cm_r (ix_r (by omega) (by omega) rfl)) ?_
      exact j_ri dX9_told_90 rfl (Nat.le_refl _) (Nat.le_refl _) (by unfold r_told; (try simp only [ek, ew]); (repeat (first | rw [if_pos (by omega)] | rw [if_neg (by omega)])); all_goals first | rfl | (unfold regsP; rfl)) rfl rfl
    · refine j_tabIn (i := 3) (off := 60) (tg := 82) dX9_told_22 (by omega) (by decide) rfl rfl ?_
      obtain rfl : what = nI 3 := int32_eq (by rw [i_N (by decide)]; omega)
      have ew : tN (nI 3) = 3 := tN_nI (by decide)
      have iw : (nI 3).toInt = 3 := i_N (by decide)
      refine j_aload_n (n := 83) dX9_told_82 rfl rfl ?_
      refine j_getr (n := 86) (k := 2) (b := 17 + 6 + 2 * k) dX9_told_83 rfl fX9_96 ((hr.1.1).p (by omega)).2.2.1 ((hr.1.1).p (by omega)).1 ((hr.1.1).hi (by omega)) ((hr.1.1).pr (by omega)) ?_
      refine j_iload_n (n := 87) dX9_told_86 rfl rfl ?_
      refine j_iconst (n := 88) (v := nI 2) dX9_told_87 rfl rfl ?_
      refine j_isubN (n := 89) (c := 1) dX9_told_88 rfl (by omega) (by omega) ?_
      refine j_ialdN (n := 90) (L := 3) (a := 17 + 6 + 2 * k) (i := 1) (v := nI (c (10 + 5 * k + 3))) dX9_told_89 rfl ((hr.1.1).pa (by omega)).1 ((hr.1.1).pa (by omega)).2 (by omega) (by decide) (by have := (hr.1.1).lo; omega) ((hr.1.1).hi (by omega)) (cm_r (ix_r (by omega) (by omega) rfl)) ?_
      exact j_ri dX9_told_90 rfl (Nat.le_refl _) (Nat.le_refl _) (by unfold r_told; (try simp only [ek, ew]); (repeat (first | rw [if_pos (by omega)] | rw [if_neg (by omega)])); all_goals first | rfl | (unfold regsP; rfl)) rfl rfl
    · refine j_tabIn (i := 4) (off := 60) (tg := 82) dX9_told_22 (by omega) (by decide) rfl rfl ?_
      obtain rfl : what = nI 4 := int32_eq (by rw [i_N (by decide)]; omega)
      have ew : tN (nI 4) = 4 := tN_nI (by decide)
      have iw : (nI 4).toInt = 4 := i_N (by decide)
      refine j_aload_n (n := 83) dX9_told_82 rfl rfl ?_
      refine j_getr (n := 86) (k := 2) (b := 17 + 6 + 2 * k) dX9_told_83 rfl fX9_96 ((hr.1.1).p (by omega)).2.2.1 ((hr.1.1).p (by omega)).1 ((hr.1.1).hi (by omega)) ((hr.1.1).pr (by omega)) ?_
      refine j_iload_n (n := 87) dX9_told_86 rfl rfl ?_
      refine j_iconst (n := 88) (v := nI 2) dX9_told_87 rfl rfl ?_
      refine j_isubN (n := 89) (c := 2) dX9_told_88 rfl (by omega) (by omega) ?_
      refine j_ialdN (n := 90) (L := 3) (a := 17 + 6 + 2 * k) (i := 2) (v := nI (c (10 + 5 * k + 4))) dX9_told_89 rfl ((hr.1.1).pa (by omega)).1 ((hr.1.1).pa (by omega)).2 (by omega) (by decide) (by have := (hr.1.1).lo; omega) ((hr.1.1).hi (by omega)) (cm_r (ix_r (by omega) (by omega) rfl)) ?_
      exact j_ri dX9_told_90 rfl (Nat.le_refl _) (Nat.le_refl _) (by unfold r_told; (try simp only [ek, ew]); (repeat (first | rw [if_pos (by omega)] | rw [if_neg (by omega)])); all_goals first | rfl | (unfold regsP; rfl)) rfl rfl
    · refine j_tabIn (i := 5) (off := 69) (tg := 91) dX9_told_22 (by omega) (by decide) rfl rfl ?_
      obtain rfl : what = nI 5 := int32_eq (by rw [i_N (by decide)]; omega)
      have ew : tN (nI 5) = 5 := tN_nI (by decide)
      have iw : (nI 5).toInt = 5 := i_N (by decide)
      refine j_aload_n (n := 92) dX9_told_91 rfl rfl ?_
      refine j_iload_n (n := 93) dX9_told_92 rfl rfl ?_
      refine j_iconst (n := 94) (v := nI 5) dX9_told_93 rfl rfl ?_
      refine j_isubN (n := 95) (c := 0) dX9_told_94 rfl (by omega) (by omega) ?_
      refine j_cV (n := 98) dX9_told_95 rfl sX9_99 (c_feelsOf d G _ _ (17 + 5 + 2 * k) ((hr.1.1).p (by omega)) 0 (c (10 + 5 * k + 0)) (c (10 + 5 * k + 2)) (by omega) (cm_r (ix_p (by omega) (by decide) rfl)) (cm_r (ix_r1 (by omega) (by omega) rfl)) (by omega) (by omega)) (by omega) (by decide) rfl rfl (Nat.le_of_ble_eq_true rfl) ((hr.1.1).p (by omega)).2.2.1 ((hr.1.1).p (by omega)).1 ((hr.1.1).hi (by omega)) (by decide) (by decide) ?_
      exact j_ri dX9_told_98 rfl (Nat.le_refl _) (Nat.le_refl _) (by unfold r_told; (try simp only [ek, ew]); (repeat (first | rw [if_pos (by omega)] | rw [if_neg (by omega)])); all_goals first | rfl | (unfold regsP; rfl)) rfl rfl
    · refine j_tabIn (i := 6) (off := 69) (tg := 91) dX9_told_22 (by omega) (by decide) rfl rfl ?_
      obtain rfl : what = nI 6 := int32_eq (by rw [i_N (by decide)]; omega)
      have ew : tN (nI 6) = 6 := tN_nI (by decide)
      have iw : (nI 6).toInt = 6 := i_N (by decide)
      refine j_aload_n (n := 92) dX9_told_91 rfl rfl ?_
      refine j_iload_n (n := 93) dX9_told_92 rfl rfl ?_
      refine j_iconst (n := 94) (v := nI 5) dX9_told_93 rfl rfl ?_
      refine j_isubN (n := 95) (c := 1) dX9_told_94 rfl (by omega) (by omega) ?_
      refine j_cV (n := 98) dX9_told_95 rfl sX9_99 (c_feelsOf d G _ _ (17 + 5 + 2 * k) ((hr.1.1).p (by omega)) 1 (c (10 + 5 * k + 0)) (c (10 + 5 * k + 3)) (by omega) (cm_r (ix_p (by omega) (by decide) rfl)) (cm_r (ix_r1 (by omega) (by omega) rfl)) (by omega) (by omega)) (by omega) (by decide) rfl rfl (Nat.le_of_ble_eq_true rfl) ((hr.1.1).p (by omega)).2.2.1 ((hr.1.1).p (by omega)).1 ((hr.1.1).hi (by omega)) (by decide) (by decide) ?_
      exact j_ri dX9_told_98 rfl (Nat.le_refl _) (Nat.le_refl _) (by unfold r_told; (try simp only [ek, ew]); (repeat (first | rw [if_pos (by omega)] | rw [if_neg (by omega)])); all_goals first | rfl | (unfold regsP; rfl)) rfl rfl
    · refine j_tabIn (i := 7) (off := 69) (tg := 91) dX9_told_22 (by omega) (by decide) rfl rfl ?_
      obtain rfl : what = nI 7 := int32_eq (by rw [i_N (by decide)]; omega)
      have ew : tN (nI 7) = 7 := tN_nI (by decide)
      have iw : (nI 7).toInt = 7 := i_N (by decide)
      refine j_aload_n (n := 92) dX9_told_91 rfl rfl ?_
      refine j_iload_n (n := 93) dX9_told_92 rfl rfl ?_
      refine j_iconst (n := 94) (v := nI 5) dX9_told_93 rfl rfl ?_
      refine j_isubN (n := 95) (c := 2) dX9_told_94 rfl (by omega) (by omega) ?_
      refine j_cV (n := 98) dX9_told_95 rfl sX9_99 (c_feelsOf d G _ _ (17 + 5 + 2 * k) ((hr.1.1).p (by omega)) 2 (c (10 + 5 * k + 0)) (c (10 + 5 * k + 4)) (by omega) (cm_r (ix_p (by omega) (by decide) rfl)) (cm_r (ix_r1 (by omega) (by omega) rfl)) (by omega) (by omega)) (by omega) (by decide) rfl rfl (Nat.le_of_ble_eq_true rfl) ((hr.1.1).p (by omega)).2.2.1 ((hr.1.1).p (by omega)).1 ((hr.1.1).hi (by omega)) (by decide) (by decide) ?_
      exact j_ri dX9_told_98 rfl (Nat.le_refl _) (Nat.le_refl _) (by unfold r_told; (try simp only [ek, ew]); (repeat (first | rw [if_pos (by omega)] | rw [if_neg (by omega)])); all_goals first | rfl | (unfold regsP; rfl)) rfl rfl
    · refine j_tabIn (i := 8) (off := 77) (tg := 99) dX9_told_22 (by omega) (by decide) rfl rfl ?_
      obtain rfl : what = nI 8 := int32_eq (by rw [i_N (by decide)]; omega)
      have ew : tN (nI 8) = 8 := tN_nI (by decide)
      have iw : (nI 8).toInt = 8 := i_N (by decide)
      refine j_aload_n (n := 100) dX9_told_99 rfl rfl ?_
      refine j_cV (n := 103) dX9_told_100 rfl sX9_103 (c_worthP d G _ _ (17 + 5 + 2 * k) ((hr.1.1).p (by omega)) (c (10 + 5 * k + 0)) (by omega) (cm_r (ix_p (by omega) (by decide) rfl)) (c (10 + 5 * k + 2)) (c (10 + 5 * k + 3)) (c (10 + 5 * k + 4)) (cm_r (ix_r1 (by omega) (by omega) rfl)) (cm_r (ix_r1 (by omega) (by omega) rfl)) (cm_r (ix_r1 (by omega) (by omega) rfl)) (by omega)) (by omega) (by decide) rfl rfl (Nat.le_of_ble_eq_true rfl) ((hr.1.1).p (by omega)).2.2.1 ((hr.1.1).p (by omega)).1 ((hr.1.1).hi (by omega)) (by decide) (by decide) ?_
      exact j_ri dX9_told_103 rfl (Nat.le_refl _) (Nat.le_refl _) (by unfold r_told; (try simp only [ek, ew]); (repeat (first | rw [if_pos (by omega)] | rw [if_neg (by omega)])); all_goals first | rfl | (unfold regsP; rfl)) rfl rfl
    · refine j_tabOut (tg := 104) dX9_told_22 (by omega) rfl ?_
      refine j_ldc (n := 106) (v := -1000000001) dX9_told_104 rfl kX9_71 ?_
      exact j_ri dX9_told_106 rfl (Nat.le_refl _) (Nat.le_refl _) (by unfold r_told; (try simp only [ek, ew]); (repeat (first | rw [if_pos (by omega)] | rw [if_neg (by omega)])); all_goals first | rfl | (unfold regsP; rfl)) rfl rfl
  · refine j_ldc (n := 10) (v := -1000000001) dX9_told_8 rfl kX9_71 ?_
    exact j_ri dX9_told_10 rfl (Nat.le_refl _) (Nat.le_refl _) (by unfold r_told; (try simp only [ek, ew]); (repeat (first | rw [if_pos (by omega)] | rw [if_neg (by omega)])); all_goals first | rfl | (unfold regsP; rfl)) rfl rfl
theorem k_as (d : Nat) (G : zG) (M : zMem) (X : zX) (hr : kR X) (c : Nat → Nat) (hG : gOK G) (hw : wfO c) (one kind : Int32) : zCall G miX9_as (d + 1) [.ref 16, .int one, .int kind] (zI (r_as c one kind) (cm M 17 c) X) (cm M 17 c) X 0 0 := by
  refine zCall.of (lv := [some (.ref 16), some (.int one), some (.int kind), none]) (by decide) (Nat.le_of_ble_eq_true rfl) rfl ?_
  have hw0 := hw.1
  refine j_aload_n (n := 1) dX9_as_0 rfl rfl ?_
  refine j_iload_n (n := 2) dX9_as_1 rfl rfl ?_
  refine j_cV (n := 5) dX9_as_2 rfl sX9_87 (k_isOne d G _ _ hr _ (by omega) _) (by omega) (by decide) rfl rfl (Nat.le_of_ble_eq_true rfl) (hr).c (by decide) ((hr).hi (by decide)) (by decide) (by decide) ?_
  refine j_if_eqB (n := 8) (tg := 15) dX9_as_5 rfl rfl (fun h101 => ?_) (fun h101 => ?_)
  · refine j_ldc (n := 17) (v := -1000000001) dX9_as_15 rfl kX9_71 ?_
    exact j_ri dX9_as_17 rfl (Nat.le_refl _) (Nat.le_refl _) (by unfold r_as; (try simp only [ek, ekd]); (repeat (first | rw [if_pos (by omega)] | rw [if_neg (by omega)])); all_goals rfl) rfl rfl
  · refine j_iload_n (n := 9) dX9_as_8 rfl rfl ?_
    refine j_cS (n := 12) dX9_as_9 rfl sX9_61 (k_isKind d G _ _ _) (by omega) (by decide) rfl rfl (Nat.le_of_ble_eq_true rfl) (by decide) (by decide) ?_
    refine j_if_neB (n := 15) (tg := 18) dX9_as_12 rfl rfl (fun h102 => ?_) (fun h102 => ?_)
    · obtain ⟨k, hk_, rfl⟩ := i_of (x := one) (n := c 0) (by omega) (by omega)
      have ek : tN (nI k) = k := tN_nI (by omega)
      have ik : (nI k).toInt = k := i_N (by omega)
      obtain ⟨kd, hkd_, rfl⟩ := i_of (x := kind) (n := 6) (by omega) (by omega)
      have ekd : tN (nI kd) = kd := tN_nI (by omega)
      have ikd : (nI kd).toInt = kd := i_N (by omega)
      have ho := hw.2 k hk_
      refine j_aload_n (n := 19) dX9_as_18 rfl rfl ?_
      refine j_getr (n := 22) (k := 0) (b := 17) dX9_as_19 rfl fX9_10 (hr).c (by decide) ((hr).hi (by decide)) (hr.f (k := 0) rfl (by decide)) ?_
      refine j_getr (n := 25) (k := 0) (b := 18) dX9_as_22 rfl fX9_77 (hr.1.1).c (hr.1.1).lo ((hr.1.1).hi (by omega)) (hr.1.1).r0 ?_
      refine j_iload_n (n := 26) dX9_as_25 rfl rfl ?_
      refine jc_aald (n := 27) (t := 2) (L := 8) (i := k) (b := 17 + 5 + 2 * k) dX9_as_26 rfl ((hr.1.1).a1).1 (by decide) rfl ((hr.1.1).a1).2 (by omega) (by decide) (by have := (hr.1.1).lo; omega) ((hr.1.1).hi (by omega)) ((hr.1.1).e1 (by omega)) ?_
      refine j_astore_n (n := 28) (lv2 := [some (.ref 16), some (.int (nI k)), some (.int (nI kd)), some (.ref (17 + 5 + 2 * k))]) dX9_as_27 rfl rfl (by decide) rfl ?_
      refine j_aload_n (n := 29) dX9_as_28 rfl rfl ?_
      refine jc_get (n := 32) (k := 0) (v := nI (c (10 + 5 * k + 0))) dX9_as_29 rfl fX9_90 ((hr.1.1).p (by omega)).2.2.1 ((hr.1.1).p (by omega)).1 ((hr.1.1).hi (by omega)) (cm_r (ix_p (by omega) (by decide) rfl)) ?_
      refine j_iload_n (n := 33) dX9_as_32 rfl rfl ?_
      refine j_cS (n := 36) dX9_as_33 rfl sX9_107 (c_isOfK d G _ _ hG (c (10 + 5 * k + 0)) kd (by omega) (by omega)) (by omega) (by decide) rfl rfl (Nat.le_of_ble_eq_true rfl) (by decide) (by decide) ?_
      refine j_if_eqB (n := 39) (tg := 46) dX9_as_36 rfl rfl (fun h103 => ?_) (fun h103 => ?_)
      · refine j_ldc (n := 48) (v := -1000000012) dX9_as_46 rfl kX9_113 ?_
        exact j_ri dX9_as_48 rfl (Nat.le_refl _) (Nat.le_refl _) (by unfold r_as; (try simp only [ek, ekd]); (repeat (first | rw [if_pos (by omega)] | rw [if_neg (by omega)])); all_goals rfl) rfl rfl
      · refine j_aload_n (n := 40) dX9_as_39 rfl rfl ?_
        refine jc_get (n := 43) (k := 1) (v := nI (c (10 + 5 * k + 1))) dX9_as_40 rfl fX9_93 ((hr.1.1).p (by omega)).2.2.1 ((hr.1.1).p (by omega)).1 ((hr.1.1).hi (by omega)) (cm_r (ix_p (by omega) (by decide) rfl)) ?_
        refine j_goto (n := 48) dX9_as_43 rfl ?_
        exact j_ri dX9_as_48 rfl (Nat.le_refl _) (Nat.le_refl _) (by unfold r_as; (try simp only [ek, ekd]); (repeat (first | rw [if_pos (by omega)] | rw [if_neg (by omega)])); all_goals rfl) rfl rfl
    · refine j_ldc (n := 17) (v := -1000000001) dX9_as_15 rfl kX9_71 ?_
      exact j_ri dX9_as_17 rfl (Nat.le_refl _) (Nat.le_refl _) (by unfold r_as; (try simp only [ek, ekd]); (repeat (first | rw [if_pos (by omega)] | rw [if_neg (by omega)])); all_goals rfl) rfl rfl
theorem k_turns (d : Nat) (G : zG) (M : zMem) (X : zX) (hr : kR X) (c : Nat → Nat) (hn : c 0 ≤ 8) (one kind : Int32) : zCall G miX9_turns (d + 1) [.ref 16, .int one, .int kind] (zI (r_turns c one kind) (cm M 17 (q_turns c one kind)) X) (cm M 17 c) X 0 0 := by
  refine zCall.of (lv := [some (.ref 16), some (.int one), some (.int kind), none]) (by decide) (Nat.le_of_ble_eq_true rfl) rfl ?_
  refine j_aload_n (n := 1) dX9_turns_0 rfl rfl ?_
  refine j_iload_n (n := 2) dX9_turns_1 rfl rfl ?_
  refine j_cV (n := 5) dX9_turns_2 rfl sX9_87 (k_isOne d G _ _ hr _ (by omega) _) (by omega) (by decide) rfl rfl (Nat.le_of_ble_eq_true rfl) (hr).c (by decide) ((hr).hi (by decide)) (by decide) (by decide) ?_
  refine j_if_eqB (n := 8) (tg := 15) dX9_turns_5 rfl rfl (fun h101 => ?_) (fun h101 => ?_)
  · refine j_ldc (n := 17) (v := -1000000001) dX9_turns_15 rfl kX9_71 ?_
    exact j_ri dX9_turns_17 rfl (Nat.le_refl _) (Nat.le_refl _) (by unfold r_turns; (try simp only [ek, ekd]); (repeat (first | rw [if_pos (by omega)] | rw [if_neg (by omega)])); all_goals rfl) (by unfold q_turns; (try simp only [ek, ekd]); (repeat (first | rw [if_pos (by omega)] | rw [if_neg (by omega)])); all_goals rfl) rfl
  · refine j_iload_n (n := 9) dX9_turns_8 rfl rfl ?_
    refine j_cS (n := 12) dX9_turns_9 rfl sX9_61 (k_isKind d G _ _ _) (by omega) (by decide) rfl rfl (Nat.le_of_ble_eq_true rfl) (by decide) (by decide) ?_
    refine j_if_neB (n := 15) (tg := 18) dX9_turns_12 rfl rfl (fun h102 => ?_) (fun h102 => ?_)
    · obtain ⟨k, hk_, rfl⟩ := i_of (x := one) (n := c 0) (by omega) (by omega)
      have ek : tN (nI k) = k := tN_nI (by omega)
      have ik : (nI k).toInt = k := i_N (by omega)
      obtain ⟨kd, hkd_, rfl⟩ := i_of (x := kind) (n := 6) (by omega) (by omega)
      have ekd : tN (nI kd) = kd := tN_nI (by omega)
      have ikd : (nI kd).toInt = kd := i_N (by omega)
      refine j_aload_n (n := 19) dX9_turns_18 rfl rfl ?_
      refine j_getr (n := 22) (k := 0) (b := 17) dX9_turns_19 rfl fX9_10 (hr).c (by decide) ((hr).hi (by decide)) (hr.f (k := 0) rfl (by decide)) ?_
      refine j_getr (n := 25) (k := 0) (b := 18) dX9_turns_22 rfl fX9_77 (hr.1.1).c (hr.1.1).lo ((hr.1.1).hi (by omega)) (hr.1.1).r0 ?_
      refine j_iload_n (n := 26) dX9_turns_25 rfl rfl ?_
      refine jc_aald (n := 27) (t := 2) (L := 8) (i := k) (b := 17 + 5 + 2 * k) dX9_turns_26 rfl ((hr.1.1).a1).1 (by decide) rfl ((hr.1.1).a1).2 (by omega) (by decide) (by have := (hr.1.1).lo; omega) ((hr.1.1).hi (by omega)) ((hr.1.1).e1 (by omega)) ?_
      refine jc_get (n := 30) (k := 0) (v := nI (c (10 + 5 * k + 0))) dX9_turns_27 rfl fX9_90 ((hr.1.1).p (by omega)).2.2.1 ((hr.1.1).p (by omega)).1 ((hr.1.1).hi (by omega)) (cm_r (ix_p (by omega) (by decide) rfl)) ?_
      refine j_istore_n (n := 31) (lv2 := [some (.ref 16), some (.int (nI k)), some (.int (nI kd)), some (.int (nI (c (10 + 5 * k + 0))))]) dX9_turns_30 rfl rfl (by decide) rfl ?_
      refine j_aload_n (n := 32) dX9_turns_31 rfl rfl ?_
      refine j_getr (n := 35) (k := 0) (b := 17) dX9_turns_32 rfl fX9_10 (hr).c (by decide) ((hr).hi (by decide)) (hr.f (k := 0) rfl (by decide)) ?_
      refine j_getr (n := 38) (k := 0) (b := 18) dX9_turns_35 rfl fX9_77 (hr.1.1).c (hr.1.1).lo ((hr.1.1).hi (by omega)) (hr.1.1).r0 ?_
      refine j_iload_n (n := 39) dX9_turns_38 rfl rfl ?_
      refine jc_aald (n := 40) (t := 2) (L := 8) (i := k) (b := 17 + 5 + 2 * k) dX9_turns_39 rfl ((hr.1.1).a1).1 (by decide) rfl ((hr.1.1).a1).2 (by omega) (by decide) (by have := (hr.1.1).lo; omega) ((hr.1.1).hi (by omega)) ((hr.1.1).e1 (by omega)) ?_
      refine j_iload_n (n := 41) dX9_turns_40 rfl rfl ?_
      refine jc_put (n := 44) (k := 0) (x := nI kd) (M2 := cm M 17 (pu c (10 + 5 * k + 0) kd)) dX9_turns_41 rfl pX9_90 (fun h => by cases h) rfl rfl ((hr.1.1).p (by omega)).2.2.1 ((hr.1.1).p (by omega)).1 ((hr.1.1).hi (by omega)) (cm_w (ix_p (by omega) (by decide) rfl) _) ?_
      refine j_iload_n (n := 45) dX9_turns_44 rfl rfl ?_
      exact j_ri dX9_turns_45 rfl (Nat.le_refl _) (Nat.le_refl _) (by unfold r_turns; (try simp only [ek, ekd]); (repeat (first | rw [if_pos (by omega)] | rw [if_neg (by omega)])); all_goals rfl) (by unfold q_turns; (try simp only [ek, ekd]); (repeat (first | rw [if_pos (by omega)] | rw [if_neg (by omega)])); all_goals rfl) rfl
    · refine j_ldc (n := 17) (v := -1000000001) dX9_turns_15 rfl kX9_71 ?_
      exact j_ri dX9_turns_17 rfl (Nat.le_refl _) (Nat.le_refl _) (by unfold r_turns; (try simp only [ek, ekd]); (repeat (first | rw [if_pos (by omega)] | rw [if_neg (by omega)])); all_goals rfl) (by unfold q_turns; (try simp only [ek, ekd]); (repeat (first | rw [if_pos (by omega)] | rw [if_neg (by omega)])); all_goals rfl) rfl
theorem k_set (d : Nat) (G : zG) (M : zMem) (X : zX) (hr : kR X) (c : Nat → Nat) (hn : c 0 ≤ 8) (one what v : Int32) : zCall G miX9_set (d + 1) [.ref 16, .int one, .int what, .int v] (zI (r_set c one what v) (cm M 17 (q_set c one what v)) X) (cm M 17 c) X 0 0 := by
  refine zCall.of (lv := [some (.ref 16), some (.int one), some (.int what), some (.int v), none, none]) (by decide) (Nat.le_of_ble_eq_true rfl) rfl ?_
  refine j_aload_n (n := 1) dX9_set_0 rfl rfl ?_
  refine j_iload_n (n := 2) dX9_set_1 rfl rfl ?_
  refine j_cV (n := 5) dX9_set_2 rfl sX9_87 (k_isOne d G _ _ hr _ (by omega) _) (by omega) (by decide) rfl rfl (Nat.le_of_ble_eq_true rfl) (hr).c (by decide) ((hr).hi (by decide)) (by decide) (by decide) ?_
  refine j_if_eqB (n := 8) (tg := 18) dX9_set_5 rfl rfl (fun h101 => ?_) (fun h101 => ?_)
  · refine j_ldc (n := 20) (v := -1000000001) dX9_set_18 rfl kX9_71 ?_
    exact j_ri dX9_set_20 rfl (Nat.le_refl _) (Nat.le_refl _) (by unfold r_set; (try simp only [ek, ew, ex]); (repeat (first | rw [if_pos (by omega)] | rw [if_neg (by omega)])); all_goals rfl) (by unfold q_set; (try simp only [ek, ew, ex]); (repeat (first | rw [if_pos (by omega)] | rw [if_neg (by omega)])); all_goals rfl) rfl
  · refine j_iload_n (n := 9) dX9_set_8 rfl rfl ?_
    refine j_iconst (n := 10) (v := nI 1) dX9_set_9 rfl rfl ?_
    refine j_icmp_ltT (n := 13) (tg := 18) dX9_set_10 rfl rfl rfl (i_N (by omega)) (fun h102 => ?_) (fun h102 => ?_)
    · refine j_ldc (n := 20) (v := -1000000001) dX9_set_18 rfl kX9_71 ?_
      exact j_ri dX9_set_20 rfl (Nat.le_refl _) (Nat.le_refl _) (by unfold r_set; (try simp only [ek, ew, ex]); (repeat (first | rw [if_pos (by omega)] | rw [if_neg (by omega)])); all_goals rfl) (by unfold q_set; (try simp only [ek, ew, ex]); (repeat (first | rw [if_pos (by omega)] | rw [if_neg (by omega)])); all_goals rfl) rfl
    · refine j_iload_n (n := 14) dX9_set_13 rfl rfl ?_
      refine j_iconst (n := 15) (v := nI 4) dX9_set_14 rfl rfl ?_
      refine j_icmp_leT (n := 18) (tg := 21) dX9_set_15 rfl rfl rfl (i_N (by omega)) (fun h103 => ?_) (fun h103 => ?_)
      · obtain ⟨k, hk_, rfl⟩ := i_of (x := one) (n := c 0) (by omega) (by omega)
        have ek : tN (nI k) = k := tN_nI (by omega)
        have ik : (nI k).toInt = k := i_N (by omega)
        refine j_aload_n (n := 22) dX9_set_21 rfl rfl ?_
        refine j_getr (n := 25) (k := 0) (b := 17) dX9_set_22 rfl fX9_10 (hr).c (by decide) ((hr).hi (by decide)) (hr.f (k := 0) rfl (by decide)) ?_
        refine j_getr (n := 28) (k := 0) (b := 18) dX9_set_25 rfl fX9_77 (hr.1.1).c (hr.1.1).lo ((hr.1.1).hi (by omega)) (hr.1.1).r0 ?_
        refine j_iload_n (n := 29) dX9_set_28 rfl rfl ?_
        refine jc_aald (n := 30) (t := 2) (L := 8) (i := k) (b := 17 + 5 + 2 * k) dX9_set_29 rfl ((hr.1.1).a1).1 (by decide) rfl ((hr.1.1).a1).2 (by omega) (by decide) (by have := (hr.1.1).lo; omega) ((hr.1.1).hi (by omega)) ((hr.1.1).e1 (by omega)) ?_
        refine j_astore (n := 32) (lv2 := [some (.ref 16), some (.int (nI k)), some (.int what), some (.int v), some (.ref (17 + 5 + 2 * k)), none]) dX9_set_30 rfl rfl (by decide) rfl ?_
        refine j_iload_n (n := 33) dX9_set_32 rfl rfl ?_
        refine j_iconst (n := 34) (v := nI 1) dX9_set_33 rfl rfl ?_
        refine j_icmp_neT (n := 37) (tg := 63) dX9_set_34 rfl rfl rfl (i_N (by omega)) (fun h104 => ?_) (fun h104 => ?_)
        · obtain ⟨w0, hw0_, rfl⟩ := i_of (x := what) (n := 5) (by omega) (by omega)
          have iw0 : (nI w0).toInt = w0 := i_N (by omega)
          obtain ⟨u, rfl⟩ : ∃ u, w0 = 2 + u := ⟨w0 - 2, by omega⟩
          have ew : tN (nI (2 + u)) = 2 + u := tN_nI (by omega)
          have iw : (nI (2 + u)).toInt = ((2 + u : Nat) : Int) := i_N (by omega)
          refine j_iload_n (n := 64) dX9_set_63 rfl rfl ?_
          refine j_cS (n := 67) dX9_set_64 rfl sX9_68 (k_isRegret d G _ _ _) (by omega) (by decide) rfl rfl (Nat.le_of_ble_eq_true rfl) (by decide) (by decide) ?_
          refine j_if_neB (n := 70) (tg := 73) dX9_set_67 rfl rfl (fun h105 => ?_) (fun h105 => ?_)
          · obtain ⟨x, hx_, rfl⟩ := i_of (x := v) (n := 100) (by omega) (by omega)
            have ex : tN (nI x) = x := tN_nI (by omega)
            have ix : (nI x).toInt = x := i_N (by omega)
            refine j_aload (n := 75) dX9_set_73 rfl rfl ?_
            refine j_getr (n := 78) (k := 2) (b := 17 + 6 + 2 * k) dX9_set_75 rfl fX9_96 ((hr.1.1).p (by omega)).2.2.1 ((hr.1.1).p (by omega)).1 ((hr.1.1).hi (by omega)) ((hr.1.1).pr (by omega)) ?_
            refine j_iload_n (n := 79) dX9_set_78 rfl rfl ?_
            refine j_iconst (n := 80) (v := nI 2) dX9_set_79 rfl rfl ?_
            refine j_isubN (n := 81) (c := u) dX9_set_80 rfl (by omega) (by omega) ?_
            refine j_ialdN (n := 82) (L := 3) (a := 17 + 6 + 2 * k) (i := u) (v := nI (c (10 + 5 * k + (2 + u)))) dX9_set_81 rfl ((hr.1.1).pa (by omega)).1 ((hr.1.1).pa (by omega)).2 (by omega) (by decide) (by have := (hr.1.1).lo; omega) ((hr.1.1).hi (by omega)) (cm_r (ix_r (by omega) (by omega) rfl)) ?_
            refine j_istore (n := 84) (lv2 := [some (.ref 16), some (.int (nI k)), some (.int (nI (2 + u))), some (.int (nI x)), some (.ref (17 + 5 + 2 * k)), some (.int (nI (c (10 + 5 * k + (2 + u)))))]) dX9_set_82 rfl rfl (by decide) rfl ?_
            refine j_aload (n := 86) dX9_set_84 rfl rfl ?_
            refine j_getr (n := 89) (k := 2) (b := 17 + 6 + 2 * k) dX9_set_86 rfl fX9_96 ((hr.1.1).p (by omega)).2.2.1 ((hr.1.1).p (by omega)).1 ((hr.1.1).hi (by omega)) ((hr.1.1).pr (by omega)) ?_
            refine j_iload_n (n := 90) dX9_set_89 rfl rfl ?_
            refine j_iconst (n := 91) (v := nI 2) dX9_set_90 rfl rfl ?_
            refine j_isubN (n := 92) (c := u) dX9_set_91 rfl (by omega) (by omega) ?_
            refine j_iload_n (n := 93) dX9_set_92 rfl rfl ?_
            refine j_iastN (n := 94) (L := 3) (a := 17 + 6 + 2 * k) (i := u) (x := nI x) (M2 := cm M 17 (pu c (10 + 5 * k + (2 + u)) x)) dX9_set_93 rfl ((hr.1.1).pa (by omega)).1 ((hr.1.1).pa (by omega)).2 (by omega) (by decide) (by have := (hr.1.1).lo; omega) ((hr.1.1).hi (by omega)) (cm_w (ix_r (by omega) (by omega) rfl) _) ?_
            refine j_iload (n := 96) dX9_set_94 rfl rfl ?_
            exact j_ri dX9_set_96 rfl (Nat.le_refl _) (Nat.le_refl _) (by unfold r_set; (try simp only [ek, ew, ex]); (repeat (first | rw [if_pos (by omega)] | rw [if_neg (by omega)])); all_goals rfl) (by unfold q_set; (try simp only [ek, ew, ex]); (repeat (first | rw [if_pos (by omega)] | rw [if_neg (by omega)])); all_goals rfl) rfl
          · refine j_ldc (n := 72) (v := -1000000001) dX9_set_70 rfl kX9_71 ?_
            exact j_ri dX9_set_72 rfl (Nat.le_refl _) (Nat.le_refl _) (by unfold r_set; (try simp only [ek, ew, ex]); (repeat (first | rw [if_pos (by omega)] | rw [if_neg (by omega)])); all_goals rfl) (by unfold q_set; (try simp only [ek, ew, ex]); (repeat (first | rw [if_pos (by omega)] | rw [if_neg (by omega)])); all_goals rfl) rfl
        · obtain rfl : what = nI 1 := int32_eq (by rw [i_N (by decide)]; omega)
          have ew : tN (nI 1) = 1 := tN_nI (by decide)
          have iw : (nI 1).toInt = 1 := i_N (by decide)
          refine j_iload_n (n := 38) dX9_set_37 rfl rfl ?_
          refine j_cS (n := 41) dX9_set_38 rfl sX9_65 (k_isRoom d G _ _ _) (by omega) (by decide) rfl rfl (Nat.le_of_ble_eq_true rfl) (by decide) (by decide) ?_
          refine j_if_neB (n := 44) (tg := 47) dX9_set_41 rfl rfl (fun h106 => ?_) (fun h106 => ?_)
          · obtain ⟨x, hx_, rfl⟩ := i_of (x := v) (n := 8) (by omega) (by omega)
            have ex : tN (nI x) = x := tN_nI (by omega)
            have ix : (nI x).toInt = x := i_N (by omega)
            refine j_aload (n := 49) dX9_set_47 rfl rfl ?_
            refine jc_get (n := 52) (k := 1) (v := nI (c (10 + 5 * k + 1))) dX9_set_49 rfl fX9_93 ((hr.1.1).p (by omega)).2.2.1 ((hr.1.1).p (by omega)).1 ((hr.1.1).hi (by omega)) (cm_r (ix_p (by omega) (by decide) rfl)) ?_
            refine j_istore (n := 54) (lv2 := [some (.ref 16), some (.int (nI k)), some (.int (nI 1)), some (.int (nI x)), some (.ref (17 + 5 + 2 * k)), some (.int (nI (c (10 + 5 * k + 1))))]) dX9_set_52 rfl rfl (by decide) rfl ?_
            refine j_aload (n := 56) dX9_set_54 rfl rfl ?_
            refine j_iload_n (n := 57) dX9_set_56 rfl rfl ?_
            refine jc_put (n := 60) (k := 1) (x := nI x) (M2 := cm M 17 (pu c (10 + 5 * k + 1) x)) dX9_set_57 rfl pX9_93 (fun h => by cases h) rfl rfl ((hr.1.1).p (by omega)).2.2.1 ((hr.1.1).p (by omega)).1 ((hr.1.1).hi (by omega)) (cm_w (ix_p (by omega) (by decide) rfl) _) ?_
            refine j_iload (n := 62) dX9_set_60 rfl rfl ?_
            exact j_ri dX9_set_62 rfl (Nat.le_refl _) (Nat.le_refl _) (by unfold r_set; (try simp only [ek, ew, ex]); (repeat (first | rw [if_pos (by omega)] | rw [if_neg (by omega)])); all_goals rfl) (by unfold q_set; (try simp only [ek, ew, ex]); (repeat (first | rw [if_pos (by omega)] | rw [if_neg (by omega)])); all_goals rfl) rfl
          · refine j_ldc (n := 46) (v := -1000000001) dX9_set_44 rfl kX9_71 ?_
            exact j_ri dX9_set_46 rfl (Nat.le_refl _) (Nat.le_refl _) (by unfold r_set; (try simp only [ek, ew, ex]); (repeat (first | rw [if_pos (by omega)] | rw [if_neg (by omega)])); all_goals rfl) (by unfold q_set; (try simp only [ek, ew, ex]); (repeat (first | rw [if_pos (by omega)] | rw [if_neg (by omega)])); all_goals rfl) rfl
      · refine j_ldc (n := 20) (v := -1000000001) dX9_set_18 rfl kX9_71 ?_
        exact j_ri dX9_set_20 rfl (Nat.le_refl _) (Nat.le_refl _) (by unfold r_set; (try simp only [ek, ew, ex]); (repeat (first | rw [if_pos (by omega)] | rw [if_neg (by omega)])); all_goals rfl) (by unfold q_set; (try simp only [ek, ew, ex]); (repeat (first | rw [if_pos (by omega)] | rw [if_neg (by omega)])); all_goals rfl) rfl
theorem k_lock (d : Nat) (G : zG) (M : zMem) (X : zX) (hr : kR X) (c : Nat → Nat) (hn : c 8 ≤ 10) (a b e f : Int32) : zCall G miX9_lock (d + 1) [.ref 16, .int a, .int b, .int e, .int f] (zI (r_lock c a b e f) (cm M 17 (q_lock c a b e f)) X) (cm M 17 c) X 0 0 := by
  refine zCall.of (lv := [some (.ref 16), some (.int a), some (.int b), some (.int e), some (.int f)]) (by decide) (Nat.le_of_ble_eq_true rfl) rfl ?_
  refine j_iload_n (n := 1) dX9_lock_0 rfl rfl ?_
  refine j_cS (n := 4) dX9_lock_1 rfl sX9_65 (k_isRoom d G _ _ _) (by omega) (by decide) rfl rfl (Nat.le_of_ble_eq_true rfl) (by decide) (by decide) ?_
  refine j_if_eqB (n := 7) (tg := 29) dX9_lock_4 rfl rfl (fun h101 => ?_) (fun h101 => ?_)
  · refine j_ldc (n := 31) (v := -1000000001) dX9_lock_29 rfl kX9_71 ?_
    exact j_ri dX9_lock_31 rfl (Nat.le_refl _) (Nat.le_refl _) (by unfold r_lock; (repeat (first | rw [if_pos (by omega)] | rw [if_neg (by omega)])); all_goals rfl) (by unfold q_lock; (try simp only [ea0, eb0, ec0, ee0]); (repeat (first | rw [if_pos (by omega)] | rw [if_neg (by omega)])); all_goals rfl) rfl
  · refine j_iload_n (n := 8) dX9_lock_7 rfl rfl ?_
    refine j_cS (n := 11) dX9_lock_8 rfl sX9_65 (k_isRoom d G _ _ _) (by omega) (by decide) rfl rfl (Nat.le_of_ble_eq_true rfl) (by decide) (by decide) ?_
    refine j_if_eqB (n := 14) (tg := 29) dX9_lock_11 rfl rfl (fun h102 => ?_) (fun h102 => ?_)
    · refine j_ldc (n := 31) (v := -1000000001) dX9_lock_29 rfl kX9_71 ?_
      exact j_ri dX9_lock_31 rfl (Nat.le_refl _) (Nat.le_refl _) (by unfold r_lock; (repeat (first | rw [if_pos (by omega)] | rw [if_neg (by omega)])); all_goals rfl) (by unfold q_lock; (try simp only [ea0, eb0, ec0, ee0]); (repeat (first | rw [if_pos (by omega)] | rw [if_neg (by omega)])); all_goals rfl) rfl
    · refine j_iload_n (n := 15) dX9_lock_14 rfl rfl ?_
      refine j_cS (n := 18) dX9_lock_15 rfl sX9_114 (k_isSort d G _ _ _) (by omega) (by decide) rfl rfl (Nat.le_of_ble_eq_true rfl) (by decide) (by decide) ?_
      refine j_if_eqB (n := 21) (tg := 29) dX9_lock_18 rfl rfl (fun h103 => ?_) (fun h103 => ?_)
      · refine j_ldc (n := 31) (v := -1000000001) dX9_lock_29 rfl kX9_71 ?_
        exact j_ri dX9_lock_31 rfl (Nat.le_refl _) (Nat.le_refl _) (by unfold r_lock; (repeat (first | rw [if_pos (by omega)] | rw [if_neg (by omega)])); all_goals rfl) (by unfold q_lock; (try simp only [ea0, eb0, ec0, ee0]); (repeat (first | rw [if_pos (by omega)] | rw [if_neg (by omega)])); all_goals rfl) rfl
      · refine j_iload (n := 23) dX9_lock_21 rfl rfl ?_
        refine j_cS (n := 26) dX9_lock_23 rfl sX9_117 (k_isSet d G _ _ _) (by omega) (by decide) rfl rfl (Nat.le_of_ble_eq_true rfl) (by decide) (by decide) ?_
        refine j_if_neB (n := 29) (tg := 32) dX9_lock_26 rfl rfl (fun h104 => ?_) (fun h104 => ?_)
        · obtain ⟨a0, ha0_, rfl⟩ := i_of (x := a) (n := 8) (by omega) (by omega)
          have ea0 : tN (nI a0) = a0 := tN_nI (by omega)
          have ia0 : (nI a0).toInt = a0 := i_N (by omega)
          obtain ⟨b0, hb0_, rfl⟩ := i_of (x := b) (n := 8) (by omega) (by omega)
          have eb0 : tN (nI b0) = b0 := tN_nI (by omega)
          have ib0 : (nI b0).toInt = b0 := i_N (by omega)
          obtain ⟨c0, hc0_, rfl⟩ := i_of (x := e) (n := 3) (by omega) (by omega)
          have ec0 : tN (nI c0) = c0 := tN_nI (by omega)
          have ic0 : (nI c0).toInt = c0 := i_N (by omega)
          obtain ⟨e0, he0_, rfl⟩ := i_of (x := f) (n := 100) (by omega) (by omega)
          have ee0 : tN (nI e0) = e0 := tN_nI (by omega)
          have ie0 : (nI e0).toInt = e0 := i_N (by omega)
          refine j_aload_n (n := 33) dX9_lock_32 rfl rfl ?_
          refine j_getr (n := 36) (k := 0) (b := 17) dX9_lock_33 rfl fX9_10 (hr).c (by decide) ((hr).hi (by decide)) (hr.f (k := 0) rfl (by decide)) ?_
          refine jc_get (n := 39) (k := 3) (v := nI (c 8)) dX9_lock_36 rfl fX9_120 (hr.1.1).c (hr.1.1).lo ((hr.1.1).hi (by omega)) (cm_r (ix_t rfl)) ?_
          refine j_bipush (n := 41) (v := nI 10) dX9_lock_39 rfl (by decide) ?_
          refine j_icmp_ltT (n := 44) (tg := 47) dX9_lock_41 rfl rfl (i_N (by omega)) (i_N (by omega)) (fun h105 => ?_) (fun h105 => ?_)
          · refine j_aload_n (n := 48) dX9_lock_47 rfl rfl ?_
            refine j_getr (n := 51) (k := 0) (b := 17) dX9_lock_48 rfl fX9_10 (hr).c (by decide) ((hr).hi (by decide)) (hr.f (k := 0) rfl (by decide)) ?_
            refine j_getr (n := 54) (k := 2) (b := 19) dX9_lock_51 rfl fX9_123 (hr.1.1).c (hr.1.1).lo ((hr.1.1).hi (by omega)) (hr.1.1).r2 ?_
            refine j_aload_n (n := 55) dX9_lock_54 rfl rfl ?_
            refine j_getr (n := 58) (k := 0) (b := 17) dX9_lock_55 rfl fX9_10 (hr).c (by decide) ((hr).hi (by decide)) (hr.f (k := 0) rfl (by decide)) ?_
            refine jc_get (n := 61) (k := 3) (v := nI (c 8)) dX9_lock_58 rfl fX9_120 (hr.1.1).c (hr.1.1).lo ((hr.1.1).hi (by omega)) (cm_r (ix_t rfl)) ?_
            refine jc_aald (n := 62) (t := 3) (L := 10) (i := c 8) (b := 17 + 21 + (c 8)) dX9_lock_61 rfl ((hr.1.1).a2).1 (by decide) rfl ((hr.1.1).a2).2 (by omega) (by decide) (by have := (hr.1.1).lo; omega) ((hr.1.1).hi (by omega)) ((hr.1.1).e2 (by omega)) ?_
            refine j_iload_n (n := 63) dX9_lock_62 rfl rfl ?_
            refine j_iload_n (n := 64) dX9_lock_63 rfl rfl ?_
            refine j_iload_n (n := 65) dX9_lock_64 rfl rfl ?_
            refine j_iload (n := 67) dX9_lock_65 rfl rfl ?_
            refine j_cVv (n := 70) dX9_lock_67 rfl sX9_127 (c_becomeL d G _ _ (17 + 21 + (c 8)) ⟨((hr.1.1).l (by omega)), (by have := (hr.1.1).lo; omega), ((hr.1.1).hi (by omega))⟩ (nI a0) (nI b0) (nI c0) (nI e0)) (by omega) (by decide) rfl rfl (Nat.le_of_ble_eq_true rfl) ((hr.1.1).l (by omega)) (by have := (hr.1.1).lo; omega) ((hr.1.1).hi (by omega)) (by decide) (by decide) ?_
            refine j_mem (M2 := cm M 17 (pu (pu (pu (pu (pu c (50 + 5 * (c 8) + 0) a0) (50 + 5 * (c 8) + 1) b0) (50 + 5 * (c 8) + 2) c0) (50 + 5 * (c 8) + 3) e0) (50 + 5 * (c 8) + 4) 0)) (cm_bl (by omega)) ?_
            refine j_aload_n (n := 71) dX9_lock_70 rfl rfl ?_
            refine j_getr (n := 74) (k := 0) (b := 17) dX9_lock_71 rfl fX9_10 (hr).c (by decide) ((hr).hi (by decide)) (hr.f (k := 0) rfl (by decide)) ?_
            refine j_dup (n := 75) dX9_lock_74 rfl rfl ?_
            refine jc_get (n := 78) (k := 3) (v := nI (c 8)) dX9_lock_75 rfl fX9_120 (hr.1.1).c (hr.1.1).lo ((hr.1.1).hi (by omega)) ((cm_r (ix_t rfl)).trans (congrArg nI (by repeat (first | rw [pu_eq] | rw [pu_ne _ _ (by omega)] | rw [drawZ_ne _ (by omega)])))) ?_
            refine j_dup_x1 (n := 79) dX9_lock_78 rfl rfl rfl ?_
            refine j_iconst (n := 80) (v := nI 1) dX9_lock_79 rfl rfl ?_
            refine j_iaddN (n := 81) (c := c 8 + 1) dX9_lock_80 rfl rfl ?_
            refine jc_put (n := 84) (k := 3) (x := nI (c 8 + 1)) (M2 := cm M 17 (pu (pu (pu (pu (pu (pu c (50 + 5 * (c 8) + 0) a0) (50 + 5 * (c 8) + 1) b0) (50 + 5 * (c 8) + 2) c0) (50 + 5 * (c 8) + 3) e0) (50 + 5 * (c 8) + 4) 0) 8 (c 8 + 1))) dX9_lock_81 rfl pX9_120 (fun h => by cases h) rfl rfl (hr.1.1).c (hr.1.1).lo ((hr.1.1).hi (by omega)) (cm_w (ix_t rfl) _) ?_
            exact j_ri dX9_lock_84 rfl (Nat.le_refl _) (Nat.le_refl _) (by unfold r_lock; (repeat (first | rw [if_pos (by omega)] | rw [if_neg (by omega)])); all_goals rfl) (by unfold q_lock; (try simp only [ea0, eb0, ec0, ee0]); (repeat (first | rw [if_pos (by omega)] | rw [if_neg (by omega)])); all_goals rfl) rfl
          · refine j_ldc (n := 46) (v := -1000000003) dX9_lock_44 rfl kX9_76 ?_
            exact j_ri dX9_lock_46 rfl (Nat.le_refl _) (Nat.le_refl _) (by unfold r_lock; (repeat (first | rw [if_pos (by omega)] | rw [if_neg (by omega)])); all_goals rfl) (by unfold q_lock; (try simp only [ea0, eb0, ec0, ee0]); (repeat (first | rw [if_pos (by omega)] | rw [if_neg (by omega)])); all_goals rfl) rfl
        · refine j_ldc (n := 31) (v := -1000000001) dX9_lock_29 rfl kX9_71 ?_
          exact j_ri dX9_lock_31 rfl (Nat.le_refl _) (Nat.le_refl _) (by unfold r_lock; (repeat (first | rw [if_pos (by omega)] | rw [if_neg (by omega)])); all_goals rfl) (by unfold q_lock; (try simp only [ea0, eb0, ec0, ee0]); (repeat (first | rw [if_pos (by omega)] | rw [if_neg (by omega)])); all_goals rfl) rfl
theorem k_about (d : Nat) (G : zG) (M : zMem) (X : zX) (hr : kR X) (c : Nat → Nat) (hw : wfO c) (hwl : wfL c) (lock what : Int32) : zCall G miX9_about (d + 4) [.ref 16, .int lock, .int what] (zI (r_about c lock what) (cm M 17 c) X) (cm M 17 c) X 0 0 := by
  refine zCall.of (lv := [some (.ref 16), some (.int lock), some (.int what), none]) (by decide) (Nat.le_of_ble_eq_true rfl) rfl ?_
  have hw0 := hw.1
  have hw1 := hwl.1
  refine j_aload_n (n := 1) dX9_about_0 rfl rfl ?_
  refine j_iload_n (n := 2) dX9_about_1 rfl rfl ?_
  refine j_cV (n := 5) dX9_about_2 rfl sX9_132 (k_isLock (d + 3) G _ _ hr _ (by omega) _) (by omega) (by decide) rfl rfl (Nat.le_of_ble_eq_true rfl) (hr).c (by decide) ((hr).hi (by decide)) (by decide) (by decide) ?_
  refine j_if_neB (n := 8) (tg := 11) dX9_about_5 rfl rfl (fun h101 => ?_) (fun h101 => ?_)
  · obtain ⟨l, hl_, rfl⟩ := i_of (x := lock) (n := c 8) (by omega) (by omega)
    have el : tN (nI l) = l := tN_nI (by omega)
    have il : (nI l).toInt = l := i_N (by omega)
    have hl := hwl.2 l hl_
    refine j_aload_n (n := 12) dX9_about_11 rfl rfl ?_
    refine j_getr (n := 15) (k := 0) (b := 17) dX9_about_12 rfl fX9_10 (hr).c (by decide) ((hr).hi (by decide)) (hr.f (k := 0) rfl (by decide)) ?_
    refine j_getr (n := 18) (k := 2) (b := 19) dX9_about_15 rfl fX9_123 (hr.1.1).c (hr.1.1).lo ((hr.1.1).hi (by omega)) (hr.1.1).r2 ?_
    refine j_iload_n (n := 19) dX9_about_18 rfl rfl ?_
    refine jc_aald (n := 20) (t := 3) (L := 10) (i := l) (b := 17 + 21 + l) dX9_about_19 rfl ((hr.1.1).a2).1 (by decide) rfl ((hr.1.1).a2).2 (by omega) (by decide) (by have := (hr.1.1).lo; omega) ((hr.1.1).hi (by omega)) ((hr.1.1).e2 (by omega)) ?_
    refine j_astore_n (n := 21) (lv2 := [some (.ref 16), some (.int (nI l)), some (.int what), some (.ref (17 + 21 + l))]) dX9_about_20 rfl rfl (by decide) rfl ?_
    refine j_iload_n (n := 22) dX9_about_21 rfl rfl ?_
    have hs102 : (what).toInt = 0 ∨ (what).toInt = 1 ∨ (what).toInt = 2 ∨ (what).toInt = 3 ∨ (what).toInt = 4 ∨ (what).toInt = 5 ∨ ((what).toInt < 0 ∨ 5 < (what).toInt) := by omega
    rcases hs102 with hs102 | hs102 | hs102 | hs102 | hs102 | hs102 | hs102
    · refine j_tabIn (i := 0) (off := 38) (tg := 60) dX9_about_22 (by omega) (by decide) rfl rfl ?_
      obtain rfl : what = nI 0 := int32_eq (by rw [i_N (by decide)]; omega)
      have ew : tN (nI 0) = 0 := tN_nI (by decide)
      have iw : (nI 0).toInt = 0 := i_N (by decide)
      refine j_aload_n (n := 61) dX9_about_60 rfl rfl ?_
      refine jc_get (n := 64) (k := 0) (v := nI (c (50 + 5 * l + 0))) dX9_about_61 rfl fX9_135 ((hr.1.1).l (by omega)) (by have := (hr.1.1).lo; omega) ((hr.1.1).hi (by omega)) (cm_r (ix_l (by omega) (by decide) rfl)) ?_
      exact j_ri dX9_about_64 rfl (Nat.le_refl _) (Nat.le_refl _) (by unfold r_about; (try simp only [el, ew]); (repeat (first | rw [if_pos (by omega)] | rw [if_neg (by omega)])); all_goals first | rfl | exact congrArg nI (by omega)) rfl rfl
    · refine j_tabIn (i := 1) (off := 43) (tg := 65) dX9_about_22 (by omega) (by decide) rfl rfl ?_
      obtain rfl : what = nI 1 := int32_eq (by rw [i_N (by decide)]; omega)
      have ew : tN (nI 1) = 1 := tN_nI (by decide)
      have iw : (nI 1).toInt = 1 := i_N (by decide)
      refine j_aload_n (n := 66) dX9_about_65 rfl rfl ?_
      refine jc_get (n := 69) (k := 1) (v := nI (c (50 + 5 * l + 1))) dX9_about_66 rfl fX9_138 ((hr.1.1).l (by omega)) (by have := (hr.1.1).lo; omega) ((hr.1.1).hi (by omega)) (cm_r (ix_l (by omega) (by decide) rfl)) ?_
      exact j_ri dX9_about_69 rfl (Nat.le_refl _) (Nat.le_refl _) (by unfold r_about; (try simp only [el, ew]); (repeat (first | rw [if_pos (by omega)] | rw [if_neg (by omega)])); all_goals first | rfl | exact congrArg nI (by omega)) rfl rfl
    · refine j_tabIn (i := 2) (off := 48) (tg := 70) dX9_about_22 (by omega) (by decide) rfl rfl ?_
      obtain rfl : what = nI 2 := int32_eq (by rw [i_N (by decide)]; omega)
      have ew : tN (nI 2) = 2 := tN_nI (by decide)
      have iw : (nI 2).toInt = 2 := i_N (by decide)
      refine j_aload_n (n := 71) dX9_about_70 rfl rfl ?_
      refine jc_get (n := 74) (k := 2) (v := nI (c (50 + 5 * l + 2))) dX9_about_71 rfl fX9_141 ((hr.1.1).l (by omega)) (by have := (hr.1.1).lo; omega) ((hr.1.1).hi (by omega)) (cm_r (ix_l (by omega) (by decide) rfl)) ?_
      exact j_ri dX9_about_74 rfl (Nat.le_refl _) (Nat.le_refl _) (by unfold r_about; (try simp only [el, ew]); (repeat (first | rw [if_pos (by omega)] | rw [if_neg (by omega)])); all_goals first | rfl | exact congrArg nI (by omega)) rfl rfl
    · refine j_tabIn (i := 3) (off := 53) (tg := 75) dX9_about_22 (by omega) (by decide) rfl rfl ?_
      obtain rfl : what = nI 3 := int32_eq (by rw [i_N (by decide)]; omega)
      have ew : tN (nI 3) = 3 := tN_nI (by decide)
      have iw : (nI 3).toInt = 3 := i_N (by decide)
      refine j_aload_n (n := 76) dX9_about_75 rfl rfl ?_
      refine jc_get (n := 79) (k := 3) (v := nI (c (50 + 5 * l + 3))) dX9_about_76 rfl fX9_144 ((hr.1.1).l (by omega)) (by have := (hr.1.1).lo; omega) ((hr.1.1).hi (by omega)) (cm_r (ix_l (by omega) (by decide) rfl)) ?_
      exact j_ri dX9_about_79 rfl (Nat.le_refl _) (Nat.le_refl _) (by unfold r_about; (try simp only [el, ew]); (repeat (first | rw [if_pos (by omega)] | rw [if_neg (by omega)])); all_goals first | rfl | exact congrArg nI (by omega)) rfl rfl
    · refine j_tabIn (i := 4) (off := 58) (tg := 80) dX9_about_22 (by omega) (by decide) rfl rfl ?_
      obtain rfl : what = nI 4 := int32_eq (by rw [i_N (by decide)]; omega)
      have ew : tN (nI 4) = 4 := tN_nI (by decide)
      have iw : (nI 4).toInt = 4 := i_N (by decide)
      refine j_aload_n (n := 81) dX9_about_80 rfl rfl ?_
      refine jc_get (n := 84) (k := 4) (v := nI (c (50 + 5 * l + 4))) dX9_about_81 rfl fX9_147 ((hr.1.1).l (by omega)) (by have := (hr.1.1).lo; omega) ((hr.1.1).hi (by omega)) (cm_r (ix_l (by omega) (by decide) rfl)) ?_
      refine j_if_eqN (n := 87) (tg := 91) dX9_about_84 rfl rfl (by omega) (fun h103 => ?_) (fun h103 => ?_)
      · refine j_iconst (n := 92) (v := nI 0) dX9_about_91 rfl rfl ?_
        exact j_ri dX9_about_92 rfl (Nat.le_refl _) (Nat.le_refl _) (by unfold r_about; (try simp only [el, ew]); (repeat (first | rw [if_pos (by omega)] | rw [if_neg (by omega)])); all_goals first | rfl | exact congrArg nI (by omega)) rfl rfl
      · refine j_iconst (n := 88) (v := nI 1) dX9_about_87 rfl rfl ?_
        refine j_goto (n := 92) dX9_about_88 rfl ?_
        exact j_ri dX9_about_92 rfl (Nat.le_refl _) (Nat.le_refl _) (by unfold r_about; (try simp only [el, ew]); (repeat (first | rw [if_pos (by omega)] | rw [if_neg (by omega)])); all_goals first | rfl | exact congrArg nI (by omega)) rfl rfl
    · refine j_tabIn (i := 5) (off := 71) (tg := 93) dX9_about_22 (by omega) (by decide) rfl rfl ?_
      obtain rfl : what = nI 5 := int32_eq (by rw [i_N (by decide)]; omega)
      have ew : tN (nI 5) = 5 := tN_nI (by decide)
      have iw : (nI 5).toInt = 5 := i_N (by decide)
      refine j_aload_n (n := 94) dX9_about_93 rfl rfl ?_
      refine j_getr (n := 97) (k := 0) (b := 17) dX9_about_94 rfl fX9_10 (hr).c (by decide) ((hr).hi (by decide)) (hr.f (k := 0) rfl (by decide)) ?_
      refine j_aload_n (n := 98) dX9_about_97 rfl rfl ?_
      refine j_cV (n := 101) dX9_about_98 rfl sX9_151 (c_thoseWhoOpen d G _ _ _ hr.1.1 _ hw hwl l (by omega)) (by omega) (by decide) rfl rfl (Nat.le_of_ble_eq_true rfl) (hr.1.1).c (hr.1.1).lo ((hr.1.1).hi (by omega)) (by decide) (by decide) ?_
      exact j_ri dX9_about_101 rfl (Nat.le_refl _) (Nat.le_refl _) (by unfold r_about; (try simp only [el, ew]); (repeat (first | rw [if_pos (by omega)] | rw [if_neg (by omega)])); all_goals first | rfl | exact congrArg nI (by omega)) rfl rfl
    · refine j_tabOut (tg := 102) dX9_about_22 (by omega) rfl ?_
      refine j_ldc (n := 104) (v := -1000000001) dX9_about_102 rfl kX9_71 ?_
      exact j_ri dX9_about_104 rfl (Nat.le_refl _) (Nat.le_refl _) (by unfold r_about; (try simp only [el, ew]); (repeat (first | rw [if_pos (by omega)] | rw [if_neg (by omega)])); all_goals first | rfl | exact congrArg nI (by omega)) rfl rfl
  · refine j_ldc (n := 10) (v := -1000000001) dX9_about_8 rfl kX9_71 ?_
    exact j_ri dX9_about_10 rfl (Nat.le_refl _) (Nat.le_refl _) (by unfold r_about; (try simp only [el, ew]); (repeat (first | rw [if_pos (by omega)] | rw [if_neg (by omega)])); all_goals first | rfl | exact congrArg nI (by omega)) rfl rfl
theorem k_sets (d : Nat) (G : zG) (M : zMem) (X : zX) (hr : kR X) (c : Nat → Nat) (hn : c 8 ≤ 10) (lock what v : Int32) : zCall G miX9_sets (d + 2) [.ref 16, .int lock, .int what, .int v] (zI (r_sets c lock what v) (cm M 17 (q_sets c lock what v)) X) (cm M 17 c) X 0 0 := by
  refine zCall.of (lv := [some (.ref 16), some (.int lock), some (.int what), some (.int v), none, none]) (by decide) (Nat.le_of_ble_eq_true rfl) rfl ?_
  refine j_aload_n (n := 1) dX9_sets_0 rfl rfl ?_
  refine j_iload_n (n := 2) dX9_sets_1 rfl rfl ?_
  refine j_cV (n := 5) dX9_sets_2 rfl sX9_132 (k_isLock (d + 1) G _ _ hr _ (by omega) _) (by omega) (by decide) rfl rfl (Nat.le_of_ble_eq_true rfl) (hr).c (by decide) ((hr).hi (by decide)) (by decide) (by decide) ?_
  refine j_if_eqB (n := 8) (tg := 16) dX9_sets_5 rfl rfl (fun h101 => ?_) (fun h101 => ?_)
  · refine j_ldc (n := 18) (v := -1000000001) dX9_sets_16 rfl kX9_71 ?_
    exact j_ri dX9_sets_18 rfl (Nat.le_refl _) (Nat.le_refl _) (by unfold r_sets; (try simp only [el, ew, ex]); (repeat (first | rw [if_pos (by omega)] | rw [if_neg (by omega)])); all_goals rfl) (by unfold q_sets; (try simp only [el, ew, ex]); (repeat (first | rw [if_pos (by omega)] | rw [if_neg (by omega)])); all_goals rfl) rfl
  · refine j_iload_n (n := 9) dX9_sets_8 rfl rfl ?_
    refine j_iload_n (n := 10) dX9_sets_9 rfl rfl ?_
    refine j_cS (n := 13) dX9_sets_10 rfl sX9_155 (k_fitsLock d G _ _ _ _) (by omega) (by decide) rfl rfl (Nat.le_of_ble_eq_true rfl) (by decide) (by decide) ?_
    refine j_if_neB (n := 16) (tg := 19) dX9_sets_13 rfl rfl (fun h102 => ?_) (fun h102 => ?_)
    · obtain ⟨l, hl_, rfl⟩ := i_of (x := lock) (n := c 8) (by omega) (by omega)
      have el : tN (nI l) = l := tN_nI (by omega)
      have il : (nI l).toInt = l := i_N (by omega)
      obtain ⟨x, hx_, rfl⟩ := i_of (x := v) (n := 100) (by omega) (by omega)
      have ex : tN (nI x) = x := tN_nI (by omega)
      have ix : (nI x).toInt = x := i_N (by omega)
      refine j_aload_n (n := 20) dX9_sets_19 rfl rfl ?_
      refine j_getr (n := 23) (k := 0) (b := 17) dX9_sets_20 rfl fX9_10 (hr).c (by decide) ((hr).hi (by decide)) (hr.f (k := 0) rfl (by decide)) ?_
      refine j_getr (n := 26) (k := 2) (b := 19) dX9_sets_23 rfl fX9_123 (hr.1.1).c (hr.1.1).lo ((hr.1.1).hi (by omega)) (hr.1.1).r2 ?_
      refine j_iload_n (n := 27) dX9_sets_26 rfl rfl ?_
      refine jc_aald (n := 28) (t := 3) (L := 10) (i := l) (b := 17 + 21 + l) dX9_sets_27 rfl ((hr.1.1).a2).1 (by decide) rfl ((hr.1.1).a2).2 (by omega) (by decide) (by have := (hr.1.1).lo; omega) ((hr.1.1).hi (by omega)) ((hr.1.1).e2 (by omega)) ?_
      refine j_astore (n := 30) (lv2 := [some (.ref 16), some (.int (nI l)), some (.int what), some (.int (nI x)), some (.ref (17 + 21 + l)), none]) dX9_sets_28 rfl rfl (by decide) rfl ?_
      refine j_iload_n (n := 31) dX9_sets_30 rfl rfl ?_
      have hs103 : (what).toInt = 0 ∨ (what).toInt = 1 ∨ (what).toInt = 2 ∨ ((what).toInt < 0 ∨ 2 < (what).toInt) := by omega
      rcases hs103 with hs103 | hs103 | hs103 | hs103
      · refine j_tabIn (i := 0) (off := 25) (tg := 56) dX9_sets_31 (by omega) (by decide) rfl rfl ?_
        obtain rfl : what = nI 0 := int32_eq (by rw [i_N (by decide)]; omega)
        have ew : tN (nI 0) = 0 := tN_nI (by decide)
        have iw : (nI 0).toInt = 0 := i_N (by decide)
        refine j_aload (n := 58) dX9_sets_56 rfl rfl ?_
        refine jc_get (n := 61) (k := 0) (v := nI (c (50 + 5 * l + 0))) dX9_sets_58 rfl fX9_135 ((hr.1.1).l (by omega)) (by have := (hr.1.1).lo; omega) ((hr.1.1).hi (by omega)) (cm_r (ix_l (by omega) (by decide) rfl)) ?_
        refine j_istore (n := 63) (lv2 := [some (.ref 16), some (.int (nI l)), some (.int (nI 0)), some (.int (nI x)), some (.ref (17 + 21 + l)), some (.int (nI (c (50 + 5 * l + 0))))]) dX9_sets_61 rfl rfl (by decide) rfl ?_
        refine j_aload (n := 65) dX9_sets_63 rfl rfl ?_
        refine j_iload_n (n := 66) dX9_sets_65 rfl rfl ?_
        refine jc_put (n := 69) (k := 0) (x := nI x) (M2 := cm M 17 (pu c (50 + 5 * l + 0) x)) dX9_sets_66 rfl pX9_135 (fun h => by cases h) rfl rfl ((hr.1.1).l (by omega)) (by have := (hr.1.1).lo; omega) ((hr.1.1).hi (by omega)) (cm_w (ix_l (by omega) (by decide) rfl) _) ?_
        refine j_iload (n := 71) dX9_sets_69 rfl rfl ?_
        exact j_ri dX9_sets_71 rfl (Nat.le_refl _) (Nat.le_refl _) (by unfold r_sets; (try simp only [el, ew, ex]); (repeat (first | rw [if_pos (by omega)] | rw [if_neg (by omega)])); all_goals rfl) (by unfold q_sets; (try simp only [el, ew, ex]); (repeat (first | rw [if_pos (by omega)] | rw [if_neg (by omega)])); all_goals rfl) rfl
      · refine j_tabIn (i := 1) (off := 41) (tg := 72) dX9_sets_31 (by omega) (by decide) rfl rfl ?_
        obtain rfl : what = nI 1 := int32_eq (by rw [i_N (by decide)]; omega)
        have ew : tN (nI 1) = 1 := tN_nI (by decide)
        have iw : (nI 1).toInt = 1 := i_N (by decide)
        refine j_aload (n := 74) dX9_sets_72 rfl rfl ?_
        refine jc_get (n := 77) (k := 1) (v := nI (c (50 + 5 * l + 1))) dX9_sets_74 rfl fX9_138 ((hr.1.1).l (by omega)) (by have := (hr.1.1).lo; omega) ((hr.1.1).hi (by omega)) (cm_r (ix_l (by omega) (by decide) rfl)) ?_
        refine j_istore (n := 79) (lv2 := [some (.ref 16), some (.int (nI l)), some (.int (nI 1)), some (.int (nI x)), some (.ref (17 + 21 + l)), some (.int (nI (c (50 + 5 * l + 1))))]) dX9_sets_77 rfl rfl (by decide) rfl ?_
        refine j_aload (n := 81) dX9_sets_79 rfl rfl ?_
        refine j_iload_n (n := 82) dX9_sets_81 rfl rfl ?_
        refine jc_put (n := 85) (k := 1) (x := nI x) (M2 := cm M 17 (pu c (50 + 5 * l + 1) x)) dX9_sets_82 rfl pX9_138 (fun h => by cases h) rfl rfl ((hr.1.1).l (by omega)) (by have := (hr.1.1).lo; omega) ((hr.1.1).hi (by omega)) (cm_w (ix_l (by omega) (by decide) rfl) _) ?_
        refine j_iload (n := 87) dX9_sets_85 rfl rfl ?_
        exact j_ri dX9_sets_87 rfl (Nat.le_refl _) (Nat.le_refl _) (by unfold r_sets; (try simp only [el, ew, ex]); (repeat (first | rw [if_pos (by omega)] | rw [if_neg (by omega)])); all_goals rfl) (by unfold q_sets; (try simp only [el, ew, ex]); (repeat (first | rw [if_pos (by omega)] | rw [if_neg (by omega)])); all_goals rfl) rfl
      · refine j_tabIn (i := 2) (off := 57) (tg := 88) dX9_sets_31 (by omega) (by decide) rfl rfl ?_
        obtain rfl : what = nI 2 := int32_eq (by rw [i_N (by decide)]; omega)
        have ew : tN (nI 2) = 2 := tN_nI (by decide)
        have iw : (nI 2).toInt = 2 := i_N (by decide)
        refine j_aload (n := 90) dX9_sets_88 rfl rfl ?_
        refine jc_get (n := 93) (k := 2) (v := nI (c (50 + 5 * l + 2))) dX9_sets_90 rfl fX9_141 ((hr.1.1).l (by omega)) (by have := (hr.1.1).lo; omega) ((hr.1.1).hi (by omega)) (cm_r (ix_l (by omega) (by decide) rfl)) ?_
        refine j_istore (n := 95) (lv2 := [some (.ref 16), some (.int (nI l)), some (.int (nI 2)), some (.int (nI x)), some (.ref (17 + 21 + l)), some (.int (nI (c (50 + 5 * l + 2))))]) dX9_sets_93 rfl rfl (by decide) rfl ?_
        refine j_aload (n := 97) dX9_sets_95 rfl rfl ?_
        refine j_iload_n (n := 98) dX9_sets_97 rfl rfl ?_
        refine jc_put (n := 101) (k := 2) (x := nI x) (M2 := cm M 17 (pu c (50 + 5 * l + 2) x)) dX9_sets_98 rfl pX9_141 (fun h => by cases h) rfl rfl ((hr.1.1).l (by omega)) (by have := (hr.1.1).lo; omega) ((hr.1.1).hi (by omega)) (cm_w (ix_l (by omega) (by decide) rfl) _) ?_
        refine j_iload (n := 103) dX9_sets_101 rfl rfl ?_
        exact j_ri dX9_sets_103 rfl (Nat.le_refl _) (Nat.le_refl _) (by unfold r_sets; (try simp only [el, ew, ex]); (repeat (first | rw [if_pos (by omega)] | rw [if_neg (by omega)])); all_goals rfl) (by unfold q_sets; (try simp only [el, ew, ex]); (repeat (first | rw [if_pos (by omega)] | rw [if_neg (by omega)])); all_goals rfl) rfl
      · refine j_tabOut (tg := 104) dX9_sets_31 (by omega) rfl ?_
        obtain rfl : what = nI 3 := int32_eq (by rw [i_N (by decide)]; omega)
        have ew : tN (nI 3) = 3 := tN_nI (by decide)
        have iw : (nI 3).toInt = 3 := i_N (by decide)
        refine j_aload (n := 106) dX9_sets_104 rfl rfl ?_
        refine jc_get (n := 109) (k := 3) (v := nI (c (50 + 5 * l + 3))) dX9_sets_106 rfl fX9_144 ((hr.1.1).l (by omega)) (by have := (hr.1.1).lo; omega) ((hr.1.1).hi (by omega)) (cm_r (ix_l (by omega) (by decide) rfl)) ?_
        refine j_istore (n := 111) (lv2 := [some (.ref 16), some (.int (nI l)), some (.int (nI 3)), some (.int (nI x)), some (.ref (17 + 21 + l)), some (.int (nI (c (50 + 5 * l + 3))))]) dX9_sets_109 rfl rfl (by decide) rfl ?_
        refine j_aload (n := 113) dX9_sets_111 rfl rfl ?_
        refine j_iload_n (n := 114) dX9_sets_113 rfl rfl ?_
        refine jc_put (n := 117) (k := 3) (x := nI x) (M2 := cm M 17 (pu c (50 + 5 * l + 3) x)) dX9_sets_114 rfl pX9_144 (fun h => by cases h) rfl rfl ((hr.1.1).l (by omega)) (by have := (hr.1.1).lo; omega) ((hr.1.1).hi (by omega)) (cm_w (ix_l (by omega) (by decide) rfl) _) ?_
        refine j_iload (n := 119) dX9_sets_117 rfl rfl ?_
        exact j_ri dX9_sets_119 rfl (Nat.le_refl _) (Nat.le_refl _) (by unfold r_sets; (try simp only [el, ew, ex]); (repeat (first | rw [if_pos (by omega)] | rw [if_neg (by omega)])); all_goals rfl) (by unfold q_sets; (try simp only [el, ew, ex]); (repeat (first | rw [if_pos (by omega)] | rw [if_neg (by omega)])); all_goals rfl) rfl
    · refine j_ldc (n := 18) (v := -1000000001) dX9_sets_16 rfl kX9_71 ?_
      exact j_ri dX9_sets_18 rfl (Nat.le_refl _) (Nat.le_refl _) (by unfold r_sets; (try simp only [el, ew, ex]); (repeat (first | rw [if_pos (by omega)] | rw [if_neg (by omega)])); all_goals rfl) (by unfold q_sets; (try simp only [el, ew, ex]); (repeat (first | rw [if_pos (by omega)] | rw [if_neg (by omega)])); all_goals rfl) rfl
theorem pu_same {c : Nat → Nat} {i v : Nat} (h : c i = v) : pu c i v = c := by
  subst h
  exact pu_id c i
theorem k_mends (d : Nat) (G : zG) (M : zMem) (X : zX) (hr : kR X) (c : Nat → Nat) (hwl : wfL c) (lock : Int32) : zCall G miX9_mends (d + 1) [.ref 16, .int lock] (zI (r_mends c lock) (cm M 17 (q_mends c lock)) X) (cm M 17 c) X 0 0 := by
  refine zCall.of (lv := [some (.ref 16), some (.int lock)]) (by decide) (Nat.le_of_ble_eq_true rfl) rfl ?_
  have hw1 := hwl.1
  refine j_aload_n (n := 1) dX9_mends_0 rfl rfl ?_
  refine j_iload_n (n := 2) dX9_mends_1 rfl rfl ?_
  refine j_cV (n := 5) dX9_mends_2 rfl sX9_132 (k_isLock d G _ _ hr _ (by omega) _) (by omega) (by decide) rfl rfl (Nat.le_of_ble_eq_true rfl) (hr).c (by decide) ((hr).hi (by decide)) (by decide) (by decide) ?_
  refine j_if_neB (n := 8) (tg := 11) dX9_mends_5 rfl rfl (fun h101 => ?_) (fun h101 => ?_)
  · obtain ⟨l, hl_, rfl⟩ := i_of (x := lock) (n := c 8) (by omega) (by omega)
    have el : tN (nI l) = l := tN_nI (by omega)
    have il : (nI l).toInt = l := i_N (by omega)
    have hl := hwl.2 l hl_
    refine j_aload_n (n := 12) dX9_mends_11 rfl rfl ?_
    refine j_getr (n := 15) (k := 0) (b := 17) dX9_mends_12 rfl fX9_10 (hr).c (by decide) ((hr).hi (by decide)) (hr.f (k := 0) rfl (by decide)) ?_
    refine j_getr (n := 18) (k := 2) (b := 19) dX9_mends_15 rfl fX9_123 (hr.1.1).c (hr.1.1).lo ((hr.1.1).hi (by omega)) (hr.1.1).r2 ?_
    refine j_iload_n (n := 19) dX9_mends_18 rfl rfl ?_
    refine jc_aald (n := 20) (t := 3) (L := 10) (i := l) (b := 17 + 21 + l) dX9_mends_19 rfl ((hr.1.1).a2).1 (by decide) rfl ((hr.1.1).a2).2 (by omega) (by decide) (by have := (hr.1.1).lo; omega) ((hr.1.1).hi (by omega)) ((hr.1.1).e2 (by omega)) ?_
    refine jc_get (n := 23) (k := 4) (v := nI (c (50 + 5 * l + 4))) dX9_mends_20 rfl fX9_147 ((hr.1.1).l (by omega)) (by have := (hr.1.1).lo; omega) ((hr.1.1).hi (by omega)) (cm_r (ix_l (by omega) (by decide) rfl)) ?_
    refine j_if_neN (n := 26) (tg := 29) dX9_mends_23 rfl rfl (by omega) (fun h102 => ?_) (fun h102 => ?_)
    · refine j_aload_n (n := 30) dX9_mends_29 rfl rfl ?_
      refine j_getr (n := 33) (k := 0) (b := 17) dX9_mends_30 rfl fX9_10 (hr).c (by decide) ((hr).hi (by decide)) (hr.f (k := 0) rfl (by decide)) ?_
      refine j_getr (n := 36) (k := 2) (b := 19) dX9_mends_33 rfl fX9_123 (hr.1.1).c (hr.1.1).lo ((hr.1.1).hi (by omega)) (hr.1.1).r2 ?_
      refine j_iload_n (n := 37) dX9_mends_36 rfl rfl ?_
      refine jc_aald (n := 38) (t := 3) (L := 10) (i := l) (b := 17 + 21 + l) dX9_mends_37 rfl ((hr.1.1).a2).1 (by decide) rfl ((hr.1.1).a2).2 (by omega) (by decide) (by have := (hr.1.1).lo; omega) ((hr.1.1).hi (by omega)) ((hr.1.1).e2 (by omega)) ?_
      refine j_iconst (n := 39) (v := nI 0) dX9_mends_38 rfl rfl ?_
      refine jc_put (n := 42) (k := 4) (x := nI 0) (M2 := cm M 17 (pu c (50 + 5 * l + 4) 0)) dX9_mends_39 rfl pX9_147 (fun h => by cases h) rfl rfl ((hr.1.1).l (by omega)) (by have := (hr.1.1).lo; omega) ((hr.1.1).hi (by omega)) (cm_w (ix_l (by omega) (by decide) rfl) _) ?_
      refine j_iconst (n := 43) (v := nI 1) dX9_mends_42 rfl rfl ?_
      exact j_ri dX9_mends_43 rfl (Nat.le_refl _) (Nat.le_refl _) (by unfold r_mends; (try simp only [el]); (repeat (first | rw [if_pos (by omega)] | rw [if_neg (by omega)])); all_goals rfl) (by unfold q_mends; (try simp only [el]); (repeat (first | rw [if_pos (by omega)] | rw [if_neg (by omega)])); all_goals first | rfl | (rw [pu_same (by omega)])) rfl
    · refine j_ldc (n := 28) (v := -1000000002) dX9_mends_26 rfl kX9_158 ?_
      exact j_ri dX9_mends_28 rfl (Nat.le_refl _) (Nat.le_refl _) (by unfold r_mends; (try simp only [el]); (repeat (first | rw [if_pos (by omega)] | rw [if_neg (by omega)])); all_goals rfl) (by unfold q_mends; (try simp only [el]); (repeat (first | rw [if_pos (by omega)] | rw [if_neg (by omega)])); all_goals first | rfl | (rw [pu_same (by omega)])) rfl
  · refine j_ldc (n := 10) (v := -1000000001) dX9_mends_8 rfl kX9_71 ?_
    exact j_ri dX9_mends_10 rfl (Nat.le_refl _) (Nat.le_refl _) (by unfold r_mends; (try simp only [el]); (repeat (first | rw [if_pos (by omega)] | rw [if_neg (by omega)])); all_goals rfl) (by unfold q_mends; (try simp only [el]); (repeat (first | rw [if_pos (by omega)] | rw [if_neg (by omega)])); all_goals first | rfl | (rw [pu_same (by omega)])) rfl
theorem k_rule (d : Nat) (G : zG) (M : zMem) (X : zX) (hr : kR X) (c : Nat → Nat) (what v : Int32) : zCall G miX9_rule (d + 0) [.ref 16, .int what, .int v] (zI (r_rule c what v) (cm M 17 (q_rule c what v)) X) (cm M 17 c) X 0 0 := by
  refine zCall.of (lv := [some (.ref 16), some (.int what), some (.int v), none]) (by decide) (Nat.le_of_ble_eq_true rfl) rfl ?_
  refine j_iload_n (n := 1) dX9_rule_0 rfl rfl ?_
  refine j_if_ltT (n := 4) (tg := 19) dX9_rule_1 rfl rfl (fun h101 => ?_) (fun h101 => ?_)
  · refine j_ldc (n := 21) (v := -1000000001) dX9_rule_19 rfl kX9_71 ?_
    exact j_ri dX9_rule_21 rfl (Nat.le_refl _) (Nat.le_refl _) (by unfold r_rule; (try simp only [ew, ex]); (repeat (first | rw [if_pos (by omega)] | rw [if_neg (by omega)])); all_goals rfl) (by unfold q_rule; (try simp only [ew, ex]); (repeat (first | rw [if_pos (by omega)] | rw [if_neg (by omega)])); all_goals rfl) rfl
  · refine j_iload_n (n := 5) dX9_rule_4 rfl rfl ?_
    refine j_iconst (n := 6) (v := nI 1) dX9_rule_5 rfl rfl ?_
    refine j_icmp_gtT (n := 9) (tg := 19) dX9_rule_6 rfl rfl rfl (i_N (by omega)) (fun h102 => ?_) (fun h102 => ?_)
    · refine j_ldc (n := 21) (v := -1000000001) dX9_rule_19 rfl kX9_71 ?_
      exact j_ri dX9_rule_21 rfl (Nat.le_refl _) (Nat.le_refl _) (by unfold r_rule; (try simp only [ew, ex]); (repeat (first | rw [if_pos (by omega)] | rw [if_neg (by omega)])); all_goals rfl) (by unfold q_rule; (try simp only [ew, ex]); (repeat (first | rw [if_pos (by omega)] | rw [if_neg (by omega)])); all_goals rfl) rfl
    · refine j_iload_n (n := 10) dX9_rule_9 rfl rfl ?_
      refine j_if_ltT (n := 13) (tg := 19) dX9_rule_10 rfl rfl (fun h103 => ?_) (fun h103 => ?_)
      · refine j_ldc (n := 21) (v := -1000000001) dX9_rule_19 rfl kX9_71 ?_
        exact j_ri dX9_rule_21 rfl (Nat.le_refl _) (Nat.le_refl _) (by unfold r_rule; (try simp only [ew, ex]); (repeat (first | rw [if_pos (by omega)] | rw [if_neg (by omega)])); all_goals rfl) (by unfold q_rule; (try simp only [ew, ex]); (repeat (first | rw [if_pos (by omega)] | rw [if_neg (by omega)])); all_goals rfl) rfl
      · refine j_iload_n (n := 14) dX9_rule_13 rfl rfl ?_
        refine j_bipush (n := 16) (v := nI 100) dX9_rule_14 rfl (by decide) ?_
        refine j_icmp_leT (n := 19) (tg := 22) dX9_rule_16 rfl rfl rfl (i_N (by omega)) (fun h104 => ?_) (fun h104 => ?_)
        · obtain ⟨x, hx_, rfl⟩ := i_of (x := v) (n := 101) (by omega) (by omega)
          have ex : tN (nI x) = x := tN_nI (by omega)
          have ix : (nI x).toInt = x := i_N (by omega)
          refine j_iload_n (n := 23) dX9_rule_22 rfl rfl ?_
          refine j_if_neT (n := 26) (tg := 36) dX9_rule_23 rfl rfl (fun h105 => ?_) (fun h105 => ?_)
          · obtain rfl : what = nI 1 := int32_eq (by rw [i_N (by decide)]; omega)
            have ew : tN (nI 1) = 1 := tN_nI (by decide)
            have iw : (nI 1).toInt = 1 := i_N (by decide)
            refine j_aload_n (n := 37) dX9_rule_36 rfl rfl ?_
            refine j_getr (n := 40) (k := 0) (b := 17) dX9_rule_37 rfl fX9_10 (hr).c (by decide) ((hr).hi (by decide)) (hr.f (k := 0) rfl (by decide)) ?_
            refine jc_get (n := 43) (k := 8) (v := nI (c 7)) dX9_rule_40 rfl fX9_162 (hr.1.1).c (hr.1.1).lo ((hr.1.1).hi (by omega)) (cm_r (ix_t rfl)) ?_
            refine j_istore_n (n := 44) (lv2 := [some (.ref 16), some (.int (nI 1)), some (.int (nI x)), some (.int (nI (c 7)))]) dX9_rule_43 rfl rfl (by decide) rfl ?_
            refine j_iload_n (n := 45) dX9_rule_44 rfl rfl ?_
            refine j_if_neN (n := 48) (tg := 59) dX9_rule_45 rfl rfl (by omega) (fun h106 => ?_) (fun h106 => ?_)
            · refine j_aload_n (n := 60) dX9_rule_59 rfl rfl ?_
              refine j_getr (n := 63) (k := 0) (b := 17) dX9_rule_60 rfl fX9_10 (hr).c (by decide) ((hr).hi (by decide)) (hr.f (k := 0) rfl (by decide)) ?_
              refine j_iload_n (n := 64) dX9_rule_63 rfl rfl ?_
              refine jc_put (n := 67) (k := 8) (x := nI x) (M2 := cm M 17 (pu c 7 x)) dX9_rule_64 rfl pX9_162 (fun h => by cases h) rfl rfl (hr.1.1).c (hr.1.1).lo ((hr.1.1).hi (by omega)) (cm_w (ix_t rfl) _) ?_
              refine j_iload_n (n := 68) dX9_rule_67 rfl rfl ?_
              exact j_ri dX9_rule_68 rfl (Nat.le_refl _) (Nat.le_refl _) (by unfold r_rule; (try simp only [ew, ex]); (repeat (first | rw [if_pos (by omega)] | rw [if_neg (by omega)])); all_goals rfl) (by unfold q_rule; (try simp only [ew, ex]); (repeat (first | rw [if_pos (by omega)] | rw [if_neg (by omega)])); all_goals rfl) rfl
            · exact absurd h106 (by decide)
          · obtain rfl : what = nI 0 := int32_eq (by rw [i_N (by decide)]; omega)
            have ew : tN (nI 0) = 0 := tN_nI (by decide)
            have iw : (nI 0).toInt = 0 := i_N (by decide)
            refine j_aload_n (n := 27) dX9_rule_26 rfl rfl ?_
            refine j_getr (n := 30) (k := 0) (b := 17) dX9_rule_27 rfl fX9_10 (hr).c (by decide) ((hr).hi (by decide)) (hr.f (k := 0) rfl (by decide)) ?_
            refine jc_get (n := 33) (k := 7) (v := nI (c 6)) dX9_rule_30 rfl fX9_159 (hr.1.1).c (hr.1.1).lo ((hr.1.1).hi (by omega)) (cm_r (ix_t rfl)) ?_
            refine j_goto (n := 43) dX9_rule_33 rfl ?_
            refine j_istore_n (n := 44) (lv2 := [some (.ref 16), some (.int (nI 0)), some (.int (nI x)), some (.int (nI (c 6)))]) dX9_rule_43 rfl rfl (by decide) rfl ?_
            refine j_iload_n (n := 45) dX9_rule_44 rfl rfl ?_
            refine j_if_neN (n := 48) (tg := 59) dX9_rule_45 rfl rfl (by omega) (fun h107 => ?_) (fun h107 => ?_)
            · exact absurd h107 (by decide)
            · refine j_aload_n (n := 49) dX9_rule_48 rfl rfl ?_
              refine j_getr (n := 52) (k := 0) (b := 17) dX9_rule_49 rfl fX9_10 (hr).c (by decide) ((hr).hi (by decide)) (hr.f (k := 0) rfl (by decide)) ?_
              refine j_iload_n (n := 53) dX9_rule_52 rfl rfl ?_
              refine jc_put (n := 56) (k := 7) (x := nI x) (M2 := cm M 17 (pu c 6 x)) dX9_rule_53 rfl pX9_159 (fun h => by cases h) rfl rfl (hr.1.1).c (hr.1.1).lo ((hr.1.1).hi (by omega)) (cm_w (ix_t rfl) _) ?_
              refine j_goto (n := 67) dX9_rule_56 rfl ?_
              refine j_iload_n (n := 68) dX9_rule_67 rfl rfl ?_
              exact j_ri dX9_rule_68 rfl (Nat.le_refl _) (Nat.le_refl _) (by unfold r_rule; (try simp only [ew, ex]); (repeat (first | rw [if_pos (by omega)] | rw [if_neg (by omega)])); all_goals rfl) (by unfold q_rule; (try simp only [ew, ex]); (repeat (first | rw [if_pos (by omega)] | rw [if_neg (by omega)])); all_goals rfl) rfl
        · refine j_ldc (n := 21) (v := -1000000001) dX9_rule_19 rfl kX9_71 ?_
          exact j_ri dX9_rule_21 rfl (Nat.le_refl _) (Nat.le_refl _) (by unfold r_rule; (try simp only [ew, ex]); (repeat (first | rw [if_pos (by omega)] | rw [if_neg (by omega)])); all_goals rfl) (by unfold q_rule; (try simp only [ew, ex]); (repeat (first | rw [if_pos (by omega)] | rw [if_neg (by omega)])); all_goals rfl) rfl
theorem k_seed (d : Nat) (G : zG) (M : zMem) (X : zX) (hr : kR X) (c : Nat → Nat) (v : Int32) : zCall G miX9_seed (d + 0) [.ref 16, .int v] (zI (nI (c 9)) (cm M 17 (pu c 9 (tN v))) X) (cm M 17 c) X 0 0 := by
  refine zCall.of (lv := [some (.ref 16), some (.int v), none]) (by decide) (Nat.le_of_ble_eq_true rfl) rfl ?_
  refine j_aload_n (n := 1) dX9_seed_0 rfl rfl ?_
  refine j_getr (n := 4) (k := 0) (b := 17) dX9_seed_1 rfl fX9_10 (hr).c (by decide) ((hr).hi (by decide)) (hr.f (k := 0) rfl (by decide)) ?_
  refine jc_get (n := 7) (k := 13) (v := nI (c 9)) dX9_seed_4 rfl fX9_174 (hr.1.1).c (hr.1.1).lo ((hr.1.1).hi (by omega)) (cm_r (ix_t rfl)) ?_
  refine j_istore_n (n := 8) (lv2 := [some (.ref 16), some (.int v), some (.int (nI (c 9)))]) dX9_seed_7 rfl rfl (by decide) rfl ?_
  refine j_aload_n (n := 9) dX9_seed_8 rfl rfl ?_
  refine j_getr (n := 12) (k := 0) (b := 17) dX9_seed_9 rfl fX9_10 (hr).c (by decide) ((hr).hi (by decide)) (hr.f (k := 0) rfl (by decide)) ?_
  refine j_iload_n (n := 13) dX9_seed_12 rfl rfl ?_
  refine j_top (nI_tN v).symm ?_
  refine jc_put (n := 16) (k := 13) (x := nI (tN v)) (M2 := cm M 17 (pu c 9 (tN v))) dX9_seed_13 rfl pX9_174 (fun h => by cases h) rfl rfl (hr.1.1).c (hr.1.1).lo ((hr.1.1).hi (by omega)) (cm_w (ix_t rfl) _) ?_
  refine j_iload_n (n := 17) dX9_seed_16 rfl rfl ?_
  exact j_ri dX9_seed_17 rfl (Nat.le_refl _) (Nat.le_refl _) rfl rfl rfl
theorem k_at (d : Nat) (G : zG) (M : zMem) (X : zX) (hr : kR X) (c : Nat → Nat) (hw : wfO c) (room : Int32) : zCall G miX9_at (d + 1) [.ref 16, .int room] (zI (r_at c room) (cm M 17 c) X) (cm M 17 c) X 0 0 := by
  refine zCall.of (lv := [some (.ref 16), some (.int room), none, none]) (by decide) (Nat.le_of_ble_eq_true rfl) rfl ?_
  have hw0 := hw.1
  refine j_iload_n (n := 1) dX9_at_0 rfl rfl ?_
  refine j_cS (n := 4) dX9_at_1 rfl sX9_65 (k_isRoom d G _ _ _) (by omega) (by decide) rfl rfl (Nat.le_of_ble_eq_true rfl) (by decide) (by decide) ?_
  refine j_if_neB (n := 7) (tg := 10) dX9_at_4 rfl rfl (fun h101 => ?_) (fun h101 => ?_)
  · obtain ⟨r, hr_, rfl⟩ := i_of (x := room) (n := 8) (by omega) (by omega)
    have er : tN (nI r) = r := tN_nI (by omega)
    have ir : (nI r).toInt = r := i_N (by omega)
    refine j_iconst (n := 11) (v := nI 0) dX9_at_10 rfl rfl ?_
    refine j_istore_n (n := 12) (lv2 := [some (.ref 16), some (.int (nI r)), some (.int (nI 0)), none]) dX9_at_11 rfl rfl (by decide) rfl ?_
    refine j_iconst (n := 13) (v := nI 0) dX9_at_12 rfl rfl ?_
    refine j_istore_n (n := 14) (lv2 := [some (.ref 16), some (.int (nI r)), some (.int (nI 0)), some (.int (nI 0))]) dX9_at_13 rfl rfl (by decide) rfl ?_
    have loop : ∀ (j k : Nat), c 0 - k = j → k ≤ c 0 → zAt G miX9_at (zRm (d + 1) 0 0) (zQ G (zI (r_at c (nI r)) (cm M 17 c) X) 0 0) 14 [some (.ref 16), some (.int (nI r)), some (.int (setOf (fun k => c (10 + 5 * k + 1) = r) k)), some (.int (nI k))] [] (cm M 17 c) X (0, 0) := by
      intro j
      induction j using Nat.strongRecOn with
      | ind j ih =>
        intro k hj hk0
        refine j_iload_n (n := 15) dX9_at_14 rfl rfl ?_
        refine j_aload_n (n := 16) dX9_at_15 rfl rfl ?_
        refine j_getr (n := 19) (k := 0) (b := 17) dX9_at_16 rfl fX9_10 (hr).c (by decide) ((hr).hi (by decide)) (hr.f (k := 0) rfl (by decide)) ?_
        refine jc_get (n := 22) (k := 1) (v := nI (c 0)) dX9_at_19 rfl fX9_72 (hr.1.1).c (hr.1.1).lo ((hr.1.1).hi (by omega)) (cm_r (ix_t rfl)) ?_
        refine j_icmp_geT (n := 25) (tg := 53) dX9_at_22 rfl rfl (i_N (by omega)) (i_N (by omega)) (fun h102 => ?_) (fun h102 => ?_)
        · refine j_iload_n (n := 54) dX9_at_53 rfl rfl ?_
          exact j_ri dX9_at_54 rfl (Nat.le_refl _) (Nat.le_refl _) (by unfold r_at; rw [if_neg (by omega), er, show k = c 0 by omega]) rfl rfl
        · have ho := hw.2 k (by omega)
          refine j_aload_n (n := 26) dX9_at_25 rfl rfl ?_
          refine j_getr (n := 29) (k := 0) (b := 17) dX9_at_26 rfl fX9_10 (hr).c (by decide) ((hr).hi (by decide)) (hr.f (k := 0) rfl (by decide)) ?_
          refine j_getr (n := 32) (k := 0) (b := 18) dX9_at_29 rfl fX9_77 (hr.1.1).c (hr.1.1).lo ((hr.1.1).hi (by omega)) (hr.1.1).r0 ?_
          refine j_iload_n (n := 33) dX9_at_32 rfl rfl ?_
          refine jc_aald (n := 34) (t := 2) (L := 8) (i := k) (b := 17 + 5 + 2 * k) dX9_at_33 rfl ((hr.1.1).a1).1 (by decide) rfl ((hr.1.1).a1).2 (by omega) (by decide) (by have := (hr.1.1).lo; omega) ((hr.1.1).hi (by omega)) ((hr.1.1).e1 (by omega)) ?_
          refine jc_get (n := 37) (k := 1) (v := nI (c (10 + 5 * k + 1))) dX9_at_34 rfl fX9_93 ((hr.1.1).p (by omega)).2.2.1 ((hr.1.1).p (by omega)).1 ((hr.1.1).hi (by omega)) (cm_r (ix_p (by omega) (by decide) rfl)) ?_
          refine j_iload_n (n := 38) dX9_at_37 rfl rfl ?_
          refine j_icmp_neT (n := 41) (tg := 47) dX9_at_38 rfl rfl (i_N (by omega)) (i_N (by omega)) (fun h103 => ?_) (fun h103 => ?_)
          · refine j_iinc (n := 50) (y := nI (k + 1)) (lv2 := [some (.ref 16), some (.int (nI r)), some (.int (setOf (fun k => c (10 + 5 * k + 1) = r) k)), some (.int (nI (k + 1)))]) dX9_at_47 rfl rfl (by decide) rfl (show nI k + nI 1 = nI (k + 1) by rw [nI_add]) rfl ?_
            refine j_goto (n := 14) dX9_at_50 rfl ?_
            have e1 : setOf (fun k => c (10 + 5 * k + 1) = r) k = setOf (fun k => c (10 + 5 * k + 1) = r) (k + 1) := by first | (rw [setOf, if_pos (by omega)]; done) | (rw [setOf, if_neg (by omega), or_0])
            rw [e1]
            exact ih _ (by omega) (k + 1) rfl (by omega)
          · refine j_iload_n (n := 42) dX9_at_41 rfl rfl ?_
            refine j_iconst (n := 43) (v := nI 1) dX9_at_42 rfl rfl ?_
            refine j_iload_n (n := 44) dX9_at_43 rfl rfl ?_
            refine j_ishl (n := 45) dX9_at_44 rfl ?_
            refine j_ior (n := 46) dX9_at_45 rfl ?_
            refine j_istore_n (n := 47) (lv2 := [some (.ref 16), some (.int (nI r)), some (.int ((setOf (fun k => c (10 + 5 * k + 1) = r) k) ||| ((nI 1) <<< ((nI k) &&& 31)))), some (.int (nI k))]) dX9_at_46 rfl rfl (by decide) rfl ?_
            refine j_iinc (n := 50) (y := nI (k + 1)) (lv2 := [some (.ref 16), some (.int (nI r)), some (.int ((setOf (fun k => c (10 + 5 * k + 1) = r) k) ||| ((nI 1) <<< ((nI k) &&& 31)))), some (.int (nI (k + 1)))]) dX9_at_47 rfl rfl (by decide) rfl (show nI k + nI 1 = nI (k + 1) by rw [nI_add]) rfl ?_
            refine j_goto (n := 14) dX9_at_50 rfl ?_
            have e1 : (setOf (fun k => c (10 + 5 * k + 1) = r) k) ||| ((nI 1) <<< ((nI k) &&& 31)) = setOf (fun k => c (10 + 5 * k + 1) = r) (k + 1) := by first | (rw [setOf, if_pos (by omega)]; done) | (rw [setOf, if_neg (by omega), or_0])
            rw [e1]
            exact ih _ (by omega) (k + 1) rfl (by omega)
    exact loop _ 0 rfl (Nat.zero_le _)
  · refine j_ldc (n := 9) (v := -1000000001) dX9_at_7 rfl kX9_71 ?_
    exact j_ri dX9_at_9 rfl (Nat.le_refl _) (Nat.le_refl _) (by unfold r_at; (try simp only [er]); (repeat (first | rw [if_pos (by omega)] | rw [if_neg (by omega)])); all_goals rfl) rfl rfl
theorem k_deal (d : Nat) (G : zG) (M : zMem) (X : zX) (hr : kR X) (c : Nat → Nat) (hn : c 0 ≤ 8) (n : Int32) : zCall G miX9_deal (d + 2) [.ref 16, .int n] (zI (r_deal c n) (cm M 17 (q_deal c n)) X) (cm M 17 c) X 0 0 := by
  refine zCall.of (lv := [some (.ref 16), some (.int n), none, none]) (by decide) (Nat.le_of_ble_eq_true rfl) rfl ?_
  refine j_iload_n (n := 1) dX9_deal_0 rfl rfl ?_
  refine j_iconst (n := 2) (v := nI 1) dX9_deal_1 rfl rfl ?_
  refine j_icmp_ltT (n := 5) (tg := 11) dX9_deal_2 rfl rfl rfl (i_N (by omega)) (fun h101 => ?_) (fun h101 => ?_)
  · refine j_ldc (n := 13) (v := -1000000001) dX9_deal_11 rfl kX9_71 ?_
    exact j_ri dX9_deal_13 rfl (Nat.le_refl _) (Nat.le_refl _) (by unfold r_deal; (try simp only [em]); (repeat (first | rw [if_pos (by omega)] | rw [if_neg (by omega)])); all_goals rfl) (by unfold q_deal; (try simp only [em]); (repeat (first | rw [if_pos (by omega)] | rw [if_neg (by omega)])); all_goals rfl) rfl
  · refine j_iload_n (n := 6) dX9_deal_5 rfl rfl ?_
    refine j_bipush (n := 8) (v := nI 8) dX9_deal_6 rfl (by decide) ?_
    refine j_icmp_leT (n := 11) (tg := 14) dX9_deal_8 rfl rfl rfl (i_N (by omega)) (fun h102 => ?_) (fun h102 => ?_)
    · obtain ⟨m, hm_, rfl⟩ := i_of (x := n) (n := 9) (by omega) (by omega)
      have em : tN (nI m) = m := tN_nI (by omega)
      have im : (nI m).toInt = m := i_N (by omega)
      refine j_iload_n (n := 15) dX9_deal_14 rfl rfl ?_
      refine j_bipush (n := 17) (v := nI 8) dX9_deal_15 rfl (by decide) ?_
      refine j_aload_n (n := 18) dX9_deal_17 rfl rfl ?_
      refine j_getr (n := 21) (k := 0) (b := 17) dX9_deal_18 rfl fX9_10 (hr).c (by decide) ((hr).hi (by decide)) (hr.f (k := 0) rfl (by decide)) ?_
      refine jc_get (n := 24) (k := 1) (v := nI (c 0)) dX9_deal_21 rfl fX9_72 (hr.1.1).c (hr.1.1).lo ((hr.1.1).hi (by omega)) (cm_r (ix_t rfl)) ?_
      refine j_isubN (n := 25) (c := 8 - (c 0)) dX9_deal_24 rfl (by omega) (by omega) ?_
      refine j_mmin (n := 28) dX9_deal_25 rfl sX9_165 (by omega) (Nat.le_of_ble_eq_true rfl) (by decide) (by decide) ?_
      refine j_top (y := nI (min m (8 - (c 0)))) (minI_N (by omega) (by omega)) ?_
      refine j_istore_n (n := 29) (lv2 := [some (.ref 16), some (.int (nI m)), some (.int (nI (min m (8 - (c 0))))), none]) dX9_deal_28 rfl rfl (by decide) rfl ?_
      refine j_iconst (n := 30) (v := nI 0) dX9_deal_29 rfl rfl ?_
      refine j_istore_n (n := 31) (lv2 := [some (.ref 16), some (.int (nI m)), some (.int (nI (min m (8 - (c 0))))), some (.int (nI 0))]) dX9_deal_30 rfl rfl (by decide) rfl ?_
      have loop : ∀ (j k : Nat), min m (8 - c 0) - k = j → k ≤ min m (8 - c 0) → zAt G miX9_deal (zRm (d + 2) 0 0) (zQ G (zI (r_deal c (nI m)) (cm M 17 (q_deal c (nI m))) X) 0 0) 31 [some (.ref 16), some (.int (nI m)), some (.int (nI (min m (8 - c 0)))), some (.int (nI k))] [] (cm M 17 (dealP c k)) X (0, 0) := by
        intro j
        induction j using Nat.strongRecOn with
        | ind j ih =>
          intro k hj hk0
          refine j_iload_n (n := 32) dX9_deal_31 rfl rfl ?_
          refine j_iload_n (n := 33) dX9_deal_32 rfl rfl ?_
          refine j_icmp_geT (n := 36) (tg := 49) dX9_deal_33 rfl rfl (i_N (by omega)) (i_N (by omega)) (fun h103 => ?_) (fun h103 => ?_)
          · refine j_iload_n (n := 50) dX9_deal_49 rfl rfl ?_
            exact j_ri dX9_deal_50 rfl (Nat.le_refl _) (Nat.le_refl _) (by unfold r_deal; (try simp only [em]); (repeat (first | rw [if_pos (by omega)] | rw [if_neg (by omega)])); all_goals rfl) (by unfold q_deal; rw [if_neg (by omega), em, show k = min m (8 - c 0) by omega]) rfl
          · refine j_aload_n (n := 37) dX9_deal_36 rfl rfl ?_
            refine j_getr (n := 40) (k := 0) (b := 17) dX9_deal_37 rfl fX9_10 (hr).c (by decide) ((hr).hi (by decide)) (hr.f (k := 0) rfl (by decide)) ?_
            refine j_cVv (n := 43) dX9_deal_40 rfl sX9_171 (c_drawPerson d G _ _ _ hr.1.1 _ (by rw [dealP_0]; omega)) (by omega) (by decide) rfl rfl (Nat.le_of_ble_eq_true rfl) (hr.1.1).c (hr.1.1).lo ((hr.1.1).hi (by omega)) (by decide) (by decide) ?_
            refine j_iinc (n := 46) (y := nI (k + 1)) (lv2 := [some (.ref 16), some (.int (nI m)), some (.int (nI (min m (8 - c 0)))), some (.int (nI (k + 1)))]) dX9_deal_43 rfl rfl (by decide) rfl (show nI k + nI 1 = nI (k + 1) by rw [nI_add]) rfl ?_
            refine j_goto (n := 31) dX9_deal_46 rfl ?_
            exact ih _ (by omega) (k + 1) rfl (by omega)
      exact loop _ 0 rfl (Nat.zero_le _)
    · refine j_ldc (n := 13) (v := -1000000001) dX9_deal_11 rfl kX9_71 ?_
      exact j_ri dX9_deal_13 rfl (Nat.le_refl _) (Nat.le_refl _) (by unfold r_deal; (try simp only [em]); (repeat (first | rw [if_pos (by omega)] | rw [if_neg (by omega)])); all_goals rfl) (by unfold q_deal; (try simp only [em]); (repeat (first | rw [if_pos (by omega)] | rw [if_neg (by omega)])); all_goals rfl) rfl
theorem k_passes (d : Nat) (G : zG) (M : zMem) (X : zX) (hr : kR X) (c : Nat → Nat) (hx : tx M X 17 c) (b D : Nat) (hw : wf c b D) (hb : b ≤ 900000000) (hD : D ≤ 900000000) (one lock : Int32) : zCall G miX9_passes (d + 4) [.ref 16, .int one, .int lock] (zIr (fun r0 M1 X1 => r0 = r_passes c one lock ∧ X1 = X ∧ ∃ M2, scT M M2 ∧ M1 = cm M2 17 (q_passes c one lock))) (cm M 17 c) X 0 0 := by
  refine zCall.of (lv := [some (.ref 16), some (.int one), some (.int lock), none, none]) (by decide) (Nat.le_of_ble_eq_true rfl) rfl ?_
  have hwO := hw.1
  have hwl := hw.2.1
  have hwt := hw.2.2.1
  have h0 := hw.1.1
  have h8 := hw.2.1.1
  have h2 := hw.day
  have h3 := hw.2.2.2.2.1
  have h4 := hw.2.2.2.2.2.1
  have h5 := hw.2.2.2.2.2.2.1
  have h6 := hw.2.2.2.2.2.2.2.1
  have h7 := hw.2.2.2.2.2.2.2.2
  have hd2 : c 2 < 2147483648 := by omega
  refine j_aload_n (n := 1) dX9_passes_0 rfl rfl ?_
  refine j_iload_n (n := 2) dX9_passes_1 rfl rfl ?_
  refine j_cV (n := 5) dX9_passes_2 rfl sX9_87 (k_isOne (d + 3) G _ _ hr _ (by omega) _) (by omega) (by decide) rfl rfl (Nat.le_of_ble_eq_true rfl) (hr).c (by decide) ((hr).hi (by decide)) (by decide) (by decide) ?_
  refine j_if_eqB (n := 8) (tg := 16) dX9_passes_5 rfl rfl (fun h101 => ?_) (fun h101 => ?_)
  · refine j_ldc (n := 18) (v := -1000000001) dX9_passes_16 rfl kX9_71 ?_
    exact j_iret dX9_passes_18 rfl rfl (Nat.le_refl _) (Nat.le_refl _) ⟨_, rfl, (by unfold r_passes; (try simp only [ek, el]); (repeat (first | rw [if_pos (by omega)] | rw [if_neg (by omega)])); all_goals rfl), rfl, _, scT.rf M, (by unfold q_passes; (try simp only [ek, el]); (repeat (first | rw [if_pos (by omega)] | rw [if_neg (by omega)])); all_goals rfl)⟩
  · refine j_aload_n (n := 9) dX9_passes_8 rfl rfl ?_
    refine j_iload_n (n := 10) dX9_passes_9 rfl rfl ?_
    refine j_cV (n := 13) dX9_passes_10 rfl sX9_132 (k_isLock (d + 3) G _ _ hr _ (by omega) _) (by omega) (by decide) rfl rfl (Nat.le_of_ble_eq_true rfl) (hr).c (by decide) ((hr).hi (by decide)) (by decide) (by decide) ?_
    refine j_if_neB (n := 16) (tg := 19) dX9_passes_13 rfl rfl (fun h102 => ?_) (fun h102 => ?_)
    · obtain ⟨k, hk_, rfl⟩ := i_of (x := one) (n := c 0) (by omega) (by omega)
      have ek : tN (nI k) = k := tN_nI (by omega)
      have ik : (nI k).toInt = k := i_N (by omega)
      obtain ⟨l, hl_, rfl⟩ := i_of (x := lock) (n := c 8) (by omega) (by omega)
      have el : tN (nI l) = l := tN_nI (by omega)
      have il : (nI l).toInt = l := i_N (by omega)
      have ho := hw.1.2 k hk_
      have hl := hwl.2 l hl_
      have hrr := hw.1.reg hk_ (j := c (50 + 5 * l + 2)) (by omega)
      refine j_aload_n (n := 20) dX9_passes_19 rfl rfl ?_
      refine j_getr (n := 23) (k := 0) (b := 17) dX9_passes_20 rfl fX9_10 (hr).c (by decide) ((hr).hi (by decide)) (hr.f (k := 0) rfl (by decide)) ?_
      refine j_getr (n := 26) (k := 0) (b := 18) dX9_passes_23 rfl fX9_77 (hr.1.1).c (hr.1.1).lo ((hr.1.1).hi (by omega)) (hr.1.1).r0 ?_
      refine j_iload_n (n := 27) dX9_passes_26 rfl rfl ?_
      refine jc_aald (n := 28) (t := 2) (L := 8) (i := k) (b := 17 + 5 + 2 * k) dX9_passes_27 rfl ((hr.1.1).a1).1 (by decide) rfl ((hr.1.1).a1).2 (by omega) (by decide) (by have := (hr.1.1).lo; omega) ((hr.1.1).hi (by omega)) ((hr.1.1).e1 (by omega)) ?_
      refine j_astore_n (n := 29) (lv2 := [some (.ref 16), some (.int (nI k)), some (.int (nI l)), some (.ref (17 + 5 + 2 * k)), none]) dX9_passes_28 rfl rfl (by decide) rfl ?_
      refine j_aload_n (n := 30) dX9_passes_29 rfl rfl ?_
      refine j_getr (n := 33) (k := 0) (b := 17) dX9_passes_30 rfl fX9_10 (hr).c (by decide) ((hr).hi (by decide)) (hr.f (k := 0) rfl (by decide)) ?_
      refine j_getr (n := 36) (k := 2) (b := 19) dX9_passes_33 rfl fX9_123 (hr.1.1).c (hr.1.1).lo ((hr.1.1).hi (by omega)) (hr.1.1).r2 ?_
      refine j_iload_n (n := 37) dX9_passes_36 rfl rfl ?_
      refine jc_aald (n := 38) (t := 3) (L := 10) (i := l) (b := 17 + 21 + l) dX9_passes_37 rfl ((hr.1.1).a2).1 (by decide) rfl ((hr.1.1).a2).2 (by omega) (by decide) (by have := (hr.1.1).lo; omega) ((hr.1.1).hi (by omega)) ((hr.1.1).e2 (by omega)) ?_
      refine j_astore (n := 40) (lv2 := [some (.ref 16), some (.int (nI k)), some (.int (nI l)), some (.ref (17 + 5 + 2 * k)), some (.ref (17 + 21 + l))]) dX9_passes_38 rfl rfl (by decide) rfl ?_
      refine j_aload_n (n := 41) dX9_passes_40 rfl rfl ?_
      refine jc_get (n := 44) (k := 1) (v := nI (c (10 + 5 * k + 1))) dX9_passes_41 rfl fX9_93 ((hr.1.1).p (by omega)).2.2.1 ((hr.1.1).p (by omega)).1 ((hr.1.1).hi (by omega)) (cm_r (ix_p (by omega) (by decide) rfl)) ?_
      refine j_aload (n := 46) dX9_passes_44 rfl rfl ?_
      refine jc_get (n := 49) (k := 0) (v := nI (c (50 + 5 * l + 0))) dX9_passes_46 rfl fX9_135 ((hr.1.1).l (by omega)) (by have := (hr.1.1).lo; omega) ((hr.1.1).hi (by omega)) (cm_r (ix_l (by omega) (by decide) rfl)) ?_
      refine j_icmp_neT (n := 52) (tg := 61) dX9_passes_49 rfl rfl (i_N (by omega)) (i_N (by omega)) (fun h103 => ?_) (fun h103 => ?_)
      · refine j_ldc (n := 63) (v := -1000000002) dX9_passes_61 rfl kX9_158 ?_
        exact j_iret dX9_passes_63 rfl rfl (Nat.le_refl _) (Nat.le_refl _) ⟨_, rfl, (by unfold r_passes; (try simp only [ek, el]); (repeat (first | rw [if_pos (by omega)] | rw [if_neg (by omega)])); all_goals rfl), rfl, _, scT.rf M, (by unfold q_passes; (try simp only [ek, el]); (repeat (first | rw [if_pos (by omega)] | rw [if_neg (by omega)])); all_goals rfl)⟩
      · refine j_aload (n := 54) dX9_passes_52 rfl rfl ?_
        refine j_aload_n (n := 55) dX9_passes_54 rfl rfl ?_
        refine j_cV (n := 58) dX9_passes_55 rfl sX9_177 (c_opensFor (d + 1) G _ _ (17 + 21 + l) ⟨((hr.1.1).l (by omega)), (by have := (hr.1.1).lo; omega), ((hr.1.1).hi (by omega))⟩ (17 + 5 + 2 * k) ((hr.1.1).p (by omega)) (c (50 + 5 * l + 4)) (c (50 + 5 * l + 2)) (c (50 + 5 * l + 3)) (c (10 + 5 * k + 0)) (c (10 + 5 * k + (2 + (c (50 + 5 * l + 2))))) (cm_r (ix_l (by omega) (by decide) rfl)) (cm_r (ix_l (by omega) (by decide) rfl)) (cm_r (ix_l (by omega) (by decide) rfl)) (by omega) (by omega) (by omega) (cm_r (ix_p (by omega) (by decide) rfl)) (cm_r (ix_r1 (by omega) (by omega) rfl)) (by omega) (by omega)) (by omega) (by decide) rfl rfl (Nat.le_of_ble_eq_true rfl) ((hr.1.1).l (by omega)) (by have := (hr.1.1).lo; omega) ((hr.1.1).hi (by omega)) (by decide) (by decide) ?_
        refine j_if_neB (n := 61) (tg := 64) dX9_passes_58 rfl rfl (fun h104 => ?_) (fun h104 => ?_)
        · refine j_aload_n (n := 65) dX9_passes_64 rfl rfl ?_
          refine j_getr (n := 68) (k := 0) (b := 17) dX9_passes_65 rfl fX9_10 (hr).c (by decide) ((hr).hi (by decide)) (hr.f (k := 0) rfl (by decide)) ?_
          refine j_aload_n (n := 69) dX9_passes_68 rfl rfl ?_
          refine j_aload (n := 71) dX9_passes_69 rfl rfl ?_
          refine j_cVvr (n := 74) dX9_passes_71 rfl sX9_181 (c_goThrough d G _ _ _ hr.1.1 _ hx _ _ hw (by omega) (by omega) k (by omega) l (by omega)) (by omega) (by decide) rfl rfl (Nat.le_of_ble_eq_true rfl) (hr.1.1).c (hr.1.1).lo ((hr.1.1).hi (by omega)) (by decide) (by decide) (fun N105 Y105 hh105 => ?_)
          obtain ⟨e2105, M_105, hs105, e3105⟩ := hh105
          rw [e2105, e3105]
          refine j_aload_n (n := 75) dX9_passes_74 rfl rfl ?_
          refine jc_get (n := 78) (k := 1) (v := nI ((goP c k l) (10 + 5 * k + 1))) dX9_passes_75 rfl fX9_93 ((hr.1.1).p (by omega)).2.2.1 ((hr.1.1).p (by omega)).1 ((hr.1.1).hi (by omega)) (cm_r (ix_p (by omega) (by decide) rfl)) ?_
          exact j_iret dX9_passes_78 rfl rfl (Nat.le_refl _) (Nat.le_refl _) ⟨_, rfl, (by unfold r_passes; simp only [ek, el]; rw [if_neg (by omega), if_neg (by omega)]; exact congrArg nI (by unfold goP; rw [pu_ne _ _ (by omega), pu_eq])), rfl, _, (scT.rf M).tr hs105, (by unfold q_passes; (try simp only [ek, el]); (repeat (first | rw [if_pos (by omega)] | rw [if_neg (by omega)])); all_goals rfl)⟩
        · refine j_ldc (n := 63) (v := -1000000002) dX9_passes_61 rfl kX9_158 ?_
          exact j_iret dX9_passes_63 rfl rfl (Nat.le_refl _) (Nat.le_refl _) ⟨_, rfl, (by unfold r_passes; (try simp only [ek, el]); (repeat (first | rw [if_pos (by omega)] | rw [if_neg (by omega)])); all_goals rfl), rfl, _, scT.rf M, (by unfold q_passes; (try simp only [ek, el]); (repeat (first | rw [if_pos (by omega)] | rw [if_neg (by omega)])); all_goals rfl)⟩
    · refine j_ldc (n := 18) (v := -1000000001) dX9_passes_16 rfl kX9_71 ?_
      exact j_iret dX9_passes_18 rfl rfl (Nat.le_refl _) (Nat.le_refl _) ⟨_, rfl, (by unfold r_passes; (try simp only [ek, el]); (repeat (first | rw [if_pos (by omega)] | rw [if_neg (by omega)])); all_goals rfl), rfl, _, scT.rf M, (by unfold q_passes; (try simp only [ek, el]); (repeat (first | rw [if_pos (by omega)] | rw [if_neg (by omega)])); all_goals rfl)⟩
theorem k_days (d : Nat) (G : zG) (M : zMem) (X : zX) (hr : kR X) (c : Nat → Nat) (hx : tx M X 17 c) (b : Nat) (hw : wf c b 9999) (hb : b ≤ 800000000) (n : Int32) : zCall G miX9_days (d + 6) [.ref 16, .int n] (zIr (fun r0 M1 X1 => r0 = r_days c n ∧ X1 = X ∧ ∃ M2, scT M M2 ∧ M1 = cm M2 17 (q_days c n))) (cm M 17 c) X 0 0 := by
  refine zCall.of (lv := [some (.ref 16), some (.int n), none, none, none]) (by decide) (Nat.le_of_ble_eq_true rfl) rfl ?_
  have h2 := hw.day
  refine j_iload_n (n := 1) dX9_days_0 rfl rfl ?_
  refine j_iconst (n := 2) (v := nI 1) dX9_days_1 rfl rfl ?_
  refine j_icmp_ltT (n := 5) (tg := 11) dX9_days_2 rfl rfl rfl (i_N (by omega)) (fun h101 => ?_) (fun h101 => ?_)
  · refine j_ldc (n := 13) (v := -1000000001) dX9_days_11 rfl kX9_71 ?_
    exact j_iret dX9_days_13 rfl rfl (Nat.le_refl _) (Nat.le_refl _) ⟨_, rfl, (by unfold r_days; (try simp only [em]); (repeat (first | rw [if_pos (by omega)] | rw [if_neg (by omega)])); all_goals rfl), rfl, _, scT.rf M, (by unfold q_days; (try simp only [em]); (repeat (first | rw [if_pos (by omega)] | rw [if_neg (by omega)])); all_goals rfl)⟩
  · refine j_iload_n (n := 6) dX9_days_5 rfl rfl ?_
    refine j_bipush (n := 8) (v := nI 100) dX9_days_6 rfl (by decide) ?_
    refine j_icmp_leT (n := 11) (tg := 14) dX9_days_8 rfl rfl rfl (i_N (by omega)) (fun h102 => ?_) (fun h102 => ?_)
    · obtain ⟨m, hm_, rfl⟩ := i_of (x := n) (n := 101) (by omega) (by omega)
      have em : tN (nI m) = m := tN_nI (by omega)
      have im : (nI m).toInt = m := i_N (by omega)
      refine j_aload_n (n := 15) dX9_days_14 rfl rfl ?_
      refine j_getr (n := 18) (k := 0) (b := 17) dX9_days_15 rfl fX9_10 (hr).c (by decide) ((hr).hi (by decide)) (hr.f (k := 0) rfl (by decide)) ?_
      refine jc_get (n := 21) (k := 9) (v := nI (c 3)) dX9_days_18 rfl fX9_185 (hr.1.1).c (hr.1.1).lo ((hr.1.1).hi (by omega)) (cm_r (ix_t rfl)) ?_
      refine j_istore_n (n := 22) (lv2 := [some (.ref 16), some (.int (nI m)), some (.int (nI (c 3))), none, none]) dX9_days_21 rfl rfl (by decide) rfl ?_
      refine j_iload_n (n := 23) dX9_days_22 rfl rfl ?_
      refine j_sipush (n := 26) (v := nI 9999) dX9_days_23 rfl (by decide) ?_
      refine j_aload_n (n := 27) dX9_days_26 rfl rfl ?_
      refine j_getr (n := 30) (k := 0) (b := 17) dX9_days_27 rfl fX9_10 (hr).c (by decide) ((hr).hi (by decide)) (hr.f (k := 0) rfl (by decide)) ?_
      refine jc_get (n := 33) (k := 12) (v := nI (c 2)) dX9_days_30 rfl fX9_188 (hr.1.1).c (hr.1.1).lo ((hr.1.1).hi (by omega)) (cm_r (ix_t rfl)) ?_
      refine j_isubN (n := 34) (c := 9999 - (c 2)) dX9_days_33 rfl (by omega) (by omega) ?_
      refine j_mmin (n := 37) dX9_days_34 rfl sX9_165 (by omega) (Nat.le_of_ble_eq_true rfl) (by decide) (by decide) ?_
      refine j_top (y := nI (min m (9999 - (c 2)))) (minI_N (by omega) (by omega)) ?_
      refine j_istore_n (n := 38) (lv2 := [some (.ref 16), some (.int (nI m)), some (.int (nI (c 3))), some (.int (nI (min m (9999 - (c 2))))), none]) dX9_days_37 rfl rfl (by decide) rfl ?_
      refine j_iconst (n := 39) (v := nI 0) dX9_days_38 rfl rfl ?_
      refine j_istore (n := 41) (lv2 := [some (.ref 16), some (.int (nI m)), some (.int (nI (c 3))), some (.int (nI (min m (9999 - (c 2))))), some (.int (nI 0))]) dX9_days_39 rfl rfl (by decide) rfl ?_
      have loop : ∀ (j k : Nat) (M1 : zMem), min m (9999 - c 2) - k = j → k ≤ min m (9999 - c 2) → scT M M1 → zAt G miX9_days (zRm (d + 6) 0 0) (zQ G (zIr (fun r0 M1 X1 => r0 = r_days c (nI m) ∧ X1 = X ∧ ∃ M2, scT M M2 ∧ M1 = cm M2 17 (q_days c (nI m)))) 0 0) 41 [some (.ref 16), some (.int (nI m)), some (.int (nI (c 3))), some (.int (nI (min m (9999 - c 2)))), some (.int (nI k))] [] (cm M1 17 (daysP c k)) X (0, 0) := by
        intro j
        induction j using Nat.strongRecOn with
        | ind j ih =>
          intro k M1 hj hk0 hsc
          have hwd := wf_days hw k
          have hxd := hx.days hsc hw k
          refine j_iload (n := 43) dX9_days_41 rfl rfl ?_
          refine j_iload_n (n := 44) dX9_days_43 rfl rfl ?_
          refine j_icmp_geT (n := 47) (tg := 60) dX9_days_44 rfl rfl (i_N (by omega)) (i_N (by omega)) (fun h103 => ?_) (fun h103 => ?_)
          · refine j_aload_n (n := 61) dX9_days_60 rfl rfl ?_
            refine j_getr (n := 64) (k := 0) (b := 17) dX9_days_61 rfl fX9_10 (hr).c (by decide) ((hr).hi (by decide)) (hr.f (k := 0) rfl (by decide)) ?_
            refine jc_get (n := 67) (k := 9) (v := nI ((daysP c k) 3)) dX9_days_64 rfl fX9_185 (hr.1.1).c (hr.1.1).lo ((hr.1.1).hi (by omega)) (cm_r (ix_t rfl)) ?_
            refine j_iload_n (n := 68) dX9_days_67 rfl rfl ?_
            refine j_isub (n := 69) dX9_days_68 rfl ?_
            exact j_iret dX9_days_69 rfl rfl (Nat.le_refl _) (Nat.le_refl _) ⟨_, rfl, (by unfold r_days; rw [if_neg (by omega), em, show k = min m (9999 - c 2) by omega]), rfl, _, hsc, (by unfold q_days; rw [if_neg (by omega), em, show k = min m (9999 - c 2) by omega])⟩
          · refine j_aload_n (n := 48) dX9_days_47 rfl rfl ?_
            refine j_getr (n := 51) (k := 0) (b := 17) dX9_days_48 rfl fX9_10 (hr).c (by decide) ((hr).hi (by decide)) (hr.f (k := 0) rfl (by decide)) ?_
            refine j_cVvr (n := 54) dX9_days_51 rfl sX9_191 (c_liveDay d G _ _ _ hr.1.1 _ hxd _ _ hwd (by omega) (by omega)) (by omega) (by decide) rfl rfl (Nat.le_of_ble_eq_true rfl) (hr.1.1).c (hr.1.1).lo ((hr.1.1).hi (by omega)) (by decide) (by decide) (fun N104 Y104 hh104 => ?_)
            obtain ⟨e2104, M_104, hs104, e3104⟩ := hh104
            rw [e2104, e3104]
            refine j_iinc (n := 57) (y := nI (k + 1)) (lv2 := [some (.ref 16), some (.int (nI m)), some (.int (nI (c 3))), some (.int (nI (min m (9999 - c 2)))), some (.int (nI (k + 1)))]) dX9_days_54 rfl rfl (by decide) rfl (show nI k + nI 1 = nI (k + 1) by rw [nI_add]) rfl ?_
            refine j_goto (n := 41) dX9_days_57 rfl ?_
            exact ih _ (by omega) (k + 1) _ rfl (by omega) ((hsc).tr hs104)
      exact loop _ 0 M rfl (Nat.zero_le _) (scT.rf M)
    · refine j_ldc (n := 13) (v := -1000000001) dX9_days_11 rfl kX9_71 ?_
      exact j_iret dX9_days_13 rfl rfl (Nat.le_refl _) (Nat.le_refl _) ⟨_, rfl, (by unfold r_days; (try simp only [em]); (repeat (first | rw [if_pos (by omega)] | rw [if_neg (by omega)])); all_goals rfl), rfl, _, scT.rf M, (by unfold q_days; (try simp only [em]); (repeat (first | rw [if_pos (by omega)] | rw [if_neg (by omega)])); all_goals rfl)⟩
theorem k_town (d : Nat) (G : zG) (M : zMem) (X : zX) (hr : kR X) (c : Nat → Nat) (hw : wfO c) (hwl : wfL c) (what : Int32) : zCall G miX9_town (d + 2) [.ref 16, .int what] (zI (r_town c what) (cm M 17 c) X) (cm M 17 c) X 0 0 := by
  refine zCall.of (lv := [some (.ref 16), some (.int what)]) (by decide) (Nat.le_of_ble_eq_true rfl) rfl ?_
  refine j_iload_n (n := 1) dX9_town_0 rfl rfl ?_
  have hs101 : (what).toInt = 0 ∨ (what).toInt = 1 ∨ (what).toInt = 2 ∨ (what).toInt = 3 ∨ (what).toInt = 4 ∨ ((what).toInt < 0 ∨ 4 < (what).toInt) := by omega
  rcases hs101 with hs101 | hs101 | hs101 | hs101 | hs101 | hs101
  · refine j_tabIn (i := 0) (off := 35) (tg := 36) dX9_town_1 (by omega) (by decide) rfl rfl ?_
    obtain rfl : what = nI 0 := int32_eq (by rw [i_N (by decide)]; omega)
    have ew : tN (nI 0) = 0 := tN_nI (by decide)
    have iw : (nI 0).toInt = 0 := i_N (by decide)
    refine j_aload_n (n := 37) dX9_town_36 rfl rfl ?_
    refine j_getr (n := 40) (k := 0) (b := 17) dX9_town_37 rfl fX9_10 (hr).c (by decide) ((hr).hi (by decide)) (hr.f (k := 0) rfl (by decide)) ?_
    refine jc_get (n := 43) (k := 9) (v := nI (c 3)) dX9_town_40 rfl fX9_185 (hr.1.1).c (hr.1.1).lo ((hr.1.1).hi (by omega)) (cm_r (ix_t rfl)) ?_
    exact j_ri dX9_town_43 rfl (Nat.le_refl _) (Nat.le_refl _) (by unfold r_town; (try simp only [ew]); (repeat (first | rw [if_pos (by omega)] | rw [if_neg (by omega)])); all_goals rfl) rfl rfl
  · refine j_tabIn (i := 1) (off := 43) (tg := 44) dX9_town_1 (by omega) (by decide) rfl rfl ?_
    obtain rfl : what = nI 1 := int32_eq (by rw [i_N (by decide)]; omega)
    have ew : tN (nI 1) = 1 := tN_nI (by decide)
    have iw : (nI 1).toInt = 1 := i_N (by decide)
    refine j_aload_n (n := 45) dX9_town_44 rfl rfl ?_
    refine j_getr (n := 48) (k := 0) (b := 17) dX9_town_45 rfl fX9_10 (hr).c (by decide) ((hr).hi (by decide)) (hr.f (k := 0) rfl (by decide)) ?_
    refine jc_get (n := 51) (k := 10) (v := nI (c 4)) dX9_town_48 rfl fX9_194 (hr.1.1).c (hr.1.1).lo ((hr.1.1).hi (by omega)) (cm_r (ix_t rfl)) ?_
    exact j_ri dX9_town_51 rfl (Nat.le_refl _) (Nat.le_refl _) (by unfold r_town; (try simp only [ew]); (repeat (first | rw [if_pos (by omega)] | rw [if_neg (by omega)])); all_goals rfl) rfl rfl
  · refine j_tabIn (i := 2) (off := 51) (tg := 52) dX9_town_1 (by omega) (by decide) rfl rfl ?_
    obtain rfl : what = nI 2 := int32_eq (by rw [i_N (by decide)]; omega)
    have ew : tN (nI 2) = 2 := tN_nI (by decide)
    have iw : (nI 2).toInt = 2 := i_N (by decide)
    refine j_aload_n (n := 53) dX9_town_52 rfl rfl ?_
    refine j_getr (n := 56) (k := 0) (b := 17) dX9_town_53 rfl fX9_10 (hr).c (by decide) ((hr).hi (by decide)) (hr.f (k := 0) rfl (by decide)) ?_
    refine jc_get (n := 59) (k := 11) (v := nI (c 5)) dX9_town_56 rfl fX9_197 (hr.1.1).c (hr.1.1).lo ((hr.1.1).hi (by omega)) (cm_r (ix_t rfl)) ?_
    exact j_ri dX9_town_59 rfl (Nat.le_refl _) (Nat.le_refl _) (by unfold r_town; (try simp only [ew]); (repeat (first | rw [if_pos (by omega)] | rw [if_neg (by omega)])); all_goals rfl) rfl rfl
  · refine j_tabIn (i := 3) (off := 59) (tg := 60) dX9_town_1 (by omega) (by decide) rfl rfl ?_
    obtain rfl : what = nI 3 := int32_eq (by rw [i_N (by decide)]; omega)
    have ew : tN (nI 3) = 3 := tN_nI (by decide)
    have iw : (nI 3).toInt = 3 := i_N (by decide)
    refine j_aload_n (n := 61) dX9_town_60 rfl rfl ?_
    refine j_getr (n := 64) (k := 0) (b := 17) dX9_town_61 rfl fX9_10 (hr).c (by decide) ((hr).hi (by decide)) (hr.f (k := 0) rfl (by decide)) ?_
    refine j_cV (n := 67) dX9_town_64 rfl sX9_200 (c_allRegretsT d G _ _ _ hr.1.1 _ hw) (by omega) (by decide) rfl rfl (Nat.le_of_ble_eq_true rfl) (hr.1.1).c (hr.1.1).lo ((hr.1.1).hi (by omega)) (by decide) (by decide) ?_
    exact j_ri dX9_town_67 rfl (Nat.le_refl _) (Nat.le_refl _) (by unfold r_town; (try simp only [ew]); (repeat (first | rw [if_pos (by omega)] | rw [if_neg (by omega)])); all_goals rfl) rfl rfl
  · refine j_tabIn (i := 4) (off := 67) (tg := 68) dX9_town_1 (by omega) (by decide) rfl rfl ?_
    obtain rfl : what = nI 4 := int32_eq (by rw [i_N (by decide)]; omega)
    have ew : tN (nI 4) = 4 := tN_nI (by decide)
    have iw : (nI 4).toInt = 4 := i_N (by decide)
    refine j_aload_n (n := 69) dX9_town_68 rfl rfl ?_
    refine j_getr (n := 72) (k := 0) (b := 17) dX9_town_69 rfl fX9_10 (hr).c (by decide) ((hr).hi (by decide)) (hr.f (k := 0) rfl (by decide)) ?_
    refine j_cV (n := 75) dX9_town_72 rfl sX9_203 (c_jammedLocks (d + 1) G _ _ _ hr.1.1 _ hwl) (by omega) (by decide) rfl rfl (Nat.le_of_ble_eq_true rfl) (hr.1.1).c (hr.1.1).lo ((hr.1.1).hi (by omega)) (by decide) (by decide) ?_
    exact j_ri dX9_town_75 rfl (Nat.le_refl _) (Nat.le_refl _) (by unfold r_town; (try simp only [ew]); (repeat (first | rw [if_pos (by omega)] | rw [if_neg (by omega)])); all_goals rfl) rfl rfl
  · refine j_tabOut (tg := 76) dX9_town_1 (by omega) rfl ?_
    refine j_ldc (n := 78) (v := -1000000001) dX9_town_76 rfl kX9_71 ?_
    exact j_ri dX9_town_78 rfl (Nat.le_refl _) (Nat.le_refl _) (by unfold r_town; (try simp only [ew]); (repeat (first | rw [if_pos (by omega)] | rw [if_neg (by omega)])); all_goals rfl) rfl rfl
theorem k_count (d : Nat) (G : zG) (M : zMem) (X : zX) (hr : kR X) (c : Nat → Nat) (what : Int32) : zCall G miX9_count (d + 0) [.ref 16, .int what] (zI (r_count c (tN (M 16 11)) (tN (M 16 7)) what) (cm M 17 c) X) (cm M 17 c) X 0 0 := by
  refine zCall.of (lv := [some (.ref 16), some (.int what)]) (by decide) (Nat.le_of_ble_eq_true rfl) rfl ?_
  refine j_iload_n (n := 1) dX9_count_0 rfl rfl ?_
  have hs101 : (what).toInt = 0 ∨ (what).toInt = 1 ∨ (what).toInt = 2 ∨ (what).toInt = 3 ∨ (what).toInt = 4 ∨ (what).toInt = 5 ∨ (what).toInt = 6 ∨ (what).toInt = 7 ∨ (what).toInt = 8 ∨ ((what).toInt < 0 ∨ 8 < (what).toInt) := by omega
  rcases hs101 with hs101 | hs101 | hs101 | hs101 | hs101 | hs101 | hs101 | hs101 | hs101 | hs101
  · refine j_tabIn (i := 0) (off := 51) (tg := 52) dX9_count_1 (by omega) (by decide) rfl rfl ?_
    obtain rfl : what = nI 0 := int32_eq (by rw [i_N (by decide)]; omega)
    have ew : tN (nI 0) = 0 := tN_nI (by decide)
    have iw : (nI 0).toInt = 0 := i_N (by decide)
    refine j_aload_n (n := 53) dX9_count_52 rfl rfl ?_
    refine j_getr (n := 56) (k := 0) (b := 17) dX9_count_53 rfl fX9_10 (hr).c (by decide) ((hr).hi (by decide)) (hr.f (k := 0) rfl (by decide)) ?_
    refine jc_get (n := 59) (k := 1) (v := nI (c 0)) dX9_count_56 rfl fX9_72 (hr.1.1).c (hr.1.1).lo ((hr.1.1).hi (by omega)) (cm_r (ix_t rfl)) ?_
    exact j_ri dX9_count_59 rfl (Nat.le_refl _) (Nat.le_refl _) (by unfold r_count; (repeat (first | rw [if_pos (by omega)] | rw [if_neg (by omega)])); all_goals rfl) rfl rfl
  · refine j_tabIn (i := 1) (off := 59) (tg := 60) dX9_count_1 (by omega) (by decide) rfl rfl ?_
    obtain rfl : what = nI 1 := int32_eq (by rw [i_N (by decide)]; omega)
    have ew : tN (nI 1) = 1 := tN_nI (by decide)
    have iw : (nI 1).toInt = 1 := i_N (by decide)
    refine j_aload_n (n := 61) dX9_count_60 rfl rfl ?_
    refine j_getr (n := 64) (k := 0) (b := 17) dX9_count_61 rfl fX9_10 (hr).c (by decide) ((hr).hi (by decide)) (hr.f (k := 0) rfl (by decide)) ?_
    refine jc_get (n := 67) (k := 12) (v := nI (c 2)) dX9_count_64 rfl fX9_188 (hr.1.1).c (hr.1.1).lo ((hr.1.1).hi (by omega)) (cm_r (ix_t rfl)) ?_
    exact j_ri dX9_count_67 rfl (Nat.le_refl _) (Nat.le_refl _) (by unfold r_count; (repeat (first | rw [if_pos (by omega)] | rw [if_neg (by omega)])); all_goals rfl) rfl rfl
  · refine j_tabIn (i := 2) (off := 67) (tg := 68) dX9_count_1 (by omega) (by decide) rfl rfl ?_
    obtain rfl : what = nI 2 := int32_eq (by rw [i_N (by decide)]; omega)
    have ew : tN (nI 2) = 2 := tN_nI (by decide)
    have iw : (nI 2).toInt = 2 := i_N (by decide)
    refine j_aload_n (n := 69) dX9_count_68 rfl rfl ?_
    refine j_getr (n := 72) (k := 0) (b := 17) dX9_count_69 rfl fX9_10 (hr).c (by decide) ((hr).hi (by decide)) (hr.f (k := 0) rfl (by decide)) ?_
    refine jc_get (n := 75) (k := 3) (v := nI (c 8)) dX9_count_72 rfl fX9_120 (hr.1.1).c (hr.1.1).lo ((hr.1.1).hi (by omega)) (cm_r (ix_t rfl)) ?_
    exact j_ri dX9_count_75 rfl (Nat.le_refl _) (Nat.le_refl _) (by unfold r_count; (repeat (first | rw [if_pos (by omega)] | rw [if_neg (by omega)])); all_goals rfl) rfl rfl
  · refine j_tabIn (i := 3) (off := 75) (tg := 76) dX9_count_1 (by omega) (by decide) rfl rfl ?_
    obtain rfl : what = nI 3 := int32_eq (by rw [i_N (by decide)]; omega)
    have ew : tN (nI 3) = 3 := tN_nI (by decide)
    have iw : (nI 3).toInt = 3 := i_N (by decide)
    refine j_aload_n (n := 77) dX9_count_76 rfl rfl ?_
    refine j_getr (n := 80) (k := 0) (b := 17) dX9_count_77 rfl fX9_10 (hr).c (by decide) ((hr).hi (by decide)) (hr.f (k := 0) rfl (by decide)) ?_
    refine jc_get (n := 83) (k := 7) (v := nI (c 6)) dX9_count_80 rfl fX9_159 (hr.1.1).c (hr.1.1).lo ((hr.1.1).hi (by omega)) (cm_r (ix_t rfl)) ?_
    exact j_ri dX9_count_83 rfl (Nat.le_refl _) (Nat.le_refl _) (by unfold r_count; (repeat (first | rw [if_pos (by omega)] | rw [if_neg (by omega)])); all_goals rfl) rfl rfl
  · refine j_tabIn (i := 4) (off := 83) (tg := 84) dX9_count_1 (by omega) (by decide) rfl rfl ?_
    obtain rfl : what = nI 4 := int32_eq (by rw [i_N (by decide)]; omega)
    have ew : tN (nI 4) = 4 := tN_nI (by decide)
    have iw : (nI 4).toInt = 4 := i_N (by decide)
    refine j_aload_n (n := 85) dX9_count_84 rfl rfl ?_
    refine j_getr (n := 88) (k := 0) (b := 17) dX9_count_85 rfl fX9_10 (hr).c (by decide) ((hr).hi (by decide)) (hr.f (k := 0) rfl (by decide)) ?_
    refine jc_get (n := 91) (k := 8) (v := nI (c 7)) dX9_count_88 rfl fX9_162 (hr.1.1).c (hr.1.1).lo ((hr.1.1).hi (by omega)) (cm_r (ix_t rfl)) ?_
    exact j_ri dX9_count_91 rfl (Nat.le_refl _) (Nat.le_refl _) (by unfold r_count; (repeat (first | rw [if_pos (by omega)] | rw [if_neg (by omega)])); all_goals rfl) rfl rfl
  · refine j_tabIn (i := 5) (off := 91) (tg := 92) dX9_count_1 (by omega) (by decide) rfl rfl ?_
    obtain rfl : what = nI 5 := int32_eq (by rw [i_N (by decide)]; omega)
    have ew : tN (nI 5) = 5 := tN_nI (by decide)
    have iw : (nI 5).toInt = 5 := i_N (by decide)
    refine j_aload_n (n := 93) dX9_count_92 rfl rfl ?_
    refine j_getr (n := 96) (k := 0) (b := 17) dX9_count_93 rfl fX9_10 (hr).c (by decide) ((hr).hi (by decide)) (hr.f (k := 0) rfl (by decide)) ?_
    refine jc_get (n := 99) (k := 5) (v := nI (c 1)) dX9_count_96 rfl fX9_264 (hr.1.1).c (hr.1.1).lo ((hr.1.1).hi (by omega)) (cm_r (ix_t rfl)) ?_
    exact j_ri dX9_count_99 rfl (Nat.le_refl _) (Nat.le_refl _) (by unfold r_count; (repeat (first | rw [if_pos (by omega)] | rw [if_neg (by omega)])); all_goals rfl) rfl rfl
  · refine j_tabIn (i := 6) (off := 99) (tg := 100) dX9_count_1 (by omega) (by decide) rfl rfl ?_
    obtain rfl : what = nI 6 := int32_eq (by rw [i_N (by decide)]; omega)
    have ew : tN (nI 6) = 6 := tN_nI (by decide)
    have iw : (nI 6).toInt = 6 := i_N (by decide)
    refine j_aload_n (n := 101) dX9_count_100 rfl rfl ?_
    refine jc_get (n := 104) (k := 11) (v := nI (tN (M 16 11))) dX9_count_101 rfl fX9_335 (hr).c (by decide) ((hr).hi (by decide)) ((congrFun (cm_o (ix_n (by decide))) _).trans ((show _ = M 16 11 from rfl).trans (nI_tN _).symm)) ?_
    exact j_ri dX9_count_104 rfl (Nat.le_refl _) (Nat.le_refl _) (by unfold r_count; (repeat (first | rw [if_pos (by omega)] | rw [if_neg (by omega)])); all_goals rfl) rfl rfl
  · refine j_tabIn (i := 7) (off := 104) (tg := 105) dX9_count_1 (by omega) (by decide) rfl rfl ?_
    obtain rfl : what = nI 7 := int32_eq (by rw [i_N (by decide)]; omega)
    have ew : tN (nI 7) = 7 := tN_nI (by decide)
    have iw : (nI 7).toInt = 7 := i_N (by decide)
    refine j_aload_n (n := 106) dX9_count_105 rfl rfl ?_
    refine jc_get (n := 109) (k := 7) (v := nI (tN (M 16 7))) dX9_count_106 rfl fX9_253 (hr).c (by decide) ((hr).hi (by decide)) ((congrFun (cm_o (ix_n (by decide))) _).trans ((show _ = M 16 7 from rfl).trans (nI_tN _).symm)) ?_
    exact j_ri dX9_count_109 rfl (Nat.le_refl _) (Nat.le_refl _) (by unfold r_count; (repeat (first | rw [if_pos (by omega)] | rw [if_neg (by omega)])); all_goals rfl) rfl rfl
  · refine j_tabIn (i := 8) (off := 109) (tg := 110) dX9_count_1 (by omega) (by decide) rfl rfl ?_
    obtain rfl : what = nI 8 := int32_eq (by rw [i_N (by decide)]; omega)
    have ew : tN (nI 8) = 8 := tN_nI (by decide)
    have iw : (nI 8).toInt = 8 := i_N (by decide)
    refine j_aload_n (n := 111) dX9_count_110 rfl rfl ?_
    refine j_getr (n := 114) (k := 0) (b := 17) dX9_count_111 rfl fX9_10 (hr).c (by decide) ((hr).hi (by decide)) (hr.f (k := 0) rfl (by decide)) ?_
    refine jc_get (n := 117) (k := 13) (v := nI (c 9)) dX9_count_114 rfl fX9_174 (hr.1.1).c (hr.1.1).lo ((hr.1.1).hi (by omega)) (cm_r (ix_t rfl)) ?_
    exact j_ri dX9_count_117 rfl (Nat.le_refl _) (Nat.le_refl _) (by unfold r_count; (repeat (first | rw [if_pos (by omega)] | rw [if_neg (by omega)])); all_goals rfl) rfl rfl
  · refine j_tabOut (tg := 118) dX9_count_1 (by omega) rfl ?_
    refine j_ldc (n := 120) (v := -1000000001) dX9_count_118 rfl kX9_71 ?_
    exact j_ri dX9_count_120 rfl (Nat.le_refl _) (Nat.le_refl _) (by unfold r_count; (repeat (first | rw [if_pos (by omega)] | rw [if_neg (by omega)])); all_goals rfl) rfl rfl
theorem k_just (d : Nat) (G : zG) (M : zMem) (X : zX) (hr : kR X) (c : Nat → Nat) (hw : wfO c) (hwl : wfL c) (lock people : Int32) : zCall G miX9_just (d + 3) [.ref 16, .int lock, .int people] (zI (r_just c lock people) (cm M 17 c) X) (cm M 17 c) X 0 0 := by
  refine zCall.of (lv := [some (.ref 16), some (.int lock), some (.int people), none, none]) (by decide) (Nat.le_of_ble_eq_true rfl) rfl ?_
  have hw0 := hw.1
  have hw1 := hwl.1
  refine j_aload_n (n := 1) dX9_just_0 rfl rfl ?_
  refine j_iload_n (n := 2) dX9_just_1 rfl rfl ?_
  refine j_cV (n := 5) dX9_just_2 rfl sX9_132 (k_isLock (d + 2) G _ _ hr _ (by omega) _) (by omega) (by decide) rfl rfl (Nat.le_of_ble_eq_true rfl) (hr).c (by decide) ((hr).hi (by decide)) (by decide) (by decide) ?_
  refine j_if_eqB (n := 8) (tg := 25) dX9_just_5 rfl rfl (fun h101 => ?_) (fun h101 => ?_)
  · refine j_ldc (n := 27) (v := -1000000001) dX9_just_25 rfl kX9_71 ?_
    exact j_ri dX9_just_27 rfl (Nat.le_refl _) (Nat.le_refl _) (by first | (unfold r_just; rw [if_pos (by omega)]; done) | (have hpw : 2 ^ c 0 ≤ 2 ^ 8 := Nat.pow_le_pow_right (by decide) (by omega); unfold r_just; rw [if_pos (by omega)])) rfl rfl
  · refine j_iload_n (n := 9) dX9_just_8 rfl rfl ?_
    refine j_if_ltT (n := 12) (tg := 25) dX9_just_9 rfl rfl (fun h102 => ?_) (fun h102 => ?_)
    · refine j_ldc (n := 27) (v := -1000000001) dX9_just_25 rfl kX9_71 ?_
      exact j_ri dX9_just_27 rfl (Nat.le_refl _) (Nat.le_refl _) (by first | (unfold r_just; rw [if_pos (by omega)]; done) | (have hpw : 2 ^ c 0 ≤ 2 ^ 8 := Nat.pow_le_pow_right (by decide) (by omega); unfold r_just; rw [if_pos (by omega)])) rfl rfl
    · refine j_iload_n (n := 13) dX9_just_12 rfl rfl ?_
      refine j_iconst (n := 14) (v := nI 1) dX9_just_13 rfl rfl ?_
      refine j_aload_n (n := 15) dX9_just_14 rfl rfl ?_
      refine j_getr (n := 18) (k := 0) (b := 17) dX9_just_15 rfl fX9_10 (hr).c (by decide) ((hr).hi (by decide)) (hr.f (k := 0) rfl (by decide)) ?_
      refine jc_get (n := 21) (k := 1) (v := nI (c 0)) dX9_just_18 rfl fX9_72 (hr.1.1).c (hr.1.1).lo ((hr.1.1).hi (by omega)) (cm_r (ix_t rfl)) ?_
      refine j_ishl (n := 22) dX9_just_21 rfl ?_
      refine j_top (y := nI (2 ^ c 0)) (one_shl _ (by omega)) ?_
      have hpw : 2 ^ c 0 ≤ 2 ^ 8 := Nat.pow_le_pow_right (by decide) (by omega)
      refine j_icmp_ltT (n := 25) (tg := 28) dX9_just_22 rfl rfl rfl (i_N (by omega)) (fun h103 => ?_) (fun h103 => ?_)
      · obtain ⟨l, hl_, rfl⟩ := i_of (x := lock) (n := c 8) (by omega) (by omega)
        have el : tN (nI l) = l := tN_nI (by omega)
        have il : (nI l).toInt = l := i_N (by omega)
        have hl := hwl.2 l hl_
        refine j_aload_n (n := 29) dX9_just_28 rfl rfl ?_
        refine j_getr (n := 32) (k := 0) (b := 17) dX9_just_29 rfl fX9_10 (hr).c (by decide) ((hr).hi (by decide)) (hr.f (k := 0) rfl (by decide)) ?_
        refine j_getr (n := 35) (k := 2) (b := 19) dX9_just_32 rfl fX9_123 (hr.1.1).c (hr.1.1).lo ((hr.1.1).hi (by omega)) (hr.1.1).r2 ?_
        refine j_iload_n (n := 36) dX9_just_35 rfl rfl ?_
        refine jc_aald (n := 37) (t := 3) (L := 10) (i := l) (b := 17 + 21 + l) dX9_just_36 rfl ((hr.1.1).a2).1 (by decide) rfl ((hr.1.1).a2).2 (by omega) (by decide) (by have := (hr.1.1).lo; omega) ((hr.1.1).hi (by omega)) ((hr.1.1).e2 (by omega)) ?_
        refine jc_get (n := 40) (k := 2) (v := nI (c (50 + 5 * l + 2))) dX9_just_37 rfl fX9_141 ((hr.1.1).l (by omega)) (by have := (hr.1.1).lo; omega) ((hr.1.1).hi (by omega)) (cm_r (ix_l (by omega) (by decide) rfl)) ?_
        refine j_istore_n (n := 41) (lv2 := [some (.ref 16), some (.int (nI l)), some (.int people), some (.int (nI (c (50 + 5 * l + 2)))), none]) dX9_just_40 rfl rfl (by decide) rfl ?_
        refine j_iconst (n := 42) (v := nI 0) dX9_just_41 rfl rfl ?_
        refine j_istore (n := 44) (lv2 := [some (.ref 16), some (.int (nI l)), some (.int people), some (.int (nI (c (50 + 5 * l + 2)))), some (.int (nI 0))]) dX9_just_42 rfl rfl (by decide) rfl ?_
        have loop : ∀ (j v : Nat), 100 - v = j → v ≤ 100 → fi (fun v => (feelS c (c (50 + 5 * l + 2)) v).toInt = people.toInt) (100 - 0) 0 = fi (fun v => (feelS c (c (50 + 5 * l + 2)) v).toInt = people.toInt) (100 - v) v → zAt G miX9_just (zRm (d + 3) 0 0) (zQ G (zI (r_just c (nI l) people) (cm M 17 c) X) 0 0) 44 [some (.ref 16), some (.int (nI l)), some (.int people), some (.int (nI (c (50 + 5 * l + 2)))), some (.int (nI v))] [] (cm M 17 c) X (0, 0) := by
          intro j
          induction j using Nat.strongRecOn with
          | ind j ih =>
            intro v hj hl0 hF
            refine j_iload (n := 46) dX9_just_44 rfl rfl ?_
            refine j_bipush (n := 48) (v := nI 99) dX9_just_46 rfl (by decide) ?_
            refine j_icmp_gtT (n := 51) (tg := 74) dX9_just_48 rfl rfl (i_N (by omega)) (i_N (by omega)) (fun h104 => ?_) (fun h104 => ?_)
            · refine j_ldc (n := 76) (v := -1000000005) dX9_just_74 rfl kX9_219 ?_
              exact j_ri dX9_just_76 rfl (Nat.le_refl _) (Nat.le_refl _) (by have eF := hF.trans (by first | exact fi_n (by omega) | exact fi_t (by omega) (by omega)); unfold r_just; rw [if_neg (by omega), el, eF]; first | (rw [if_pos (by omega)]; done) | rw [if_neg (by omega)]) rfl rfl
            · refine j_aload_n (n := 52) dX9_just_51 rfl rfl ?_
              refine j_getr (n := 55) (k := 0) (b := 17) dX9_just_52 rfl fX9_10 (hr).c (by decide) ((hr).hi (by decide)) (hr.f (k := 0) rfl (by decide)) ?_
              refine j_iload_n (n := 56) dX9_just_55 rfl rfl ?_
              refine j_iload (n := 58) dX9_just_56 rfl rfl ?_
              refine j_cV (n := 61) dX9_just_58 rfl sX9_216 (c_thoseWhoFeel d G _ _ _ hr.1.1 _ hw (c (50 + 5 * l + 2)) v (by omega) (by omega)) (by omega) (by decide) rfl rfl (Nat.le_of_ble_eq_true rfl) (hr.1.1).c (hr.1.1).lo ((hr.1.1).hi (by omega)) (by decide) (by decide) ?_
              refine j_iload_n (n := 62) dX9_just_61 rfl rfl ?_
              refine j_icmp_neT (n := 65) (tg := 68) dX9_just_62 rfl rfl rfl rfl (fun h105 => ?_) (fun h105 => ?_)
              · refine j_iinc (n := 71) (y := nI (v + 1)) (lv2 := [some (.ref 16), some (.int (nI l)), some (.int people), some (.int (nI (c (50 + 5 * l + 2)))), some (.int (nI (v + 1)))]) dX9_just_68 rfl rfl (by decide) rfl (show nI v + nI 1 = nI (v + 1) by rw [nI_add]) rfl ?_
                refine j_goto (n := 44) dX9_just_71 rfl ?_
                exact ih _ (by omega) (v + 1) rfl (by omega) (hF.trans (fi_s (by omega) (by omega)))
              · refine j_iload (n := 67) dX9_just_65 rfl rfl ?_
                exact j_ri dX9_just_67 rfl (Nat.le_refl _) (Nat.le_refl _) (by have eF := hF.trans (by first | exact fi_n (by omega) | exact fi_t (by omega) (by omega)); unfold r_just; rw [if_neg (by omega), el, eF]; first | (rw [if_pos (by omega)]; done) | rw [if_neg (by omega)]) rfl rfl
        exact loop _ 0 rfl (by omega) rfl
      · refine j_ldc (n := 27) (v := -1000000001) dX9_just_25 rfl kX9_71 ?_
        exact j_ri dX9_just_27 rfl (Nat.le_refl _) (Nat.le_refl _) (by first | (unfold r_just; rw [if_pos (by omega)]; done) | (have hpw : 2 ^ c 0 ≤ 2 ^ 8 := Nat.pow_le_pow_right (by decide) (by omega); unfold r_just; rw [if_pos (by omega)])) rfl rfl
theorem k_sorry (d : Nat) (G : zG) (M : zMem) (X : zX) (hr : kR X) (c : Nat → Nat) (hw : wfO c) (hwl : wfL c) (one lock : Int32) : zCall G miX9_sorry (d + 1) [.ref 16, .int one, .int lock] (zI (r_sorry c one lock) (cm M 17 c) X) (cm M 17 c) X 0 0 := by
  refine zCall.of (lv := [some (.ref 16), some (.int one), some (.int lock), none, none, none, none]) (by decide) (Nat.le_of_ble_eq_true rfl) rfl ?_
  have hw0 := hw.1
  have hw1 := hwl.1
  refine j_aload_n (n := 1) dX9_sorry_0 rfl rfl ?_
  refine j_iload_n (n := 2) dX9_sorry_1 rfl rfl ?_
  refine j_cV (n := 5) dX9_sorry_2 rfl sX9_87 (k_isOne d G _ _ hr _ (by omega) _) (by omega) (by decide) rfl rfl (Nat.le_of_ble_eq_true rfl) (hr).c (by decide) ((hr).hi (by decide)) (by decide) (by decide) ?_
  refine j_if_eqB (n := 8) (tg := 16) dX9_sorry_5 rfl rfl (fun h101 => ?_) (fun h101 => ?_)
  · refine j_ldc (n := 18) (v := -1000000001) dX9_sorry_16 rfl kX9_71 ?_
    exact j_ri dX9_sorry_18 rfl (Nat.le_refl _) (Nat.le_refl _) (by unfold r_sorry; (try simp only [ek, el]); (repeat (first | rw [if_pos (by omega)] | rw [if_neg (by omega)])); all_goals rfl) rfl rfl
  · refine j_aload_n (n := 9) dX9_sorry_8 rfl rfl ?_
    refine j_iload_n (n := 10) dX9_sorry_9 rfl rfl ?_
    refine j_cV (n := 13) dX9_sorry_10 rfl sX9_132 (k_isLock d G _ _ hr _ (by omega) _) (by omega) (by decide) rfl rfl (Nat.le_of_ble_eq_true rfl) (hr).c (by decide) ((hr).hi (by decide)) (by decide) (by decide) ?_
    refine j_if_neB (n := 16) (tg := 19) dX9_sorry_13 rfl rfl (fun h102 => ?_) (fun h102 => ?_)
    · obtain ⟨k, hk_, rfl⟩ := i_of (x := one) (n := c 0) (by omega) (by omega)
      have ek : tN (nI k) = k := tN_nI (by omega)
      have ik : (nI k).toInt = k := i_N (by omega)
      obtain ⟨l, hl_, rfl⟩ := i_of (x := lock) (n := c 8) (by omega) (by omega)
      have el : tN (nI l) = l := tN_nI (by omega)
      have il : (nI l).toInt = l := i_N (by omega)
      have ho := hw.2 k hk_
      have hl := hwl.2 l hl_
      have hrg := hw.reg hk_ (j := c (50 + 5 * l + 2)) (by omega)
      refine j_aload_n (n := 20) dX9_sorry_19 rfl rfl ?_
      refine j_getr (n := 23) (k := 0) (b := 17) dX9_sorry_20 rfl fX9_10 (hr).c (by decide) ((hr).hi (by decide)) (hr.f (k := 0) rfl (by decide)) ?_
      refine j_getr (n := 26) (k := 0) (b := 18) dX9_sorry_23 rfl fX9_77 (hr.1.1).c (hr.1.1).lo ((hr.1.1).hi (by omega)) (hr.1.1).r0 ?_
      refine j_iload_n (n := 27) dX9_sorry_26 rfl rfl ?_
      refine jc_aald (n := 28) (t := 2) (L := 8) (i := k) (b := 17 + 5 + 2 * k) dX9_sorry_27 rfl ((hr.1.1).a1).1 (by decide) rfl ((hr.1.1).a1).2 (by omega) (by decide) (by have := (hr.1.1).lo; omega) ((hr.1.1).hi (by omega)) ((hr.1.1).e1 (by omega)) ?_
      refine j_astore_n (n := 29) (lv2 := [some (.ref 16), some (.int (nI k)), some (.int (nI l)), some (.ref (17 + 5 + 2 * k)), none, none, none]) dX9_sorry_28 rfl rfl (by decide) rfl ?_
      refine j_aload_n (n := 30) dX9_sorry_29 rfl rfl ?_
      refine j_getr (n := 33) (k := 0) (b := 17) dX9_sorry_30 rfl fX9_10 (hr).c (by decide) ((hr).hi (by decide)) (hr.f (k := 0) rfl (by decide)) ?_
      refine j_getr (n := 36) (k := 2) (b := 19) dX9_sorry_33 rfl fX9_123 (hr.1.1).c (hr.1.1).lo ((hr.1.1).hi (by omega)) (hr.1.1).r2 ?_
      refine j_iload_n (n := 37) dX9_sorry_36 rfl rfl ?_
      refine jc_aald (n := 38) (t := 3) (L := 10) (i := l) (b := 17 + 21 + l) dX9_sorry_37 rfl ((hr.1.1).a2).1 (by decide) rfl ((hr.1.1).a2).2 (by omega) (by decide) (by have := (hr.1.1).lo; omega) ((hr.1.1).hi (by omega)) ((hr.1.1).e2 (by omega)) ?_
      refine j_astore (n := 40) (lv2 := [some (.ref 16), some (.int (nI k)), some (.int (nI l)), some (.ref (17 + 5 + 2 * k)), some (.ref (17 + 21 + l)), none, none]) dX9_sorry_38 rfl rfl (by decide) rfl ?_
      refine j_aload_n (n := 41) dX9_sorry_40 rfl rfl ?_
      refine j_getr (n := 44) (k := 2) (b := 17 + 6 + 2 * k) dX9_sorry_41 rfl fX9_96 ((hr.1.1).p (by omega)).2.2.1 ((hr.1.1).p (by omega)).1 ((hr.1.1).hi (by omega)) ((hr.1.1).pr (by omega)) ?_
      refine j_aload (n := 46) dX9_sorry_44 rfl rfl ?_
      refine jc_get (n := 49) (k := 2) (v := nI (c (50 + 5 * l + 2))) dX9_sorry_46 rfl fX9_141 ((hr.1.1).l (by omega)) (by have := (hr.1.1).lo; omega) ((hr.1.1).hi (by omega)) (cm_r (ix_l (by omega) (by decide) rfl)) ?_
      refine j_ialdN (n := 50) (L := 3) (a := 17 + 6 + 2 * k) (i := c (50 + 5 * l + 2)) (v := nI (c (10 + 5 * k + (2 + (c (50 + 5 * l + 2)))))) dX9_sorry_49 rfl ((hr.1.1).pa (by omega)).1 ((hr.1.1).pa (by omega)).2 (by omega) (by decide) (by have := (hr.1.1).lo; omega) ((hr.1.1).hi (by omega)) (cm_r (ix_r (by omega) (by omega) rfl)) ?_
      refine j_istore (n := 52) (lv2 := [some (.ref 16), some (.int (nI k)), some (.int (nI l)), some (.ref (17 + 5 + 2 * k)), some (.ref (17 + 21 + l)), some (.int (nI (c (10 + 5 * k + (2 + (c (50 + 5 * l + 2))))))), none]) dX9_sorry_50 rfl rfl (by decide) rfl ?_
      refine j_iconst (n := 53) (v := nI 0) dX9_sorry_52 rfl rfl ?_
      refine j_istore (n := 55) (lv2 := [some (.ref 16), some (.int (nI k)), some (.int (nI l)), some (.ref (17 + 5 + 2 * k)), some (.ref (17 + 21 + l)), some (.int (nI (c (10 + 5 * k + (2 + (c (50 + 5 * l + 2))))))), some (.int (nI 0))]) dX9_sorry_53 rfl rfl (by decide) rfl ?_
      have loop : ∀ (j m : Nat), 100 - (c (10 + 5 * k + (2 + c (50 + 5 * l + 2))) + m) = j → c (10 + 5 * k + (2 + c (50 + 5 * l + 2))) + m ≤ 100 → sorF c k l = fi (fun v => c (50 + 5 * l + 3) ≤ feelsN (c (10 + 5 * k + 0)) v) (100 - (c (10 + 5 * k + (2 + c (50 + 5 * l + 2))) + m)) (c (10 + 5 * k + (2 + c (50 + 5 * l + 2))) + m) → zAt G miX9_sorry (zRm (d + 1) 0 0) (zQ G (zI (r_sorry c (nI k) (nI l)) (cm M 17 c) X) 0 0) 55 [some (.ref 16), some (.int (nI k)), some (.int (nI l)), some (.ref (17 + 5 + 2 * k)), some (.ref (17 + 21 + l)), some (.int (nI (c (10 + 5 * k + (2 + c (50 + 5 * l + 2)))))), some (.int (nI m))] [] (cm M 17 c) X (0, 0) := by
        intro j
        induction j using Nat.strongRecOn with
        | ind j ih =>
          intro m hj hl0 hF
          refine j_iload (n := 57) dX9_sorry_55 rfl rfl ?_
          refine j_iload (n := 59) dX9_sorry_57 rfl rfl ?_
          refine j_iaddN (n := 60) (c := c (10 + 5 * k + (2 + c (50 + 5 * l + 2))) + m) dX9_sorry_59 rfl rfl ?_
          refine j_bipush (n := 62) (v := nI 99) dX9_sorry_60 rfl (by decide) ?_
          refine j_icmp_gtT (n := 65) (tg := 94) dX9_sorry_62 rfl rfl (i_N (by omega)) (i_N (by omega)) (fun h103 => ?_) (fun h103 => ?_)
          · refine j_ldc (n := 96) (v := -1000000005) dX9_sorry_94 rfl kX9_219 ?_
            exact j_ri dX9_sorry_96 rfl (Nat.le_refl _) (Nat.le_refl _) (by have eF := hF.trans (by first | exact fi_n (by omega) | exact fi_t (by omega) (by omega)); unfold r_sorry; rw [if_neg (by omega), ek, el, eF]; first | (rw [if_pos (by omega), show c (10 + 5 * k + (2 + c (50 + 5 * l + 2))) + m - c (10 + 5 * k + (2 + c (50 + 5 * l + 2))) = m by omega]; done) | rw [if_neg (by omega)]) rfl rfl
          · refine j_aload_n (n := 66) dX9_sorry_65 rfl rfl ?_
            refine jc_get (n := 69) (k := 0) (v := nI (c (10 + 5 * k + 0))) dX9_sorry_66 rfl fX9_90 ((hr.1.1).p (by omega)).2.2.1 ((hr.1.1).p (by omega)).1 ((hr.1.1).hi (by omega)) (cm_r (ix_p (by omega) (by decide) rfl)) ?_
            refine j_iload (n := 71) dX9_sorry_69 rfl rfl ?_
            refine j_iload (n := 73) dX9_sorry_71 rfl rfl ?_
            refine j_iaddN (n := 74) (c := c (10 + 5 * k + (2 + c (50 + 5 * l + 2))) + m) dX9_sorry_73 rfl rfl ?_
            have hff := feelsN_le (k := c (10 + 5 * k + 0)) (r := c (10 + 5 * k + (2 + c (50 + 5 * l + 2))) + m) (by omega)
            refine j_cS (n := 77) dX9_sorry_74 rfl sX9_220 (c_feelsK d G _ _ (c (10 + 5 * k + 0)) (c (10 + 5 * k + (2 + c (50 + 5 * l + 2))) + m) (by omega) (by omega)) (by omega) (by decide) rfl rfl (Nat.le_of_ble_eq_true rfl) (by decide) (by decide) ?_
            refine j_aload (n := 79) dX9_sorry_77 rfl rfl ?_
            refine jc_get (n := 82) (k := 3) (v := nI (c (50 + 5 * l + 3))) dX9_sorry_79 rfl fX9_144 ((hr.1.1).l (by omega)) (by have := (hr.1.1).lo; omega) ((hr.1.1).hi (by omega)) (cm_r (ix_l (by omega) (by decide) rfl)) ?_
            refine j_icmp_ltT (n := 85) (tg := 88) dX9_sorry_82 rfl rfl (i_N (by omega)) (i_N (by omega)) (fun h104 => ?_) (fun h104 => ?_)
            · refine j_iinc (n := 91) (y := nI (m + 1)) (lv2 := [some (.ref 16), some (.int (nI k)), some (.int (nI l)), some (.ref (17 + 5 + 2 * k)), some (.ref (17 + 21 + l)), some (.int (nI (c (10 + 5 * k + (2 + c (50 + 5 * l + 2)))))), some (.int (nI (m + 1)))]) dX9_sorry_88 rfl rfl (by decide) rfl (show nI m + nI 1 = nI (m + 1) by rw [nI_add]) rfl ?_
              refine j_goto (n := 55) dX9_sorry_91 rfl ?_
              exact ih _ (by omega) (m + 1) rfl (by omega) (hF.trans (fi_s (by omega) (by omega)))
            · refine j_iload (n := 87) dX9_sorry_85 rfl rfl ?_
              exact j_ri dX9_sorry_87 rfl (Nat.le_refl _) (Nat.le_refl _) (by have eF := hF.trans (by first | exact fi_n (by omega) | exact fi_t (by omega) (by omega)); unfold r_sorry; rw [if_neg (by omega), ek, el, eF]; first | (rw [if_pos (by omega), show c (10 + 5 * k + (2 + c (50 + 5 * l + 2))) + m - c (10 + 5 * k + (2 + c (50 + 5 * l + 2))) = m by omega]; done) | rw [if_neg (by omega)]) rfl rfl
      exact loop _ 0 rfl (by omega) rfl
    · refine j_ldc (n := 18) (v := -1000000001) dX9_sorry_16 rfl kX9_71 ?_
      exact j_ri dX9_sorry_18 rfl (Nat.le_refl _) (Nat.le_refl _) (by unfold r_sorry; (try simp only [ek, el]); (repeat (first | rw [if_pos (by omega)] | rw [if_neg (by omega)])); all_goals rfl) rfl rfl
theorem k_why (d : Nat) (G : zG) (M : zMem) (X : zX) (hr : kR X) (c : Nat → Nat) (hx : tx M X 17 c) (h1 : c 1 ≤ 14) (key : Int32) : zCall G miX9_why (d + 0) [.ref 16, .int key] (zI (r_why c key) (cm M 17 c) X) (cm M 17 c) X 0 0 := by
  refine zCall.of (lv := [some (.ref 16), some (.int key), none]) (by decide) (Nat.le_of_ble_eq_true rfl) rfl ?_
  refine j_iload_n (n := 1) dX9_why_0 rfl rfl ?_
  refine j_if_ltT (n := 4) (tg := 9) dX9_why_1 rfl rfl (fun h101 => ?_) (fun h101 => ?_)
  · refine j_ldc (n := 11) (v := -1000000001) dX9_why_9 rfl kX9_71 ?_
    exact j_ri dX9_why_11 rfl (Nat.le_refl _) (Nat.le_refl _) (by unfold r_why; (repeat (first | rw [if_pos (by omega)] | rw [if_neg (by omega)])); all_goals rfl) rfl rfl
  · refine j_iload_n (n := 5) dX9_why_4 rfl rfl ?_
    refine j_iconst (n := 6) (v := nI 3) dX9_why_5 rfl rfl ?_
    refine j_icmp_ltT (n := 9) (tg := 12) dX9_why_6 rfl rfl rfl (i_N (by omega)) (fun h102 => ?_) (fun h102 => ?_)
    · obtain ⟨q, hq_, rfl⟩ := i_of (x := key) (n := 3) (by omega) (by omega)
      have eq : tN (nI q) = q := tN_nI (by omega)
      have iq : (nI q).toInt = q := i_N (by omega)
      refine j_aload_n (n := 13) dX9_why_12 rfl rfl ?_
      refine j_getr (n := 16) (k := 0) (b := 17) dX9_why_13 rfl fX9_10 (hr).c (by decide) ((hr).hi (by decide)) (hr.f (k := 0) rfl (by decide)) ?_
      refine j_getr (n := 19) (k := 6) (b := 21) dX9_why_16 rfl fX9_242 (hr.1.1).c (hr.1.1).lo ((hr.1.1).hi (by omega)) (hr.1.1).r6 ?_
      refine j_iload_n (n := 20) dX9_why_19 rfl rfl ?_
      cases hc : cnt c q (c 1) with
      | none =>
        have hno := hx.no (by omega) hc
        refine jc_aaldN (n := 21) (t := 4) (L := 3) (i := q) dX9_why_20 rfl ((hr.1.1).a4).1 (by decide) rfl ((hr.1.1).a4).2 (by omega) (by decide) (by have := (hr.1.1).lo; omega) ((hr.1.1).hi (by omega)) hno ?_
        refine j_astore_nN (n := 22) (lv2 := [some (.ref 16), some (.int (nI q)), some (.null)]) dX9_why_21 rfl rfl (by decide) rfl ?_
        refine j_aload_nN (n := 23) dX9_why_22 rfl rfl ?_
        refine j_ifnonnullN (n := 26) dX9_why_23 rfl ?_
        refine j_ldc (n := 28) (v := -1000000005) dX9_why_26 rfl kX9_219 ?_
        refine j_goto (n := 35) dX9_why_28 rfl ?_
        exact j_ri dX9_why_35 rfl (Nat.le_refl _) (Nat.le_refl _) (by unfold r_why; rw [if_pos (by omega), eq, hc]; unfold cntV; first | (rw [if_pos (by decide)]; done) | (dsimp only; rw [if_neg (by rw [i_N (by omega)]; omega)])) rfl rfl
      | some t =>
        obtain ⟨a, hla, hta⟩ := hx.law (by omega) hc
        obtain ⟨ht1, hkey⟩ := cnt_lt hc
        have ha := hta.1
        refine jc_aald (n := 21) (t := 4) (L := 3) (i := q) (b := a) dX9_why_20 rfl ((hr.1.1).a4).1 (by decide) rfl ((hr.1.1).a4).2 (by omega) (by decide) (by have := (hr.1.1).lo; omega) ((hr.1.1).hi (by omega)) hla ?_
        refine j_astore_n (n := 22) (lv2 := [some (.ref 16), some (.int (nI q)), some (.ref a)]) dX9_why_21 rfl rfl (by decide) rfl ?_
        refine j_aload_n (n := 23) dX9_why_22 rfl rfl ?_
        refine j_ifnonnull (tg := 31) dX9_why_23 rfl ?_
        refine j_aload_n (n := 32) dX9_why_31 rfl rfl ?_
        refine jc_get (n := 35) (k := 0) (v := nI t) dX9_why_32 rfl fX9_280 (hta).2.1 (by have := (hta).1; omega) (by have := (hta).1; omega) ((congrFun (cm_o (ix_n (by omega))) _).trans (hta.2.2.2.2.2.2.1)) ?_
        exact j_ri dX9_why_35 rfl (Nat.le_refl _) (Nat.le_refl _) (by unfold r_why; rw [if_pos (by omega), eq, hc]; unfold cntV; first | (rw [if_pos (by decide)]; done) | (dsimp only; rw [if_neg (by rw [i_N (by omega)]; omega)])) rfl rfl
    · refine j_ldc (n := 11) (v := -1000000001) dX9_why_9 rfl kX9_71 ?_
      exact j_ri dX9_why_11 rfl (Nat.le_refl _) (Nat.le_refl _) (by unfold r_why; (repeat (first | rw [if_pos (by omega)] | rw [if_neg (by omega)])); all_goals rfl) rfl rfl
theorem k_fee (d : Nat) (G : zG) (M : zMem) (X : zX) (hr : kR X) (c : Nat → Nat) (hx : tx M X 17 c) (hwt : wfT c) : zCall G miX9_fee (d + 2) [.ref 16] (zIr (fun r0 M1 X1 => r0 = r_fee c ∧ X1 = X ∧ ∃ M2, scT M M2 ∧ M1 = cm M2 17 c)) (cm M 17 c) X 0 0 := by
  refine zCall.of (lv := [some (.ref 16), none]) (by decide) (Nat.le_of_ble_eq_true rfl) rfl ?_
  refine j_aload_n (n := 1) dX9_fee_0 rfl rfl ?_
  refine j_getr (n := 4) (k := 0) (b := 17) dX9_fee_1 rfl fX9_10 (hr).c (by decide) ((hr).hi (by decide)) (hr.f (k := 0) rfl (by decide)) ?_
  refine j_getr (n := 7) (k := 6) (b := 21) dX9_fee_4 rfl fX9_242 (hr.1.1).c (hr.1.1).lo ((hr.1.1).hi (by omega)) (hr.1.1).r6 ?_
  refine j_iconst (n := 8) (v := nI 1) dX9_fee_7 rfl rfl ?_
  cases hc : cnt c 1 (c 1) with
  | none =>
    have hno := hx.no (by omega) hc
    refine jc_aaldN (n := 9) (t := 4) (L := 3) (i := 1) dX9_fee_8 rfl ((hr.1.1).a4).1 (by decide) rfl ((hr.1.1).a4).2 (by omega) (by decide) (by have := (hr.1.1).lo; omega) ((hr.1.1).hi (by omega)) hno ?_
    refine j_astore_nN (n := 10) (lv2 := [some (.ref 16), some (.null)]) dX9_fee_9 rfl rfl (by decide) rfl ?_
    refine j_aload_nN (n := 11) dX9_fee_10 rfl rfl ?_
    refine j_ifnonnullN (n := 14) dX9_fee_11 rfl ?_
    refine j_aload_n (n := 15) dX9_fee_14 rfl rfl ?_
    refine j_getr (n := 18) (k := 0) (b := 17) dX9_fee_15 rfl fX9_10 (hr).c (by decide) ((hr).hi (by decide)) (hr.f (k := 0) rfl (by decide)) ?_
    refine jc_get (n := 21) (k := 9) (v := nI (c 3)) dX9_fee_18 rfl fX9_185 (hr.1.1).c (hr.1.1).lo ((hr.1.1).hi (by omega)) (cm_r (ix_t rfl)) ?_
    refine j_goto (n := 43) dX9_fee_21 rfl ?_
    exact j_iret dX9_fee_43 rfl rfl (Nat.le_refl _) (Nat.le_refl _) ⟨_, rfl, (by unfold r_fee; rw [hc]), rfl, _, scT.rf M, rfl⟩
  | some t =>
    obtain ⟨a, hla, hta⟩ := hx.law (by omega) hc
    obtain ⟨ht1, hkey⟩ := cnt_lt hc
    have ha := hta.1
    refine jc_aald (n := 9) (t := 4) (L := 3) (i := 1) (b := a) dX9_fee_8 rfl ((hr.1.1).a4).1 (by decide) rfl ((hr.1.1).a4).2 (by omega) (by decide) (by have := (hr.1.1).lo; omega) ((hr.1.1).hi (by omega)) hla ?_
    refine j_astore_n (n := 10) (lv2 := [some (.ref 16), some (.ref a)]) dX9_fee_9 rfl rfl (by decide) rfl ?_
    refine j_aload_n (n := 11) dX9_fee_10 rfl rfl ?_
    refine j_ifnonnull (tg := 24) dX9_fee_11 rfl ?_
    refine j_aload_n (n := 25) dX9_fee_24 rfl rfl ?_
    refine j_aload_n (n := 26) dX9_fee_25 rfl rfl ?_
    refine j_getr (n := 29) (k := 0) (b := 17) dX9_fee_26 rfl fX9_10 (hr).c (by decide) ((hr).hi (by decide)) (hr.f (k := 0) rfl (by decide)) ?_
    refine jc_get (n := 32) (k := 9) (v := nI (c 3)) dX9_fee_29 rfl fX9_185 (hr.1.1).c (hr.1.1).lo ((hr.1.1).hi (by omega)) (cm_r (ix_t rfl)) ?_
    refine j_aload_n (n := 33) dX9_fee_32 rfl rfl ?_
    refine j_getr (n := 36) (k := 0) (b := 17) dX9_fee_33 rfl fX9_10 (hr).c (by decide) ((hr).hi (by decide)) (hr.f (k := 0) rfl (by decide)) ?_
    refine jc_get (n := 39) (k := 10) (v := nI (c 4)) dX9_fee_36 rfl fX9_194 (hr.1.1).c (hr.1.1).lo ((hr.1.1).hi (by omega)) (cm_r (ix_t rfl)) ?_
    refine j_iconst (n := 40) (v := nI 0) dX9_fee_39 rfl rfl ?_
    refine j_cVr (n := 43) dX9_fee_40 rfl sX9_246 (c_valueT d G _ _ 17 (by have := (hr.1.1).2.1; omega) _ hta (hwt.2 t ht1) (nI (c 3)) (nI (c 4)) (nI 0)) (by omega) (by decide) rfl rfl (Nat.le_of_ble_eq_true rfl) (hta).2.1 (by have := (hta).1; omega) (by have := (hta).1; omega) (by decide) (by decide) (fun r101 N101 Y101 hh101 => ?_)
    obtain ⟨e1101, e2101, M_101, hs101, e3101⟩ := hh101
    rw [e1101, e2101, e3101]
    exact j_iret dX9_fee_43 rfl rfl (Nat.le_refl _) (Nat.le_refl _) ⟨_, rfl, (by unfold r_fee; rw [hc]), rfl, _, (scT.rf M).tr hs101, rfl⟩
theorem k_fine (d : Nat) (G : zG) (M : zMem) (X : zX) (hr : kR X) (c : Nat → Nat) (hx : tx M X 17 c) (hw : wfO c) (hwt : wfT c) (one : Int32) : zCall G miX9_fine (d + 2) [.ref 16, .int one] (zIr (fun r0 M1 X1 => r0 = r_fine c one ∧ X1 = X ∧ ∃ M2, scT M M2 ∧ M1 = cm M2 17 c)) (cm M 17 c) X 0 0 := by
  refine zCall.of (lv := [some (.ref 16), some (.int one), none, none]) (by decide) (Nat.le_of_ble_eq_true rfl) rfl ?_
  have hw0 := hw.1
  refine j_aload_n (n := 1) dX9_fine_0 rfl rfl ?_
  refine j_iload_n (n := 2) dX9_fine_1 rfl rfl ?_
  refine j_cV (n := 5) dX9_fine_2 rfl sX9_87 (k_isOne (d + 1) G _ _ hr _ (by omega) _) (by omega) (by decide) rfl rfl (Nat.le_of_ble_eq_true rfl) (hr).c (by decide) ((hr).hi (by decide)) (by decide) (by decide) ?_
  refine j_if_neB (n := 8) (tg := 11) dX9_fine_5 rfl rfl (fun h101 => ?_) (fun h101 => ?_)
  · obtain ⟨k, hk_, rfl⟩ := i_of (x := one) (n := c 0) (by omega) (by omega)
    have ek : tN (nI k) = k := tN_nI (by omega)
    have ik : (nI k).toInt = k := i_N (by omega)
    have ho := hw.2 k hk_
    refine j_aload_n (n := 12) dX9_fine_11 rfl rfl ?_
    refine j_getr (n := 15) (k := 0) (b := 17) dX9_fine_12 rfl fX9_10 (hr).c (by decide) ((hr).hi (by decide)) (hr.f (k := 0) rfl (by decide)) ?_
    refine j_getr (n := 18) (k := 0) (b := 18) dX9_fine_15 rfl fX9_77 (hr.1.1).c (hr.1.1).lo ((hr.1.1).hi (by omega)) (hr.1.1).r0 ?_
    refine j_iload_n (n := 19) dX9_fine_18 rfl rfl ?_
    refine jc_aald (n := 20) (t := 2) (L := 8) (i := k) (b := 17 + 5 + 2 * k) dX9_fine_19 rfl ((hr.1.1).a1).1 (by decide) rfl ((hr.1.1).a1).2 (by omega) (by decide) (by have := (hr.1.1).lo; omega) ((hr.1.1).hi (by omega)) ((hr.1.1).e1 (by omega)) ?_
    refine j_astore_n (n := 21) (lv2 := [some (.ref 16), some (.int (nI k)), some (.ref (17 + 5 + 2 * k)), none]) dX9_fine_20 rfl rfl (by decide) rfl ?_
    refine j_aload_n (n := 22) dX9_fine_21 rfl rfl ?_
    refine j_getr (n := 25) (k := 0) (b := 17) dX9_fine_22 rfl fX9_10 (hr).c (by decide) ((hr).hi (by decide)) (hr.f (k := 0) rfl (by decide)) ?_
    refine j_getr (n := 28) (k := 6) (b := 21) dX9_fine_25 rfl fX9_242 (hr.1.1).c (hr.1.1).lo ((hr.1.1).hi (by omega)) (hr.1.1).r6 ?_
    refine j_iconst (n := 29) (v := nI 2) dX9_fine_28 rfl rfl ?_
    cases hc : cnt c 2 (c 1) with
    | none =>
      have hno := hx.no (by omega) hc
      refine jc_aaldN (n := 30) (t := 4) (L := 3) (i := 2) dX9_fine_29 rfl ((hr.1.1).a4).1 (by decide) rfl ((hr.1.1).a4).2 (by omega) (by decide) (by have := (hr.1.1).lo; omega) ((hr.1.1).hi (by omega)) hno ?_
      refine j_astore_nN (n := 31) (lv2 := [some (.ref 16), some (.int (nI k)), some (.ref (17 + 5 + 2 * k)), some (.null)]) dX9_fine_30 rfl rfl (by decide) rfl ?_
      refine j_aload_nN (n := 32) dX9_fine_31 rfl rfl ?_
      refine j_ifnonnullN (n := 35) dX9_fine_32 rfl ?_
      refine j_aload_n (n := 36) dX9_fine_35 rfl rfl ?_
      refine j_cV (n := 39) dX9_fine_36 rfl sX9_252 (c_allRegretsP (d + 1) G _ _ (17 + 5 + 2 * k) ((hr.1.1).p (by omega)) (c (10 + 5 * k + 2)) (c (10 + 5 * k + 3)) (c (10 + 5 * k + 4)) (cm_r (ix_r1 (by omega) (by omega) rfl)) (cm_r (ix_r1 (by omega) (by omega) rfl)) (cm_r (ix_r1 (by omega) (by omega) rfl))) (by omega) (by decide) rfl rfl (Nat.le_of_ble_eq_true rfl) ((hr.1.1).p (by omega)).2.2.1 ((hr.1.1).p (by omega)).1 ((hr.1.1).hi (by omega)) (by decide) (by decide) ?_
      refine j_goto (n := 55) dX9_fine_39 rfl ?_
      exact j_iret dX9_fine_55 rfl rfl (Nat.le_refl _) (Nat.le_refl _) ⟨_, rfl, (by unfold r_fine; rw [if_neg (by omega), hc, ek]; rfl), rfl, _, scT.rf M, rfl⟩
    | some t =>
      obtain ⟨a, hla, hta⟩ := hx.law (by omega) hc
      obtain ⟨ht1, hkey⟩ := cnt_lt hc
      have ha := hta.1
      refine jc_aald (n := 30) (t := 4) (L := 3) (i := 2) (b := a) dX9_fine_29 rfl ((hr.1.1).a4).1 (by decide) rfl ((hr.1.1).a4).2 (by omega) (by decide) (by have := (hr.1.1).lo; omega) ((hr.1.1).hi (by omega)) hla ?_
      refine j_astore_n (n := 31) (lv2 := [some (.ref 16), some (.int (nI k)), some (.ref (17 + 5 + 2 * k)), some (.ref a)]) dX9_fine_30 rfl rfl (by decide) rfl ?_
      refine j_aload_n (n := 32) dX9_fine_31 rfl rfl ?_
      refine j_ifnonnull (tg := 42) dX9_fine_32 rfl ?_
      refine j_aload_n (n := 43) dX9_fine_42 rfl rfl ?_
      refine j_aload_n (n := 44) dX9_fine_43 rfl rfl ?_
      refine j_cV (n := 47) dX9_fine_44 rfl sX9_252 (c_allRegretsP (d + 1) G _ _ (17 + 5 + 2 * k) ((hr.1.1).p (by omega)) (c (10 + 5 * k + 2)) (c (10 + 5 * k + 3)) (c (10 + 5 * k + 4)) (cm_r (ix_r1 (by omega) (by omega) rfl)) (cm_r (ix_r1 (by omega) (by omega) rfl)) (cm_r (ix_r1 (by omega) (by omega) rfl))) (by omega) (by decide) rfl rfl (Nat.le_of_ble_eq_true rfl) ((hr.1.1).p (by omega)).2.2.1 ((hr.1.1).p (by omega)).1 ((hr.1.1).hi (by omega)) (by decide) (by decide) ?_
      refine j_aload_n (n := 48) dX9_fine_47 rfl rfl ?_
      refine jc_get (n := 51) (k := 1) (v := nI (c (10 + 5 * k + 1))) dX9_fine_48 rfl fX9_93 ((hr.1.1).p (by omega)).2.2.1 ((hr.1.1).p (by omega)).1 ((hr.1.1).hi (by omega)) (cm_r (ix_p (by omega) (by decide) rfl)) ?_
      refine j_iconst (n := 52) (v := nI 0) dX9_fine_51 rfl rfl ?_
      refine j_cVr (n := 55) dX9_fine_52 rfl sX9_246 (c_valueT d G _ _ 17 (by have := (hr.1.1).2.1; omega) _ hta (hwt.2 t ht1) (nI ((c (10 + 5 * k + 2)) + (c (10 + 5 * k + 3)) + (c (10 + 5 * k + 4)))) (nI (c (10 + 5 * k + 1))) (nI 0)) (by omega) (by decide) rfl rfl (Nat.le_of_ble_eq_true rfl) (hta).2.1 (by have := (hta).1; omega) (by have := (hta).1; omega) (by decide) (by decide) (fun r102 N102 Y102 hh102 => ?_)
      obtain ⟨e1102, e2102, M_102, hs102, e3102⟩ := hh102
      rw [e1102, e2102, e3102]
      exact j_iret dX9_fine_55 rfl rfl (Nat.le_refl _) (Nat.le_refl _) ⟨_, rfl, (by unfold r_fine; rw [if_neg (by omega), hc, ek]; rfl), rfl, _, (scT.rf M).tr hs102, rfl⟩
  · refine j_ldc (n := 10) (v := -1000000001) dX9_fine_8 rfl kX9_71 ?_
    exact j_iret dX9_fine_10 rfl rfl (Nat.le_refl _) (Nat.le_refl _) ⟨_, rfl, (by unfold r_fine; rw [if_pos (by omega)]), rfl, _, scT.rf M, rfl⟩
theorem k_textTold (d : Nat) (G : zG) (M : zMem) (X : zX) (hr : kR X) (c : Nat → Nat) (hx : tx M X 17 c) (h1 : c 1 ≤ 14) (text what : Int32) : zCall G miX9_textTold (d + 0) [.ref 16, .int text, .int what] (zI (r_textTold c text what) (cm M 17 c) X) (cm M 17 c) X 0 0 := by
  refine zCall.of (lv := [some (.ref 16), some (.int text), some (.int what), none]) (by decide) (Nat.le_of_ble_eq_true rfl) rfl ?_
  refine j_iload_n (n := 1) dX9_textTold_0 rfl rfl ?_
  refine j_if_ltT (n := 4) (tg := 24) dX9_textTold_1 rfl rfl (fun h101 => ?_) (fun h101 => ?_)
  · refine j_ldc (n := 26) (v := -1000000001) dX9_textTold_24 rfl kX9_71 ?_
    exact j_ri dX9_textTold_26 rfl (Nat.le_refl _) (Nat.le_refl _) (by unfold r_textTold; (repeat (first | rw [if_pos (by omega)] | rw [if_neg (by omega)])); all_goals rfl) rfl rfl
  · refine j_iload_n (n := 5) dX9_textTold_4 rfl rfl ?_
    refine j_aload_n (n := 6) dX9_textTold_5 rfl rfl ?_
    refine j_getr (n := 9) (k := 0) (b := 17) dX9_textTold_6 rfl fX9_10 (hr).c (by decide) ((hr).hi (by decide)) (hr.f (k := 0) rfl (by decide)) ?_
    refine jc_get (n := 12) (k := 5) (v := nI (c 1)) dX9_textTold_9 rfl fX9_264 (hr.1.1).c (hr.1.1).lo ((hr.1.1).hi (by omega)) (cm_r (ix_t rfl)) ?_
    refine j_icmp_geT (n := 15) (tg := 24) dX9_textTold_12 rfl rfl rfl (i_N (by omega)) (fun h102 => ?_) (fun h102 => ?_)
    · refine j_ldc (n := 26) (v := -1000000001) dX9_textTold_24 rfl kX9_71 ?_
      exact j_ri dX9_textTold_26 rfl (Nat.le_refl _) (Nat.le_refl _) (by unfold r_textTold; (repeat (first | rw [if_pos (by omega)] | rw [if_neg (by omega)])); all_goals rfl) rfl rfl
    · refine j_iload_n (n := 16) dX9_textTold_15 rfl rfl ?_
      refine j_if_ltT (n := 19) (tg := 24) dX9_textTold_16 rfl rfl (fun h103 => ?_) (fun h103 => ?_)
      · refine j_ldc (n := 26) (v := -1000000001) dX9_textTold_24 rfl kX9_71 ?_
        exact j_ri dX9_textTold_26 rfl (Nat.le_refl _) (Nat.le_refl _) (by unfold r_textTold; (repeat (first | rw [if_pos (by omega)] | rw [if_neg (by omega)])); all_goals rfl) rfl rfl
      · refine j_iload_n (n := 20) dX9_textTold_19 rfl rfl ?_
        refine j_iconst (n := 21) (v := nI 1) dX9_textTold_20 rfl rfl ?_
        refine j_icmp_leT (n := 24) (tg := 27) dX9_textTold_21 rfl rfl rfl (i_N (by omega)) (fun h104 => ?_) (fun h104 => ?_)
        · obtain ⟨t, ht_, rfl⟩ := i_of (x := text) (n := c 1) (by omega) (by omega)
          have et : tN (nI t) = t := tN_nI (by omega)
          have it : (nI t).toInt = t := i_N (by omega)
          refine j_aload_n (n := 28) dX9_textTold_27 rfl rfl ?_
          refine j_getr (n := 31) (k := 0) (b := 17) dX9_textTold_28 rfl fX9_10 (hr).c (by decide) ((hr).hi (by decide)) (hr.f (k := 0) rfl (by decide)) ?_
          refine j_getr (n := 34) (k := 4) (b := 20) dX9_textTold_31 rfl fX9_271 (hr.1.1).c (hr.1.1).lo ((hr.1.1).hi (by omega)) (hr.1.1).r4 ?_
          refine j_iload_n (n := 35) dX9_textTold_34 rfl rfl ?_
          obtain ⟨a, hla, hta⟩ := hx.1 t ht_
          have ha := hta.1
          refine jc_aald (n := 36) (t := 4) (L := 14) (i := t) (b := a) dX9_textTold_35 rfl ((hr.1.1).a3).1 (by decide) rfl ((hr.1.1).a3).2 (by omega) (by decide) (by have := (hr.1.1).lo; omega) ((hr.1.1).hi (by omega)) hla ?_
          refine j_astore_n (n := 37) (lv2 := [some (.ref 16), some (.int (nI t)), some (.int what), some (.ref a)]) dX9_textTold_36 rfl rfl (by decide) rfl ?_
          refine j_aload_n (n := 38) dX9_textTold_37 rfl rfl ?_
          refine j_ifnonnull (tg := 44) dX9_textTold_38 rfl ?_
          refine j_iload_n (n := 45) dX9_textTold_44 rfl rfl ?_
          refine j_if_neT (n := 48) (tg := 55) dX9_textTold_45 rfl rfl (fun h105 => ?_) (fun h105 => ?_)
          · obtain rfl : what = nI 1 := int32_eq (by rw [i_N (by decide)]; omega)
            have ew : tN (nI 1) = 1 := tN_nI (by decide)
            have iw : (nI 1).toInt = 1 := i_N (by decide)
            refine j_aload_n (n := 56) dX9_textTold_55 rfl rfl ?_
            refine jc_get (n := 59) (k := 2) (v := nI (c (101 + 200 * t))) dX9_textTold_56 rfl fX9_277 (hta).2.1 (by have := (hta).1; omega) (by have := (hta).1; omega) ((congrFun (cm_o (ix_n (by omega))) _).trans (hta.2.2.2.2.2.2.2.2.1)) ?_
            exact j_ri dX9_textTold_59 rfl (Nat.le_refl _) (Nat.le_refl _) (by unfold r_textTold; simp only [et, ew]; rw [if_neg (by omega)]; exact congrArg nI (congrArg c (by omega))) rfl rfl
          · obtain rfl : what = nI 0 := int32_eq (by rw [i_N (by decide)]; omega)
            have ew : tN (nI 0) = 0 := tN_nI (by decide)
            have iw : (nI 0).toInt = 0 := i_N (by decide)
            refine j_aload_n (n := 49) dX9_textTold_48 rfl rfl ?_
            refine jc_get (n := 52) (k := 1) (v := nI (c (100 + 200 * t))) dX9_textTold_49 rfl fX9_274 (hta).2.1 (by have := (hta).1; omega) (by have := (hta).1; omega) ((congrFun (cm_o (ix_n (by omega))) _).trans (hta.2.2.2.2.2.2.2.1)) ?_
            refine j_goto (n := 59) dX9_textTold_52 rfl ?_
            exact j_ri dX9_textTold_59 rfl (Nat.le_refl _) (Nat.le_refl _) (by unfold r_textTold; simp only [et, ew]; rw [if_neg (by omega)]; exact congrArg nI (congrArg c (by omega))) rfl rfl
        · refine j_ldc (n := 26) (v := -1000000001) dX9_textTold_24 rfl kX9_71 ?_
          exact j_ri dX9_textTold_26 rfl (Nat.le_refl _) (Nat.le_refl _) (by unfold r_textTold; (repeat (first | rw [if_pos (by omega)] | rw [if_neg (by omega)])); all_goals rfl) rfl rfl
