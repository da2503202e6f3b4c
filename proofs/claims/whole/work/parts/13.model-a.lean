-- MODEL A: by program (wip/whole/gen/b1.py)
theorem c_isIn (d : Nat) (G : zG) (M : zMem) (X : zX) (v lo hi : Int64) : zCall G miX10_isIn (d + 0) [.long v, .long lo, .long hi] (zI (zB (lo ≤ v ∧ v ≤ hi)) M X) M X 0 0 := by
  refine zCall.of (lv := [some (.long v), none, some (.long lo), none, some (.long hi), none]) (by decide) (Nat.le_of_ble_eq_true rfl) rfl ?_
  refine j_lload_n (n := 1) dX10_isIn_0 rfl rfl ?_
  refine j_lload_n (n := 2) dX10_isIn_1 rfl rfl ?_
  refine j_lcmp (n := 3) dX10_isIn_2 rfl ?_
  refine j_if_lt (n := 6) (tg := 17) dX10_isIn_3 rfl rfl (fun h1 => ?_) (fun h1 => ?_)
  · refine j_iconst (n := 18) (v := nI 0) dX10_isIn_17 rfl rfl ?_
    exact j_rb dX10_isIn_18 rfl rfl (Nat.le_refl _) (Nat.le_refl _) (by simp only [lg_cmp_lt, lg_cmp_gt, Int64.not_lt] at *; first | exact (zB_t ⟨by assumption, by assumption⟩).symm | exact (zB_f (fun z => absurd z.1 (Int64.not_le.mpr (by assumption)))).symm | exact (zB_f (fun z => absurd z.2 (Int64.not_le.mpr (by assumption)))).symm) rfl rfl
  · refine j_lload_n (n := 7) dX10_isIn_6 rfl rfl ?_
    refine j_lload (n := 9) dX10_isIn_7 rfl rfl ?_
    refine j_lcmp (n := 10) dX10_isIn_9 rfl ?_
    refine j_if_gt (n := 13) (tg := 17) dX10_isIn_10 rfl rfl (fun h2 => ?_) (fun h2 => ?_)
    · refine j_iconst (n := 18) (v := nI 0) dX10_isIn_17 rfl rfl ?_
      exact j_rb dX10_isIn_18 rfl rfl (Nat.le_refl _) (Nat.le_refl _) (by simp only [lg_cmp_lt, lg_cmp_gt, Int64.not_lt] at *; first | exact (zB_t ⟨by assumption, by assumption⟩).symm | exact (zB_f (fun z => absurd z.1 (Int64.not_le.mpr (by assumption)))).symm | exact (zB_f (fun z => absurd z.2 (Int64.not_le.mpr (by assumption)))).symm) rfl rfl
    · refine j_iconst (n := 14) (v := nI 1) dX10_isIn_13 rfl rfl ?_
      refine j_goto (n := 18) dX10_isIn_14 rfl ?_
      exact j_rb dX10_isIn_18 rfl rfl (Nat.le_refl _) (Nat.le_refl _) (by simp only [lg_cmp_lt, lg_cmp_gt, Int64.not_lt] at *; first | exact (zB_t ⟨by assumption, by assumption⟩).symm | exact (zB_f (fun z => absurd z.1 (Int64.not_le.mpr (by assumption)))).symm | exact (zB_f (fun z => absurd z.2 (Int64.not_le.mpr (by assumption)))).symm) rfl rfl
theorem c_isInI (d : Nat) (G : zG) (M : zMem) (X : zX) (v lo hi : Int64) {x a b : Int} (hx : v.toInt = x) (ha : lo.toInt = a) (hb : hi.toInt = b) : zCall G miX10_isIn (d + 0) [.long v, .long lo, .long hi] (zI (zB (a ≤ x ∧ x ≤ b)) M X) M X 0 0 := by
  have h : zB (lo ≤ v ∧ v ≤ hi) = zB (a ≤ x ∧ x ≤ b) := zB_congr (by rw [Int64.le_iff_toInt_le, Int64.le_iff_toInt_le, hx, ha, hb])
  rw [← h]
  exact c_isIn d G M X v lo hi
theorem within_N {x : Int32} {m : Nat} (h : m < 2147483648) : (if x.toInt < 0 then (nI 0) else if (m : Int) < x.toInt then nI m else x) = nI (min m x.toInt.toNat) := by
  by_cases h1 : x.toInt < 0
  · rw [if_pos h1, show min m x.toInt.toNat = 0 by omega]
  · rw [if_neg h1]
    by_cases h2 : (m : Int) < x.toInt
    · rw [if_pos h2, show min m x.toInt.toNat = m by omega]
    · rw [if_neg h2]
      apply int32_eq
      rw [i_N (by omega)]
      omega
theorem c_within (d : Nat) (G : zG) (M : zMem) (X : zX) (x : Int32) (m : Nat) (hm : m < 2147483648) : zCall G miX10_within (d + 0) [.int x, .int (nI m)] (zI (nI (min m x.toInt.toNat)) M X) M X 0 0 := by
  refine zCall.of (lv := [some (.int x), some (.int (nI m))]) (by decide) (Nat.le_of_ble_eq_true rfl) rfl ?_
  refine j_iload_n (n := 1) dX10_within_0 rfl rfl ?_
  refine j_if_geT (n := 4) (tg := 8) dX10_within_1 rfl rfl (fun h1 => ?_) (fun h1 => ?_)
  · refine j_iload_n (n := 9) dX10_within_8 rfl rfl ?_
    refine j_iload_n (n := 10) dX10_within_9 rfl rfl ?_
    refine j_icmp_leT (n := 13) (tg := 17) dX10_within_10 rfl rfl rfl (i_N (by omega)) (fun h2 => ?_) (fun h2 => ?_)
    · refine j_iload_n (n := 18) dX10_within_17 rfl rfl ?_
      exact j_ri dX10_within_18 rfl (Nat.le_refl _) (Nat.le_refl _) (by rw [← within_N hm]; first | (rw [if_pos (by omega)]; done) | (rw [if_neg (by omega), if_pos (by omega)]; done) | rw [if_neg (by omega), if_neg (by omega)]) rfl rfl
    · refine j_iload_n (n := 14) dX10_within_13 rfl rfl ?_
      refine j_goto (n := 18) dX10_within_14 rfl ?_
      exact j_ri dX10_within_18 rfl (Nat.le_refl _) (Nat.le_refl _) (by rw [← within_N hm]; first | (rw [if_pos (by omega)]; done) | (rw [if_neg (by omega), if_pos (by omega)]; done) | rw [if_neg (by omega), if_neg (by omega)]) rfl rfl
  · refine j_iconst (n := 5) (v := nI 0) dX10_within_4 rfl rfl ?_
    refine j_goto (n := 18) dX10_within_5 rfl ?_
    exact j_ri dX10_within_18 rfl (Nat.le_refl _) (Nat.le_refl _) (by rw [← within_N hm]; first | (rw [if_pos (by omega)]; done) | (rw [if_neg (by omega), if_pos (by omega)]; done) | rw [if_neg (by omega), if_neg (by omega)]) rfl rfl
theorem c_withinN (d : Nat) (G : zG) (M : zMem) (X : zX) (x m : Nat) (hx : x < 2147483648) (hm : m < 2147483648) : zCall G miX10_within (d + 0) [.int (nI x), .int (nI m)] (zI (nI (min m x)) M X) M X 0 0 := by
  have h := c_within d G M X (nI x) m hm
  rw [i_N hx, Int.toNat_natCast] at h
  exact h
theorem c_orNone (d : Nat) (G : zG) (M : zMem) (X : zX) (x : Int32) : zCall G miX10_orNone (d + 0) [.int x] (zI (if x.toInt < 0 then cNONE else x) M X) M X 0 0 := by
  refine zCall.of (lv := [some (.int x)]) (by decide) (Nat.le_of_ble_eq_true rfl) rfl ?_
  refine j_iload_n (n := 1) dX10_orNone_0 rfl rfl ?_
  refine j_if_geT (n := 4) (tg := 9) dX10_orNone_1 rfl rfl (fun h1 => ?_) (fun h1 => ?_)
  · refine j_iload_n (n := 10) dX10_orNone_9 rfl rfl ?_
    exact j_ri dX10_orNone_10 rfl (Nat.le_refl _) (Nat.le_refl _) (by first | rw [if_pos (by omega)] | rw [if_neg (by omega)]) rfl rfl
  · refine j_ldc (n := 6) (v := -1000000005) dX10_orNone_4 rfl kX10_70 ?_
    refine j_goto (n := 10) dX10_orNone_6 rfl ?_
    exact j_ri dX10_orNone_10 rfl (Nat.le_refl _) (Nat.le_refl _) (by first | rw [if_pos (by omega)] | rw [if_neg (by omega)]) rfl rfl
theorem c_changes (d : Nat) (G : zG) (M : zMem) (X : zX) (hk : kM X) (p : Nat → Nat) (i v : Nat) (hi : i < 3100) : zCall G miX10_changes (d + 0) [.ref 160, .int (nI i), .int (nI v)] (zI (nI (p i)) (mm M (pu p i v)) X) (mm M p) X 0 0 := by
  refine zCall.of (lv := [some (.ref 160), some (.int (nI i)), some (.int (nI v)), none]) (by decide) (Nat.le_of_ble_eq_true rfl) rfl ?_
  refine j_aload_n (n := 1) dX10_changes_0 rfl rfl ?_
  refine jm_get (n := 4) (k := 0) (b := 161) dX10_changes_1 rfl fX10_7 rfl (by decide) hk ?_
  refine j_iload_n (n := 5) dX10_changes_4 rfl rfl ?_
  refine jm_ald (n := 6) (L := 3100) (a := 161) (i := i) (v := nI (p i)) dX10_changes_5 rfl hk rfl (by omega) rfl ?_
  refine j_istore_n (n := 7) (lv2 := [some (.ref 160), some (.int (nI i)), some (.int (nI v)), some (.int (nI (p i)))]) dX10_changes_6 rfl rfl (by decide) rfl ?_
  refine j_aload_n (n := 8) dX10_changes_7 rfl rfl ?_
  refine jm_get (n := 11) (k := 0) (b := 161) dX10_changes_8 rfl fX10_7 rfl (by decide) hk ?_
  refine j_iload_n (n := 12) dX10_changes_11 rfl rfl ?_
  refine j_iload_n (n := 13) dX10_changes_12 rfl rfl ?_
  refine jm_ast (n := 14) (L := 3100) (a := 161) (i := i) (x := nI v) (M2 := mm M (pu p i v)) dX10_changes_13 rfl hk rfl (by omega) (mm_w _ _ _ _) ?_
  refine j_iload_n (n := 15) dX10_changes_14 rfl rfl ?_
  exact j_ri dX10_changes_15 rfl (Nat.le_refl _) (Nat.le_refl _) rfl rfl rfl
theorem c_textAt (d : Nat) (G : zG) (M : zMem) (X : zX) (t : Nat) : zCall G miX10_textAt (d + 0) [.ref 160, .int (nI t)] (zI (nI (100 + 200 * t)) M X) M X 0 0 := by
  refine zCall.of (lv := [some (.ref 160), some (.int (nI t))]) (by decide) (Nat.le_of_ble_eq_true rfl) rfl ?_
  refine j_bipush (n := 2) (v := nI 100) dX10_textAt_0 rfl (by decide) ?_
  refine j_sipush (n := 5) (v := nI 200) dX10_textAt_2 rfl (by decide) ?_
  refine j_iload_n (n := 6) dX10_textAt_5 rfl rfl ?_
  refine j_imulN (n := 7) (c := 200 * t) dX10_textAt_6 rfl rfl ?_
  refine j_iaddN (n := 8) (c := 100 + 200 * t) dX10_textAt_7 rfl rfl ?_
  exact j_ri dX10_textAt_8 rfl (Nat.le_refl _) (Nat.le_refl _) rfl rfl rfl
theorem c_of (d : Nat) (G : zG) (M : zMem) (X : zX) (hk : kM X) (p : Nat → Nat) (k w : Nat) (h : 10 + 5 * k + w < 3100) : zCall G miX10_of (d + 0) [.ref 160, .int (nI k), .int (nI w)] (zI (nI (p (10 + 5 * k + w))) (mm M p) X) (mm M p) X 0 0 := by
  refine zCall.of (lv := [some (.ref 160), some (.int (nI k)), some (.int (nI w))]) (by decide) (Nat.le_of_ble_eq_true rfl) rfl ?_
  refine j_aload_n (n := 1) dX10_of_0 rfl rfl ?_
  refine jm_get (n := 4) (k := 0) (b := 161) dX10_of_1 rfl fX10_7 rfl (by decide) hk ?_
  refine j_bipush (n := 6) (v := nI 10) dX10_of_4 rfl (by decide) ?_
  refine j_iconst (n := 7) (v := nI 5) dX10_of_6 rfl rfl ?_
  refine j_iload_n (n := 8) dX10_of_7 rfl rfl ?_
  refine j_imulN (n := 9) (c := 5 * k) dX10_of_8 rfl rfl ?_
  refine j_iaddN (n := 10) (c := 10 + 5 * k) dX10_of_9 rfl rfl ?_
  refine j_iload_n (n := 11) dX10_of_10 rfl rfl ?_
  refine j_iaddN (n := 12) (c := 10 + 5 * k + w) dX10_of_11 rfl rfl ?_
  refine jm_ald (n := 13) (L := 3100) (a := 161) (i := 10 + 5 * k + w) (v := nI (p (10 + 5 * k + w))) dX10_of_12 rfl hk rfl (by omega) rfl ?_
  exact j_ri dX10_of_13 rfl (Nat.le_refl _) (Nat.le_refl _) rfl rfl rfl
theorem c_gives (d : Nat) (G : zG) (M : zMem) (X : zX) (hk : kM X) (p : Nat → Nat) (k w v : Nat) (h : 10 + 5 * k + w < 3100) : zCall G miX10_gives (d + 0) [.ref 160, .int (nI k), .int (nI w), .int (nI v)] (zV (mm M (pu p (10 + 5 * k + w) v)) X) (mm M p) X 0 0 := by
  refine zCall.of (lv := [some (.ref 160), some (.int (nI k)), some (.int (nI w)), some (.int (nI v))]) (by decide) (Nat.le_of_ble_eq_true rfl) rfl ?_
  refine j_aload_n (n := 1) dX10_gives_0 rfl rfl ?_
  refine jm_get (n := 4) (k := 0) (b := 161) dX10_gives_1 rfl fX10_7 rfl (by decide) hk ?_
  refine j_bipush (n := 6) (v := nI 10) dX10_gives_4 rfl (by decide) ?_
  refine j_iconst (n := 7) (v := nI 5) dX10_gives_6 rfl rfl ?_
  refine j_iload_n (n := 8) dX10_gives_7 rfl rfl ?_
  refine j_imulN (n := 9) (c := 5 * k) dX10_gives_8 rfl rfl ?_
  refine j_iaddN (n := 10) (c := 10 + 5 * k) dX10_gives_9 rfl rfl ?_
  refine j_iload_n (n := 11) dX10_gives_10 rfl rfl ?_
  refine j_iaddN (n := 12) (c := 10 + 5 * k + w) dX10_gives_11 rfl rfl ?_
  refine j_iload_n (n := 13) dX10_gives_12 rfl rfl ?_
  refine jm_ast (n := 14) (L := 3100) (a := 161) (i := 10 + 5 * k + w) (x := nI v) (M2 := mm M (pu p (10 + 5 * k + w) v)) dX10_gives_13 rfl hk rfl (by omega) (mm_w _ _ _ _) ?_
  exact j_rv dX10_gives_14 rfl (Nat.le_refl _) (Nat.le_refl _) rfl rfl
theorem c_lockOf (d : Nat) (G : zG) (M : zMem) (X : zX) (hk : kM X) (p : Nat → Nat) (k w : Nat) (h : 50 + 5 * k + w < 3100) : zCall G miX10_lockOf (d + 0) [.ref 160, .int (nI k), .int (nI w)] (zI (nI (p (50 + 5 * k + w))) (mm M p) X) (mm M p) X 0 0 := by
  refine zCall.of (lv := [some (.ref 160), some (.int (nI k)), some (.int (nI w))]) (by decide) (Nat.le_of_ble_eq_true rfl) rfl ?_
  refine j_aload_n (n := 1) dX10_lockOf_0 rfl rfl ?_
  refine jm_get (n := 4) (k := 0) (b := 161) dX10_lockOf_1 rfl fX10_7 rfl (by decide) hk ?_
  refine j_bipush (n := 6) (v := nI 50) dX10_lockOf_4 rfl (by decide) ?_
  refine j_iconst (n := 7) (v := nI 5) dX10_lockOf_6 rfl rfl ?_
  refine j_iload_n (n := 8) dX10_lockOf_7 rfl rfl ?_
  refine j_imulN (n := 9) (c := 5 * k) dX10_lockOf_8 rfl rfl ?_
  refine j_iaddN (n := 10) (c := 50 + 5 * k) dX10_lockOf_9 rfl rfl ?_
  refine j_iload_n (n := 11) dX10_lockOf_10 rfl rfl ?_
  refine j_iaddN (n := 12) (c := 50 + 5 * k + w) dX10_lockOf_11 rfl rfl ?_
  refine jm_ald (n := 13) (L := 3100) (a := 161) (i := 50 + 5 * k + w) (v := nI (p (50 + 5 * k + w))) dX10_lockOf_12 rfl hk rfl (by omega) rfl ?_
  exact j_ri dX10_lockOf_13 rfl (Nat.le_refl _) (Nat.le_refl _) rfl rfl rfl
theorem c_isOne (d : Nat) (G : zG) (M : zMem) (X : zX) (hk : kM X) (p : Nat → Nat) (hn : p 0 ≤ 8) (x : Int32) : zCall G miX10_isOne (d + 1) [.ref 160, .int x] (zI (zB (0 ≤ x.toInt ∧ x.toInt ≤ (p 0 : Int) - 1)) (mm M p) X) (mm M p) X 0 0 := by
  refine zCall.of (lv := [some (.ref 160), some (.int x)]) (by decide) (Nat.le_of_ble_eq_true rfl) rfl ?_
  refine j_iload_n (n := 1) dX10_isOne_0 rfl rfl ?_
  refine j_i2l (n := 2) dX10_isOne_1 rfl ?_
  refine j_lconst (n := 3) (v := lN 0) dX10_isOne_2 rfl rfl ?_
  refine j_aload_n (n := 4) dX10_isOne_3 rfl rfl ?_
  refine jm_get (n := 7) (k := 0) (b := 161) dX10_isOne_4 rfl fX10_7 rfl (by decide) hk ?_
  refine j_iconst (n := 8) (v := nI 0) dX10_isOne_7 rfl rfl ?_
  refine jm_ald (n := 9) (L := 3100) (a := 161) (i := 0) (v := nI (p 0)) dX10_isOne_8 rfl hk rfl (by omega) rfl ?_
  refine j_iconst (n := 10) (v := nI 1) dX10_isOne_9 rfl rfl ?_
  refine j_isub (n := 11) dX10_isOne_10 rfl ?_
  refine j_i2l (n := 12) dX10_isOne_11 rfl ?_
  refine j_cS (n := 15) dX10_isOne_12 rfl sX10_71 (c_isInI (x := x.toInt) (a := 0) (b := (((p 0) : Nat) : Int) - 1) d G _ _ _ _ _ (l_toInt _) rfl ((l_toInt _).trans (pk_sub_toInt (b := 1) (by omega) (by decide)))) (by omega) (by decide) rfl rfl (Nat.le_of_ble_eq_true rfl) (by decide) (by decide) ?_
  exact j_rb dX10_isOne_15 rfl zB_nar (Nat.le_refl _) (Nat.le_refl _) rfl rfl rfl
theorem c_isText (d : Nat) (G : zG) (M : zMem) (X : zX) (hk : kM X) (p : Nat → Nat) (hn : p 1 ≤ 14) (x : Int32) : zCall G miX10_isText (d + 1) [.ref 160, .int x] (zI (zB (0 ≤ x.toInt ∧ x.toInt ≤ (p 1 : Int) - 1)) (mm M p) X) (mm M p) X 0 0 := by
  refine zCall.of (lv := [some (.ref 160), some (.int x)]) (by decide) (Nat.le_of_ble_eq_true rfl) rfl ?_
  refine j_iload_n (n := 1) dX10_isText_0 rfl rfl ?_
  refine j_i2l (n := 2) dX10_isText_1 rfl ?_
  refine j_lconst (n := 3) (v := lN 0) dX10_isText_2 rfl rfl ?_
  refine j_aload_n (n := 4) dX10_isText_3 rfl rfl ?_
  refine jm_get (n := 7) (k := 0) (b := 161) dX10_isText_4 rfl fX10_7 rfl (by decide) hk ?_
  refine j_iconst (n := 8) (v := nI 1) dX10_isText_7 rfl rfl ?_
  refine jm_ald (n := 9) (L := 3100) (a := 161) (i := 1) (v := nI (p 1)) dX10_isText_8 rfl hk rfl (by omega) rfl ?_
  refine j_iconst (n := 10) (v := nI 1) dX10_isText_9 rfl rfl ?_
  refine j_isub (n := 11) dX10_isText_10 rfl ?_
  refine j_i2l (n := 12) dX10_isText_11 rfl ?_
  refine j_cS (n := 15) dX10_isText_12 rfl sX10_71 (c_isInI (x := x.toInt) (a := 0) (b := (((p 1) : Nat) : Int) - 1) d G _ _ _ _ _ (l_toInt _) rfl ((l_toInt _).trans (pk_sub_toInt (b := 1) (by omega) (by decide)))) (by omega) (by decide) rfl rfl (Nat.le_of_ble_eq_true rfl) (by decide) (by decide) ?_
  exact j_rb dX10_isText_15 rfl zB_nar (Nat.le_refl _) (Nat.le_refl _) rfl rfl rfl
theorem c_isLock (d : Nat) (G : zG) (M : zMem) (X : zX) (hk : kM X) (p : Nat → Nat) (hn : p 8 ≤ 10) (x : Int32) : zCall G miX10_isLock (d + 1) [.ref 160, .int x] (zI (zB (0 ≤ x.toInt ∧ x.toInt ≤ (p 8 : Int) - 1)) (mm M p) X) (mm M p) X 0 0 := by
  refine zCall.of (lv := [some (.ref 160), some (.int x)]) (by decide) (Nat.le_of_ble_eq_true rfl) rfl ?_
  refine j_iload_n (n := 1) dX10_isLock_0 rfl rfl ?_
  refine j_i2l (n := 2) dX10_isLock_1 rfl ?_
  refine j_lconst (n := 3) (v := lN 0) dX10_isLock_2 rfl rfl ?_
  refine j_aload_n (n := 4) dX10_isLock_3 rfl rfl ?_
  refine jm_get (n := 7) (k := 0) (b := 161) dX10_isLock_4 rfl fX10_7 rfl (by decide) hk ?_
  refine j_bipush (n := 9) (v := nI 8) dX10_isLock_7 rfl (by decide) ?_
  refine jm_ald (n := 10) (L := 3100) (a := 161) (i := 8) (v := nI (p 8)) dX10_isLock_9 rfl hk rfl (by omega) rfl ?_
  refine j_iconst (n := 11) (v := nI 1) dX10_isLock_10 rfl rfl ?_
  refine j_isub (n := 12) dX10_isLock_11 rfl ?_
  refine j_i2l (n := 13) dX10_isLock_12 rfl ?_
  refine j_cS (n := 16) dX10_isLock_13 rfl sX10_71 (c_isInI (x := x.toInt) (a := 0) (b := (((p 8) : Nat) : Int) - 1) d G _ _ _ _ _ (l_toInt _) rfl ((l_toInt _).trans (pk_sub_toInt (b := 1) (by omega) (by decide)))) (by omega) (by decide) rfl rfl (Nat.le_of_ble_eq_true rfl) (by decide) (by decide) ?_
  exact j_rb dX10_isLock_16 rfl zB_nar (Nat.le_refl _) (Nat.le_refl _) rfl rfl rfl
theorem c_isRoom (d : Nat) (G : zG) (M : zMem) (X : zX) (x : Int32) : zCall G miX10_isRoom (d + 1) [.int x] (zI (zB (0 ≤ x.toInt ∧ x.toInt ≤ 7)) M X) M X 0 0 := by
  refine zCall.of (lv := [some (.int x)]) (by decide) (Nat.le_of_ble_eq_true rfl) rfl ?_
  refine j_iload_n (n := 1) dX10_isRoom_0 rfl rfl ?_
  refine j_i2l (n := 2) dX10_isRoom_1 rfl ?_
  refine j_lconst (n := 3) (v := lN 0) dX10_isRoom_2 rfl rfl ?_
  refine j_ldc2 (n := 6) (v := lN 7) dX10_isRoom_3 rfl kX10_76 ?_
  refine j_cS (n := 9) dX10_isRoom_6 rfl sX10_71 (c_isInI (x := x.toInt) (a := 0) (b := 7) d G _ _ _ _ _ (l_toInt _) rfl rfl) (by omega) (by decide) rfl rfl (Nat.le_of_ble_eq_true rfl) (by decide) (by decide) ?_
  exact j_rb dX10_isRoom_9 rfl zB_nar (Nat.le_refl _) (Nat.le_refl _) rfl rfl rfl
theorem c_isMost (d : Nat) (G : zG) (M : zMem) (X : zX) (x : Int32) : zCall G miX10_isMost (d + 1) [.int x] (zI (zB (0 ≤ x.toInt ∧ x.toInt ≤ 99)) M X) M X 0 0 := by
  refine zCall.of (lv := [some (.int x)]) (by decide) (Nat.le_of_ble_eq_true rfl) rfl ?_
  refine j_iload_n (n := 1) dX10_isMost_0 rfl rfl ?_
  refine j_i2l (n := 2) dX10_isMost_1 rfl ?_
  refine j_lconst (n := 3) (v := lN 0) dX10_isMost_2 rfl rfl ?_
  refine j_ldc2 (n := 6) (v := lN 99) dX10_isMost_3 rfl kX10_78 ?_
  refine j_cS (n := 9) dX10_isMost_6 rfl sX10_71 (c_isInI (x := x.toInt) (a := 0) (b := 99) d G _ _ _ _ _ (l_toInt _) rfl rfl) (by omega) (by decide) rfl rfl (Nat.le_of_ble_eq_true rfl) (by decide) (by decide) ?_
  exact j_rb dX10_isMost_9 rfl zB_nar (Nat.le_refl _) (Nat.le_refl _) rfl rfl rfl
theorem c_isSheet (d : Nat) (G : zG) (M : zMem) (X : zX) (x : Int32) : zCall G miX10_isSheet (d + 1) [.int x] (zI (zB (0 ≤ x.toInt ∧ x.toInt ≤ 3)) M X) M X 0 0 := by
  refine zCall.of (lv := [some (.int x)]) (by decide) (Nat.le_of_ble_eq_true rfl) rfl ?_
  refine j_iload_n (n := 1) dX10_isSheet_0 rfl rfl ?_
  refine j_i2l (n := 2) dX10_isSheet_1 rfl ?_
  refine j_lconst (n := 3) (v := lN 0) dX10_isSheet_2 rfl rfl ?_
  refine j_ldc2 (n := 6) (v := lN 3) dX10_isSheet_3 rfl kX10_156 ?_
  refine j_cS (n := 9) dX10_isSheet_6 rfl sX10_71 (c_isInI (x := x.toInt) (a := 0) (b := 3) d G _ _ _ _ _ (l_toInt _) rfl rfl) (by omega) (by decide) rfl rfl (Nat.le_of_ble_eq_true rfl) (by decide) (by decide) ?_
  exact j_rb dX10_isSheet_9 rfl zB_nar (Nat.le_refl _) (Nat.le_refl _) rfl rfl rfl
theorem c_isSlot (d : Nat) (G : zG) (M : zMem) (X : zX) (x : Int32) : zCall G miX10_isSlot (d + 1) [.int x] (zI (zB (0 ≤ x.toInt ∧ x.toInt ≤ 4)) M X) M X 0 0 := by
  refine zCall.of (lv := [some (.int x)]) (by decide) (Nat.le_of_ble_eq_true rfl) rfl ?_
  refine j_iload_n (n := 1) dX10_isSlot_0 rfl rfl ?_
  refine j_i2l (n := 2) dX10_isSlot_1 rfl ?_
  refine j_lconst (n := 3) (v := lN 0) dX10_isSlot_2 rfl rfl ?_
  refine j_ldc2 (n := 6) (v := lN 4) dX10_isSlot_3 rfl kX10_139 ?_
  refine j_cS (n := 9) dX10_isSlot_6 rfl sX10_71 (c_isInI (x := x.toInt) (a := 0) (b := 4) d G _ _ _ _ _ (l_toInt _) rfl rfl) (by omega) (by decide) rfl rfl (Nat.le_of_ble_eq_true rfl) (by decide) (by decide) ?_
  exact j_rb dX10_isSlot_9 rfl zB_nar (Nat.le_refl _) (Nat.le_refl _) rfl rfl rfl
theorem c_drawn (d : Nat) (G : zG) (M : zMem) (X : zX) (hk : kM X) (p : Nat → Nat) : zCall G miX10_drawn (d + 0) [.ref 160] (zI (nI (drawV p)) (mm M (drawZ p)) X) (mm M p) X 0 0 := by
  refine zCall.of (lv := [some (.ref 160)]) (by decide) (Nat.le_of_ble_eq_true rfl) rfl ?_
  refine j_aload_n (n := 1) dX10_drawn_0 rfl rfl ?_
  refine jm_get (n := 4) (k := 0) (b := 161) dX10_drawn_1 rfl fX10_7 rfl (by decide) hk ?_
  refine j_bipush (n := 6) (v := nI 9) dX10_drawn_4 rfl (by decide) ?_
  refine j_aload_n (n := 7) dX10_drawn_6 rfl rfl ?_
  refine jm_get (n := 10) (k := 0) (b := 161) dX10_drawn_7 rfl fX10_7 rfl (by decide) hk ?_
  refine j_bipush (n := 12) (v := nI 9) dX10_drawn_10 rfl (by decide) ?_
  refine jm_ald (n := 13) (L := 3100) (a := 161) (i := 9) (v := nI (p 9)) dX10_drawn_12 rfl hk rfl (by omega) rfl ?_
  refine j_ldc (n := 15) (v := 1103515245) dX10_drawn_13 rfl kX10_75 ?_
  refine j_imul (n := 16) dX10_drawn_15 rfl ?_
  refine j_sipush (n := 19) (v := nI 12345) dX10_drawn_16 rfl (by decide) ?_
  refine j_iadd (n := 20) dX10_drawn_19 rfl ?_
  refine j_top (nI_tN (((nI (p 9)) * (1103515245)) + (nI 12345))).symm ?_
  refine jm_ast (n := 21) (L := 3100) (a := 161) (i := 9) (x := nI (tN (((nI (p 9)) * (1103515245)) + (nI 12345)))) (M2 := mm M (pu p 9 (tN (((nI (p 9)) * (1103515245)) + (nI 12345))))) dX10_drawn_20 rfl hk rfl (by omega) (mm_w _ _ _ _) ?_
  refine j_aload_n (n := 22) dX10_drawn_21 rfl rfl ?_
  refine jm_get (n := 25) (k := 0) (b := 161) dX10_drawn_22 rfl fX10_7 rfl (by decide) hk ?_
  refine j_bipush (n := 27) (v := nI 9) dX10_drawn_25 rfl (by decide) ?_
  refine jm_ald (n := 28) (L := 3100) (a := 161) (i := 9) (v := nI (tN (((nI (p 9)) * (1103515245)) + (nI 12345)))) dX10_drawn_27 rfl hk rfl (by omega) (congrArg nI (by repeat (first | rw [pu_eq] | rw [pu_ne _ _ (by omega)] | rw [drawZ_ne _ (by omega)]))) ?_
  refine j_bipush (n := 30) (v := nI 8) dX10_drawn_28 rfl (by decide) ?_
  refine j_iushr (n := 31) dX10_drawn_30 rfl ?_
  exact j_ri dX10_drawn_31 rfl (Nat.le_refl _) (Nat.le_refl _) (zushr8 (tN_lt _)) rfl rfl
theorem c_isOf (d : Nat) (G : zG) (M : zMem) (X : zX) (a b : Nat) (ha : a ≤ 5) (hb : b ≤ 5) : zCall G miX10_isOf (d + 0) [.int (nI a), .int (nI b)] (zI (zB (a = b ∨ b = 0 ∨ (b = 1 ∧ a = 3) ∨ (b = 2 ∧ a = 4))) M X) M X 0 0 := by
  refine zCall.of (lv := [some (.int (nI a)), some (.int (nI b))]) (by decide) (Nat.le_of_ble_eq_true rfl) rfl ?_
  refine j_iload_n (n := 1) dX10_isOf_0 rfl rfl ?_
  refine j_iload_n (n := 2) dX10_isOf_1 rfl rfl ?_
  refine j_icmp_eqT (n := 5) (tg := 29) dX10_isOf_2 rfl rfl (i_N (by omega)) (i_N (by omega)) (fun h1 => ?_) (fun h1 => ?_)
  · refine j_iconst (n := 30) (v := nI 1) dX10_isOf_29 rfl rfl ?_
    refine j_goto (n := 34) dX10_isOf_30 rfl ?_
    exact j_rb dX10_isOf_34 rfl rfl (Nat.le_refl _) (Nat.le_refl _) (by first | exact (zB_t (by omega)).symm | exact (zB_f (by omega)).symm) rfl rfl
  · refine j_iload_n (n := 6) dX10_isOf_5 rfl rfl ?_
    refine j_if_eqN (n := 9) (tg := 29) dX10_isOf_6 rfl rfl (by omega) (fun h2 => ?_) (fun h2 => ?_)
    · refine j_iconst (n := 30) (v := nI 1) dX10_isOf_29 rfl rfl ?_
      refine j_goto (n := 34) dX10_isOf_30 rfl ?_
      exact j_rb dX10_isOf_34 rfl rfl (Nat.le_refl _) (Nat.le_refl _) (by first | exact (zB_t (by omega)).symm | exact (zB_f (by omega)).symm) rfl rfl
    · refine j_iload_n (n := 10) dX10_isOf_9 rfl rfl ?_
      refine j_iconst (n := 11) (v := nI 1) dX10_isOf_10 rfl rfl ?_
      refine j_icmp_neT (n := 14) (tg := 19) dX10_isOf_11 rfl rfl (i_N (by omega)) (i_N (by omega)) (fun h3 => ?_) (fun h3 => ?_)
      · refine j_iload_n (n := 20) dX10_isOf_19 rfl rfl ?_
        refine j_iconst (n := 21) (v := nI 2) dX10_isOf_20 rfl rfl ?_
        refine j_icmp_neT (n := 24) (tg := 33) dX10_isOf_21 rfl rfl (i_N (by omega)) (i_N (by omega)) (fun h4 => ?_) (fun h4 => ?_)
        · refine j_iconst (n := 34) (v := nI 0) dX10_isOf_33 rfl rfl ?_
          exact j_rb dX10_isOf_34 rfl rfl (Nat.le_refl _) (Nat.le_refl _) (by first | exact (zB_t (by omega)).symm | exact (zB_f (by omega)).symm) rfl rfl
        · refine j_iload_n (n := 25) dX10_isOf_24 rfl rfl ?_
          refine j_iconst (n := 26) (v := nI 4) dX10_isOf_25 rfl rfl ?_
          refine j_icmp_neT (n := 29) (tg := 33) dX10_isOf_26 rfl rfl (i_N (by omega)) (i_N (by omega)) (fun h5 => ?_) (fun h5 => ?_)
          · refine j_iconst (n := 34) (v := nI 0) dX10_isOf_33 rfl rfl ?_
            exact j_rb dX10_isOf_34 rfl rfl (Nat.le_refl _) (Nat.le_refl _) (by first | exact (zB_t (by omega)).symm | exact (zB_f (by omega)).symm) rfl rfl
          · refine j_iconst (n := 30) (v := nI 1) dX10_isOf_29 rfl rfl ?_
            refine j_goto (n := 34) dX10_isOf_30 rfl ?_
            exact j_rb dX10_isOf_34 rfl rfl (Nat.le_refl _) (Nat.le_refl _) (by first | exact (zB_t (by omega)).symm | exact (zB_f (by omega)).symm) rfl rfl
      · refine j_iload_n (n := 15) dX10_isOf_14 rfl rfl ?_
        refine j_iconst (n := 16) (v := nI 3) dX10_isOf_15 rfl rfl ?_
        refine j_icmp_eqT (n := 19) (tg := 29) dX10_isOf_16 rfl rfl (i_N (by omega)) (i_N (by omega)) (fun h6 => ?_) (fun h6 => ?_)
        · refine j_iconst (n := 30) (v := nI 1) dX10_isOf_29 rfl rfl ?_
          refine j_goto (n := 34) dX10_isOf_30 rfl ?_
          exact j_rb dX10_isOf_34 rfl rfl (Nat.le_refl _) (Nat.le_refl _) (by first | exact (zB_t (by omega)).symm | exact (zB_f (by omega)).symm) rfl rfl
        · refine j_iload_n (n := 20) dX10_isOf_19 rfl rfl ?_
          refine j_iconst (n := 21) (v := nI 2) dX10_isOf_20 rfl rfl ?_
          refine j_icmp_neT (n := 24) (tg := 33) dX10_isOf_21 rfl rfl (i_N (by omega)) (i_N (by omega)) (fun h7 => ?_) (fun h7 => ?_)
          · refine j_iconst (n := 34) (v := nI 0) dX10_isOf_33 rfl rfl ?_
            exact j_rb dX10_isOf_34 rfl rfl (Nat.le_refl _) (Nat.le_refl _) (by first | exact (zB_t (by omega)).symm | exact (zB_f (by omega)).symm) rfl rfl
          · refine j_iload_n (n := 25) dX10_isOf_24 rfl rfl ?_
            refine j_iconst (n := 26) (v := nI 4) dX10_isOf_25 rfl rfl ?_
            refine j_icmp_neT (n := 29) (tg := 33) dX10_isOf_26 rfl rfl (i_N (by omega)) (i_N (by omega)) (fun h8 => ?_) (fun h8 => ?_)
            · refine j_iconst (n := 34) (v := nI 0) dX10_isOf_33 rfl rfl ?_
              exact j_rb dX10_isOf_34 rfl rfl (Nat.le_refl _) (Nat.le_refl _) (by first | exact (zB_t (by omega)).symm | exact (zB_f (by omega)).symm) rfl rfl
            · refine j_iconst (n := 30) (v := nI 1) dX10_isOf_29 rfl rfl ?_
              refine j_goto (n := 34) dX10_isOf_30 rfl ?_
              exact j_rb dX10_isOf_34 rfl rfl (Nat.le_refl _) (Nat.le_refl _) (by first | exact (zB_t (by omega)).symm | exact (zB_f (by omega)).symm) rfl rfl
theorem c_feels (d : Nat) (G : zG) (M : zMem) (X : zX) (k r : Nat) (hk : k ≤ 5) (hr : r ≤ 99) : zCall G miX10_feels (d + 0) [.int (nI k), .int (nI r)] (zI (nI (feelsN k r)) M X) M X 0 0 := by
  refine zCall.of (lv := [some (.int (nI k)), some (.int (nI r))]) (by decide) (Nat.le_of_ble_eq_true rfl) rfl ?_
  refine j_iload_n (n := 1) dX10_feels_0 rfl rfl ?_
  have hs1 : k = 1 ∨ k = 2 ∨ k = 3 ∨ k = 4 ∨ k = 5 ∨ (k < 1 ∨ 5 < k) := by omega
  rcases hs1 with hs1 | hs1 | hs1 | hs1 | hs1 | hs1
  · refine j_tabIn (i := 0) (off := 35) (tg := 36) dX10_feels_1 (by rw [i_N (by omega)]; omega) (by decide) rfl rfl ?_
    refine j_iload_n (n := 37) dX10_feels_36 rfl rfl ?_
    refine j_bipush (n := 39) (v := nI 9) dX10_feels_37 rfl (by decide) ?_
    refine j_iaddN (n := 40) (c := r + 9) dX10_feels_39 rfl rfl ?_
    exact j_ri dX10_feels_40 rfl (Nat.le_refl _) (Nat.le_refl _) (by unfold feelsN; repeat (first | rw [if_pos (by omega)] | rw [if_neg (by omega)])) rfl rfl
  · refine j_tabIn (i := 1) (off := 47) (tg := 48) dX10_feels_1 (by rw [i_N (by omega)]; omega) (by decide) rfl rfl ?_
    refine j_iload_n (n := 49) dX10_feels_48 rfl rfl ?_
    refine j_iconst (n := 50) (v := nI 2) dX10_feels_49 rfl rfl ?_
    refine j_idivN (n := 51) (c := r / 2) dX10_feels_50 rfl (by omega) (by omega) (by omega) rfl ?_
    exact j_ri dX10_feels_51 rfl (Nat.le_refl _) (Nat.le_refl _) (by unfold feelsN; repeat (first | rw [if_pos (by omega)] | rw [if_neg (by omega)])) rfl rfl
  · refine j_tabIn (i := 2) (off := 40) (tg := 41) dX10_feels_1 (by rw [i_N (by omega)]; omega) (by decide) rfl rfl ?_
    refine j_iconst (n := 42) (v := nI 2) dX10_feels_41 rfl rfl ?_
    refine j_iload_n (n := 43) dX10_feels_42 rfl rfl ?_
    refine j_bipush (n := 45) (v := nI 9) dX10_feels_43 rfl (by decide) ?_
    refine j_iaddN (n := 46) (c := r + 9) dX10_feels_45 rfl rfl ?_
    refine j_imulN (n := 47) (c := 2 * (r + 9)) dX10_feels_46 rfl rfl ?_
    exact j_ri dX10_feels_47 rfl (Nat.le_refl _) (Nat.le_refl _) (by unfold feelsN; repeat (first | rw [if_pos (by omega)] | rw [if_neg (by omega)])) rfl rfl
  · refine j_tabIn (i := 3) (off := 51) (tg := 52) dX10_feels_1 (by rw [i_N (by omega)]; omega) (by decide) rfl rfl ?_
    refine j_iload_n (n := 53) dX10_feels_52 rfl rfl ?_
    refine j_iconst (n := 54) (v := nI 2) dX10_feels_53 rfl rfl ?_
    refine j_idivN (n := 55) (c := r / 2) dX10_feels_54 rfl (by omega) (by omega) (by omega) rfl ?_
    refine j_iconst (n := 56) (v := nI 3) dX10_feels_55 rfl rfl ?_
    refine j_iaddN (n := 57) (c := r / 2 + 3) dX10_feels_56 rfl rfl ?_
    exact j_ri dX10_feels_57 rfl (Nat.le_refl _) (Nat.le_refl _) (by unfold feelsN; repeat (first | rw [if_pos (by omega)] | rw [if_neg (by omega)])) rfl rfl
  · refine j_tabIn (i := 4) (off := 57) (tg := 58) dX10_feels_1 (by rw [i_N (by omega)]; omega) (by decide) rfl rfl ?_
    refine j_iconst (n := 59) (v := nI 0) dX10_feels_58 rfl rfl ?_
    exact j_ri dX10_feels_59 rfl (Nat.le_refl _) (Nat.le_refl _) (by unfold feelsN; repeat (first | rw [if_pos (by omega)] | rw [if_neg (by omega)])) rfl rfl
  · refine j_tabOut (tg := 60) dX10_feels_1 (by rw [i_N (by omega)]; omega) rfl ?_
    refine j_iload_n (n := 61) dX10_feels_60 rfl rfl ?_
    exact j_ri dX10_feels_61 rfl (Nat.le_refl _) (Nat.le_refl _) (by unfold feelsN; repeat (first | rw [if_pos (by omega)] | rw [if_neg (by omega)])) rfl rfl
