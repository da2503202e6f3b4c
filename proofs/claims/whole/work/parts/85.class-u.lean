-- CLASS U: by program (wip/whole/gen/c21.py)
theorem k_isAtHand0 (d : Nat) (G : zG) (M : zMem) (X : zX) (hr : kR X) (hb : xR X 118 0 = some 122) (T : Nat → Nat) (hT : tpC M T) (hT2 : ∀ i, T i ≤ 255) (q : Nat → Nat) (R : Nat → Int32) (o : Nat → Nat) (hf : zFm G) (hL : q 3 ≤ 96) (h23 : q 2 ≤ q 3) : zCall G miX2_isAtHand (d + 4) [.ref 118, .ref (3 + 0)] (zI (zB (q 3 - q 2 = 4 ∧ T (q 2) = 119 ∧ T (q 2 + 1) = 101 ∧ T (q 2 + 2) = 97 ∧ T (q 2 + 3) = 114)) (pq M q R o) X) (pq M q R o) X 0 0 := by
  refine zCall.of (lv := [some (.ref 118), some (.ref (3 + 0)), none]) (by decide) (Nat.le_of_ble_eq_true rfl) rfl ?_
  have hs0 := sb_int (hT2 (q 2))
  have hs1 := sb_int (hT2 (q 2 + 1))
  have hs2 := sb_int (hT2 (q 2 + 2))
  have hs3 := sb_int (hT2 (q 2 + 3))
  refine j_aload_n (n := 1) dX2_isAtHand_0 rfl rfl ?_
  refine jc_get (n := 4) (k := 3) (v := nI (q 3)) dX2_isAtHand_1 rfl fX2_87 (hr.a (a := 118) rfl (by decide) rfl).1 (by decide) (hr.hi (by decide)) (pq_q _ _ _ _ _) ?_
  refine j_aload_n (n := 5) dX2_isAtHand_4 rfl rfl ?_
  refine jc_get (n := 8) (k := 2) (v := nI (q 2)) dX2_isAtHand_5 rfl fX2_37 (hr.a (a := 118) rfl (by decide) rfl).1 (by decide) (hr.hi (by decide)) (pq_q _ _ _ _ _) ?_
  refine j_isubN (n := 9) (c := q 3 - (q 2)) dX2_isAtHand_8 rfl (by omega) (by omega) ?_
  refine j_aload_n (n := 10) dX2_isAtHand_9 rfl rfl ?_
  refine j_cVs (n := 13) (a := 0) dX2_isAtHand_10 rfl uX2_110 (by decide) (s_length (d + 2) G _ _ 0 (by decide)) (by omega) (by decide) rfl rfl (Nat.le_of_ble_eq_true rfl) (by decide) (by decide) ?_
  refine j_top (y := nI 4) rfl ?_
  refine j_icmp_eqT (n := 16) (tg := 18) dX2_isAtHand_13 rfl rfl (i_N (by omega)) (i_N (by omega)) (fun h101 => ?_) (fun h101 => ?_)
  · refine j_iconst (n := 19) (v := nI 0) dX2_isAtHand_18 rfl rfl ?_
    refine j_istore_n (n := 20) (lv2 := [some (.ref 118), some (.ref (3 + 0)), some (.int (nI 0))]) dX2_isAtHand_19 rfl rfl (by decide) rfl ?_
    refine j_iload_n (n := 21) dX2_isAtHand_20 rfl rfl ?_
    refine j_aload_n (n := 22) dX2_isAtHand_21 rfl rfl ?_
    refine j_cVs (n := 25) (a := 0) dX2_isAtHand_22 rfl uX2_110 (by decide) (s_length (d + 2) G _ _ 0 (by decide)) (by omega) (by decide) rfl rfl (Nat.le_of_ble_eq_true rfl) (by decide) (by decide) ?_
    refine j_top (y := nI 4) rfl ?_
    refine j_icmp_geT (n := 28) (tg := 55) dX2_isAtHand_25 rfl rfl (i_N (by omega)) (i_N (by omega)) (fun h102 => ?_) (fun h102 => ?_)
    · exact absurd h102 (by decide)
    · refine j_aload_n (n := 29) dX2_isAtHand_28 rfl rfl ?_
      refine j_getr (n := 32) (k := 0) (b := 122) dX2_isAtHand_29 rfl fX2_9 (hr.a (a := 118) rfl (by decide) rfl).1 (by decide) (hr.hi (by decide)) hb ?_
      refine j_aload_n (n := 33) dX2_isAtHand_32 rfl rfl ?_
      refine jc_get (n := 36) (k := 2) (v := nI (q 2)) dX2_isAtHand_33 rfl fX2_37 (hr.a (a := 118) rfl (by decide) rfl).1 (by decide) (hr.hi (by decide)) (pq_q _ _ _ _ _) ?_
      refine j_iload_n (n := 37) dX2_isAtHand_36 rfl rfl ?_
      refine j_iaddN (n := 38) (c := q 2) dX2_isAtHand_37 rfl (by omega) ?_
      refine j_baldN (n := 39) (L := 96) (a := 122) (i := q 2) (v := sb (T (q 2))) dX2_isAtHand_38 rfl (hr.a (a := 122) rfl (by decide) rfl).1 (hr.a (a := 122) rfl (by decide) rfl).2 (by omega) (by decide) (by decide) (hr.hi (by decide)) ((congrFun (pq_n _ _ _ _ (by decide) (by decide) (by decide)) _).trans (hT _ (by omega))) ?_
      refine j_aload_n (n := 40) dX2_isAtHand_39 rfl rfl ?_
      refine j_iload_n (n := 41) dX2_isAtHand_40 rfl rfl ?_
      refine j_cVs (n := 44) (a := 0) dX2_isAtHand_41 rfl uX2_114 (by decide) (s_charAt d G _ _ hf 0 (by decide) 0 (by decide)) (by omega) (by decide) rfl rfl (Nat.le_of_ble_eq_true rfl) (by decide) (by decide) ?_
      refine j_top (y := nI 119) rfl ?_
      refine j_icmp_eqT (n := 47) (tg := 49) dX2_isAtHand_44 rfl rfl rfl (i_N (by omega)) (fun h103 => ?_) (fun h103 => ?_)
      · refine j_iinc (n := 52) (y := nI 1) (lv2 := [some (.ref 118), some (.ref (3 + 0)), some (.int (nI 1))]) dX2_isAtHand_49 rfl rfl (by decide) rfl (show nI 0 + nI 1 = nI 1 by rw [nI_add]; try (congr 1)) rfl ?_
        refine j_goto (n := 20) dX2_isAtHand_52 rfl ?_
        refine j_iload_n (n := 21) dX2_isAtHand_20 rfl rfl ?_
        refine j_aload_n (n := 22) dX2_isAtHand_21 rfl rfl ?_
        refine j_cVs (n := 25) (a := 0) dX2_isAtHand_22 rfl uX2_110 (by decide) (s_length (d + 2) G _ _ 0 (by decide)) (by omega) (by decide) rfl rfl (Nat.le_of_ble_eq_true rfl) (by decide) (by decide) ?_
        refine j_top (y := nI 4) rfl ?_
        refine j_icmp_geT (n := 28) (tg := 55) dX2_isAtHand_25 rfl rfl (i_N (by omega)) (i_N (by omega)) (fun h104 => ?_) (fun h104 => ?_)
        · exact absurd h104 (by decide)
        · refine j_aload_n (n := 29) dX2_isAtHand_28 rfl rfl ?_
          refine j_getr (n := 32) (k := 0) (b := 122) dX2_isAtHand_29 rfl fX2_9 (hr.a (a := 118) rfl (by decide) rfl).1 (by decide) (hr.hi (by decide)) hb ?_
          refine j_aload_n (n := 33) dX2_isAtHand_32 rfl rfl ?_
          refine jc_get (n := 36) (k := 2) (v := nI (q 2)) dX2_isAtHand_33 rfl fX2_37 (hr.a (a := 118) rfl (by decide) rfl).1 (by decide) (hr.hi (by decide)) (pq_q _ _ _ _ _) ?_
          refine j_iload_n (n := 37) dX2_isAtHand_36 rfl rfl ?_
          refine j_iaddN (n := 38) (c := q 2 + 1) dX2_isAtHand_37 rfl rfl ?_
          refine j_baldN (n := 39) (L := 96) (a := 122) (i := q 2 + 1) (v := sb (T (q 2 + 1))) dX2_isAtHand_38 rfl (hr.a (a := 122) rfl (by decide) rfl).1 (hr.a (a := 122) rfl (by decide) rfl).2 (by omega) (by decide) (by decide) (hr.hi (by decide)) ((congrFun (pq_n _ _ _ _ (by decide) (by decide) (by decide)) _).trans (hT _ (by omega))) ?_
          refine j_aload_n (n := 40) dX2_isAtHand_39 rfl rfl ?_
          refine j_iload_n (n := 41) dX2_isAtHand_40 rfl rfl ?_
          refine j_cVs (n := 44) (a := 0) dX2_isAtHand_41 rfl uX2_114 (by decide) (s_charAt d G _ _ hf 0 (by decide) 1 (by decide)) (by omega) (by decide) rfl rfl (Nat.le_of_ble_eq_true rfl) (by decide) (by decide) ?_
          refine j_top (y := nI 101) rfl ?_
          refine j_icmp_eqT (n := 47) (tg := 49) dX2_isAtHand_44 rfl rfl rfl (i_N (by omega)) (fun h105 => ?_) (fun h105 => ?_)
          · refine j_iinc (n := 52) (y := nI 2) (lv2 := [some (.ref 118), some (.ref (3 + 0)), some (.int (nI 2))]) dX2_isAtHand_49 rfl rfl (by decide) rfl (show nI 1 + nI 1 = nI 2 by rw [nI_add]; try (congr 1)) rfl ?_
            refine j_goto (n := 20) dX2_isAtHand_52 rfl ?_
            refine j_iload_n (n := 21) dX2_isAtHand_20 rfl rfl ?_
            refine j_aload_n (n := 22) dX2_isAtHand_21 rfl rfl ?_
            refine j_cVs (n := 25) (a := 0) dX2_isAtHand_22 rfl uX2_110 (by decide) (s_length (d + 2) G _ _ 0 (by decide)) (by omega) (by decide) rfl rfl (Nat.le_of_ble_eq_true rfl) (by decide) (by decide) ?_
            refine j_top (y := nI 4) rfl ?_
            refine j_icmp_geT (n := 28) (tg := 55) dX2_isAtHand_25 rfl rfl (i_N (by omega)) (i_N (by omega)) (fun h106 => ?_) (fun h106 => ?_)
            · exact absurd h106 (by decide)
            · refine j_aload_n (n := 29) dX2_isAtHand_28 rfl rfl ?_
              refine j_getr (n := 32) (k := 0) (b := 122) dX2_isAtHand_29 rfl fX2_9 (hr.a (a := 118) rfl (by decide) rfl).1 (by decide) (hr.hi (by decide)) hb ?_
              refine j_aload_n (n := 33) dX2_isAtHand_32 rfl rfl ?_
              refine jc_get (n := 36) (k := 2) (v := nI (q 2)) dX2_isAtHand_33 rfl fX2_37 (hr.a (a := 118) rfl (by decide) rfl).1 (by decide) (hr.hi (by decide)) (pq_q _ _ _ _ _) ?_
              refine j_iload_n (n := 37) dX2_isAtHand_36 rfl rfl ?_
              refine j_iaddN (n := 38) (c := q 2 + 2) dX2_isAtHand_37 rfl rfl ?_
              refine j_baldN (n := 39) (L := 96) (a := 122) (i := q 2 + 2) (v := sb (T (q 2 + 2))) dX2_isAtHand_38 rfl (hr.a (a := 122) rfl (by decide) rfl).1 (hr.a (a := 122) rfl (by decide) rfl).2 (by omega) (by decide) (by decide) (hr.hi (by decide)) ((congrFun (pq_n _ _ _ _ (by decide) (by decide) (by decide)) _).trans (hT _ (by omega))) ?_
              refine j_aload_n (n := 40) dX2_isAtHand_39 rfl rfl ?_
              refine j_iload_n (n := 41) dX2_isAtHand_40 rfl rfl ?_
              refine j_cVs (n := 44) (a := 0) dX2_isAtHand_41 rfl uX2_114 (by decide) (s_charAt d G _ _ hf 0 (by decide) 2 (by decide)) (by omega) (by decide) rfl rfl (Nat.le_of_ble_eq_true rfl) (by decide) (by decide) ?_
              refine j_top (y := nI 97) rfl ?_
              refine j_icmp_eqT (n := 47) (tg := 49) dX2_isAtHand_44 rfl rfl rfl (i_N (by omega)) (fun h107 => ?_) (fun h107 => ?_)
              · refine j_iinc (n := 52) (y := nI 3) (lv2 := [some (.ref 118), some (.ref (3 + 0)), some (.int (nI 3))]) dX2_isAtHand_49 rfl rfl (by decide) rfl (show nI 2 + nI 1 = nI 3 by rw [nI_add]; try (congr 1)) rfl ?_
                refine j_goto (n := 20) dX2_isAtHand_52 rfl ?_
                refine j_iload_n (n := 21) dX2_isAtHand_20 rfl rfl ?_
                refine j_aload_n (n := 22) dX2_isAtHand_21 rfl rfl ?_
                refine j_cVs (n := 25) (a := 0) dX2_isAtHand_22 rfl uX2_110 (by decide) (s_length (d + 2) G _ _ 0 (by decide)) (by omega) (by decide) rfl rfl (Nat.le_of_ble_eq_true rfl) (by decide) (by decide) ?_
                refine j_top (y := nI 4) rfl ?_
                refine j_icmp_geT (n := 28) (tg := 55) dX2_isAtHand_25 rfl rfl (i_N (by omega)) (i_N (by omega)) (fun h108 => ?_) (fun h108 => ?_)
                · exact absurd h108 (by decide)
                · refine j_aload_n (n := 29) dX2_isAtHand_28 rfl rfl ?_
                  refine j_getr (n := 32) (k := 0) (b := 122) dX2_isAtHand_29 rfl fX2_9 (hr.a (a := 118) rfl (by decide) rfl).1 (by decide) (hr.hi (by decide)) hb ?_
                  refine j_aload_n (n := 33) dX2_isAtHand_32 rfl rfl ?_
                  refine jc_get (n := 36) (k := 2) (v := nI (q 2)) dX2_isAtHand_33 rfl fX2_37 (hr.a (a := 118) rfl (by decide) rfl).1 (by decide) (hr.hi (by decide)) (pq_q _ _ _ _ _) ?_
                  refine j_iload_n (n := 37) dX2_isAtHand_36 rfl rfl ?_
                  refine j_iaddN (n := 38) (c := q 2 + 3) dX2_isAtHand_37 rfl rfl ?_
                  refine j_baldN (n := 39) (L := 96) (a := 122) (i := q 2 + 3) (v := sb (T (q 2 + 3))) dX2_isAtHand_38 rfl (hr.a (a := 122) rfl (by decide) rfl).1 (hr.a (a := 122) rfl (by decide) rfl).2 (by omega) (by decide) (by decide) (hr.hi (by decide)) ((congrFun (pq_n _ _ _ _ (by decide) (by decide) (by decide)) _).trans (hT _ (by omega))) ?_
                  refine j_aload_n (n := 40) dX2_isAtHand_39 rfl rfl ?_
                  refine j_iload_n (n := 41) dX2_isAtHand_40 rfl rfl ?_
                  refine j_cVs (n := 44) (a := 0) dX2_isAtHand_41 rfl uX2_114 (by decide) (s_charAt d G _ _ hf 0 (by decide) 3 (by decide)) (by omega) (by decide) rfl rfl (Nat.le_of_ble_eq_true rfl) (by decide) (by decide) ?_
                  refine j_top (y := nI 114) rfl ?_
                  refine j_icmp_eqT (n := 47) (tg := 49) dX2_isAtHand_44 rfl rfl rfl (i_N (by omega)) (fun h109 => ?_) (fun h109 => ?_)
                  · refine j_iinc (n := 52) (y := nI 4) (lv2 := [some (.ref 118), some (.ref (3 + 0)), some (.int (nI 4))]) dX2_isAtHand_49 rfl rfl (by decide) rfl (show nI 3 + nI 1 = nI 4 by rw [nI_add]; try (congr 1)) rfl ?_
                    refine j_goto (n := 20) dX2_isAtHand_52 rfl ?_
                    refine j_iload_n (n := 21) dX2_isAtHand_20 rfl rfl ?_
                    refine j_aload_n (n := 22) dX2_isAtHand_21 rfl rfl ?_
                    refine j_cVs (n := 25) (a := 0) dX2_isAtHand_22 rfl uX2_110 (by decide) (s_length (d + 2) G _ _ 0 (by decide)) (by omega) (by decide) rfl rfl (Nat.le_of_ble_eq_true rfl) (by decide) (by decide) ?_
                    refine j_top (y := nI 4) rfl ?_
                    refine j_icmp_geT (n := 28) (tg := 55) dX2_isAtHand_25 rfl rfl (i_N (by omega)) (i_N (by omega)) (fun h110 => ?_) (fun h110 => ?_)
                    · refine j_iconst (n := 56) (v := nI 1) dX2_isAtHand_55 rfl rfl ?_
                      exact j_rb dX2_isAtHand_56 rfl rfl (Nat.le_refl _) (Nat.le_refl _) (by first | exact (if_pos (by omega)).symm | exact (if_neg (by omega)).symm) rfl rfl
                    · exact absurd h110 (by decide)
                  · refine j_iconst (n := 48) (v := nI 0) dX2_isAtHand_47 rfl rfl ?_
                    exact j_rb dX2_isAtHand_48 rfl rfl (Nat.le_refl _) (Nat.le_refl _) (by first | exact (if_pos (by omega)).symm | exact (if_neg (by omega)).symm) rfl rfl
              · refine j_iconst (n := 48) (v := nI 0) dX2_isAtHand_47 rfl rfl ?_
                exact j_rb dX2_isAtHand_48 rfl rfl (Nat.le_refl _) (Nat.le_refl _) (by first | exact (if_pos (by omega)).symm | exact (if_neg (by omega)).symm) rfl rfl
          · refine j_iconst (n := 48) (v := nI 0) dX2_isAtHand_47 rfl rfl ?_
            exact j_rb dX2_isAtHand_48 rfl rfl (Nat.le_refl _) (Nat.le_refl _) (by first | exact (if_pos (by omega)).symm | exact (if_neg (by omega)).symm) rfl rfl
      · refine j_iconst (n := 48) (v := nI 0) dX2_isAtHand_47 rfl rfl ?_
        exact j_rb dX2_isAtHand_48 rfl rfl (Nat.le_refl _) (Nat.le_refl _) (by first | exact (if_pos (by omega)).symm | exact (if_neg (by omega)).symm) rfl rfl
  · refine j_iconst (n := 17) (v := nI 0) dX2_isAtHand_16 rfl rfl ?_
    exact j_rb dX2_isAtHand_17 rfl rfl (Nat.le_refl _) (Nat.le_refl _) (by first | exact (if_pos (by omega)).symm | exact (if_neg (by omega)).symm) rfl rfl
theorem k_isAtHand1 (d : Nat) (G : zG) (M : zMem) (X : zX) (hr : kR X) (hb : xR X 118 0 = some 122) (T : Nat → Nat) (hT : tpC M T) (hT2 : ∀ i, T i ≤ 255) (q : Nat → Nat) (R : Nat → Int32) (o : Nat → Nat) (hf : zFm G) (hL : q 3 ≤ 96) (h23 : q 2 ≤ q 3) : zCall G miX2_isAtHand (d + 4) [.ref 118, .ref (3 + 1)] (zI (zB (q 3 - q 2 = 3 ∧ T (q 2) = 102 ∧ T (q 2 + 1) = 101 ∧ T (q 2 + 2) = 101)) (pq M q R o) X) (pq M q R o) X 0 0 := by
  refine zCall.of (lv := [some (.ref 118), some (.ref (3 + 1)), none]) (by decide) (Nat.le_of_ble_eq_true rfl) rfl ?_
  have hs0 := sb_int (hT2 (q 2))
  have hs1 := sb_int (hT2 (q 2 + 1))
  have hs2 := sb_int (hT2 (q 2 + 2))
  refine j_aload_n (n := 1) dX2_isAtHand_0 rfl rfl ?_
  refine jc_get (n := 4) (k := 3) (v := nI (q 3)) dX2_isAtHand_1 rfl fX2_87 (hr.a (a := 118) rfl (by decide) rfl).1 (by decide) (hr.hi (by decide)) (pq_q _ _ _ _ _) ?_
  refine j_aload_n (n := 5) dX2_isAtHand_4 rfl rfl ?_
  refine jc_get (n := 8) (k := 2) (v := nI (q 2)) dX2_isAtHand_5 rfl fX2_37 (hr.a (a := 118) rfl (by decide) rfl).1 (by decide) (hr.hi (by decide)) (pq_q _ _ _ _ _) ?_
  refine j_isubN (n := 9) (c := q 3 - (q 2)) dX2_isAtHand_8 rfl (by omega) (by omega) ?_
  refine j_aload_n (n := 10) dX2_isAtHand_9 rfl rfl ?_
  refine j_cVs (n := 13) (a := 1) dX2_isAtHand_10 rfl uX2_110 (by decide) (s_length (d + 2) G _ _ 1 (by decide)) (by omega) (by decide) rfl rfl (Nat.le_of_ble_eq_true rfl) (by decide) (by decide) ?_
  refine j_top (y := nI 3) rfl ?_
  refine j_icmp_eqT (n := 16) (tg := 18) dX2_isAtHand_13 rfl rfl (i_N (by omega)) (i_N (by omega)) (fun h101 => ?_) (fun h101 => ?_)
  · refine j_iconst (n := 19) (v := nI 0) dX2_isAtHand_18 rfl rfl ?_
    refine j_istore_n (n := 20) (lv2 := [some (.ref 118), some (.ref (3 + 1)), some (.int (nI 0))]) dX2_isAtHand_19 rfl rfl (by decide) rfl ?_
    refine j_iload_n (n := 21) dX2_isAtHand_20 rfl rfl ?_
    refine j_aload_n (n := 22) dX2_isAtHand_21 rfl rfl ?_
    refine j_cVs (n := 25) (a := 1) dX2_isAtHand_22 rfl uX2_110 (by decide) (s_length (d + 2) G _ _ 1 (by decide)) (by omega) (by decide) rfl rfl (Nat.le_of_ble_eq_true rfl) (by decide) (by decide) ?_
    refine j_top (y := nI 3) rfl ?_
    refine j_icmp_geT (n := 28) (tg := 55) dX2_isAtHand_25 rfl rfl (i_N (by omega)) (i_N (by omega)) (fun h102 => ?_) (fun h102 => ?_)
    · exact absurd h102 (by decide)
    · refine j_aload_n (n := 29) dX2_isAtHand_28 rfl rfl ?_
      refine j_getr (n := 32) (k := 0) (b := 122) dX2_isAtHand_29 rfl fX2_9 (hr.a (a := 118) rfl (by decide) rfl).1 (by decide) (hr.hi (by decide)) hb ?_
      refine j_aload_n (n := 33) dX2_isAtHand_32 rfl rfl ?_
      refine jc_get (n := 36) (k := 2) (v := nI (q 2)) dX2_isAtHand_33 rfl fX2_37 (hr.a (a := 118) rfl (by decide) rfl).1 (by decide) (hr.hi (by decide)) (pq_q _ _ _ _ _) ?_
      refine j_iload_n (n := 37) dX2_isAtHand_36 rfl rfl ?_
      refine j_iaddN (n := 38) (c := q 2) dX2_isAtHand_37 rfl (by omega) ?_
      refine j_baldN (n := 39) (L := 96) (a := 122) (i := q 2) (v := sb (T (q 2))) dX2_isAtHand_38 rfl (hr.a (a := 122) rfl (by decide) rfl).1 (hr.a (a := 122) rfl (by decide) rfl).2 (by omega) (by decide) (by decide) (hr.hi (by decide)) ((congrFun (pq_n _ _ _ _ (by decide) (by decide) (by decide)) _).trans (hT _ (by omega))) ?_
      refine j_aload_n (n := 40) dX2_isAtHand_39 rfl rfl ?_
      refine j_iload_n (n := 41) dX2_isAtHand_40 rfl rfl ?_
      refine j_cVs (n := 44) (a := 1) dX2_isAtHand_41 rfl uX2_114 (by decide) (s_charAt d G _ _ hf 1 (by decide) 0 (by decide)) (by omega) (by decide) rfl rfl (Nat.le_of_ble_eq_true rfl) (by decide) (by decide) ?_
      refine j_top (y := nI 102) rfl ?_
      refine j_icmp_eqT (n := 47) (tg := 49) dX2_isAtHand_44 rfl rfl rfl (i_N (by omega)) (fun h103 => ?_) (fun h103 => ?_)
      · refine j_iinc (n := 52) (y := nI 1) (lv2 := [some (.ref 118), some (.ref (3 + 1)), some (.int (nI 1))]) dX2_isAtHand_49 rfl rfl (by decide) rfl (show nI 0 + nI 1 = nI 1 by rw [nI_add]; try (congr 1)) rfl ?_
        refine j_goto (n := 20) dX2_isAtHand_52 rfl ?_
        refine j_iload_n (n := 21) dX2_isAtHand_20 rfl rfl ?_
        refine j_aload_n (n := 22) dX2_isAtHand_21 rfl rfl ?_
        refine j_cVs (n := 25) (a := 1) dX2_isAtHand_22 rfl uX2_110 (by decide) (s_length (d + 2) G _ _ 1 (by decide)) (by omega) (by decide) rfl rfl (Nat.le_of_ble_eq_true rfl) (by decide) (by decide) ?_
        refine j_top (y := nI 3) rfl ?_
        refine j_icmp_geT (n := 28) (tg := 55) dX2_isAtHand_25 rfl rfl (i_N (by omega)) (i_N (by omega)) (fun h104 => ?_) (fun h104 => ?_)
        · exact absurd h104 (by decide)
        · refine j_aload_n (n := 29) dX2_isAtHand_28 rfl rfl ?_
          refine j_getr (n := 32) (k := 0) (b := 122) dX2_isAtHand_29 rfl fX2_9 (hr.a (a := 118) rfl (by decide) rfl).1 (by decide) (hr.hi (by decide)) hb ?_
          refine j_aload_n (n := 33) dX2_isAtHand_32 rfl rfl ?_
          refine jc_get (n := 36) (k := 2) (v := nI (q 2)) dX2_isAtHand_33 rfl fX2_37 (hr.a (a := 118) rfl (by decide) rfl).1 (by decide) (hr.hi (by decide)) (pq_q _ _ _ _ _) ?_
          refine j_iload_n (n := 37) dX2_isAtHand_36 rfl rfl ?_
          refine j_iaddN (n := 38) (c := q 2 + 1) dX2_isAtHand_37 rfl rfl ?_
          refine j_baldN (n := 39) (L := 96) (a := 122) (i := q 2 + 1) (v := sb (T (q 2 + 1))) dX2_isAtHand_38 rfl (hr.a (a := 122) rfl (by decide) rfl).1 (hr.a (a := 122) rfl (by decide) rfl).2 (by omega) (by decide) (by decide) (hr.hi (by decide)) ((congrFun (pq_n _ _ _ _ (by decide) (by decide) (by decide)) _).trans (hT _ (by omega))) ?_
          refine j_aload_n (n := 40) dX2_isAtHand_39 rfl rfl ?_
          refine j_iload_n (n := 41) dX2_isAtHand_40 rfl rfl ?_
          refine j_cVs (n := 44) (a := 1) dX2_isAtHand_41 rfl uX2_114 (by decide) (s_charAt d G _ _ hf 1 (by decide) 1 (by decide)) (by omega) (by decide) rfl rfl (Nat.le_of_ble_eq_true rfl) (by decide) (by decide) ?_
          refine j_top (y := nI 101) rfl ?_
          refine j_icmp_eqT (n := 47) (tg := 49) dX2_isAtHand_44 rfl rfl rfl (i_N (by omega)) (fun h105 => ?_) (fun h105 => ?_)
          · refine j_iinc (n := 52) (y := nI 2) (lv2 := [some (.ref 118), some (.ref (3 + 1)), some (.int (nI 2))]) dX2_isAtHand_49 rfl rfl (by decide) rfl (show nI 1 + nI 1 = nI 2 by rw [nI_add]; try (congr 1)) rfl ?_
            refine j_goto (n := 20) dX2_isAtHand_52 rfl ?_
            refine j_iload_n (n := 21) dX2_isAtHand_20 rfl rfl ?_
            refine j_aload_n (n := 22) dX2_isAtHand_21 rfl rfl ?_
            refine j_cVs (n := 25) (a := 1) dX2_isAtHand_22 rfl uX2_110 (by decide) (s_length (d + 2) G _ _ 1 (by decide)) (by omega) (by decide) rfl rfl (Nat.le_of_ble_eq_true rfl) (by decide) (by decide) ?_
            refine j_top (y := nI 3) rfl ?_
            refine j_icmp_geT (n := 28) (tg := 55) dX2_isAtHand_25 rfl rfl (i_N (by omega)) (i_N (by omega)) (fun h106 => ?_) (fun h106 => ?_)
            · exact absurd h106 (by decide)
            · refine j_aload_n (n := 29) dX2_isAtHand_28 rfl rfl ?_
              refine j_getr (n := 32) (k := 0) (b := 122) dX2_isAtHand_29 rfl fX2_9 (hr.a (a := 118) rfl (by decide) rfl).1 (by decide) (hr.hi (by decide)) hb ?_
              refine j_aload_n (n := 33) dX2_isAtHand_32 rfl rfl ?_
              refine jc_get (n := 36) (k := 2) (v := nI (q 2)) dX2_isAtHand_33 rfl fX2_37 (hr.a (a := 118) rfl (by decide) rfl).1 (by decide) (hr.hi (by decide)) (pq_q _ _ _ _ _) ?_
              refine j_iload_n (n := 37) dX2_isAtHand_36 rfl rfl ?_
              refine j_iaddN (n := 38) (c := q 2 + 2) dX2_isAtHand_37 rfl rfl ?_
              refine j_baldN (n := 39) (L := 96) (a := 122) (i := q 2 + 2) (v := sb (T (q 2 + 2))) dX2_isAtHand_38 rfl (hr.a (a := 122) rfl (by decide) rfl).1 (hr.a (a := 122) rfl (by decide) rfl).2 (by omega) (by decide) (by decide) (hr.hi (by decide)) ((congrFun (pq_n _ _ _ _ (by decide) (by decide) (by decide)) _).trans (hT _ (by omega))) ?_
              refine j_aload_n (n := 40) dX2_isAtHand_39 rfl rfl ?_
              refine j_iload_n (n := 41) dX2_isAtHand_40 rfl rfl ?_
              refine j_cVs (n := 44) (a := 1) dX2_isAtHand_41 rfl uX2_114 (by decide) (s_charAt d G _ _ hf 1 (by decide) 2 (by decide)) (by omega) (by decide) rfl rfl (Nat.le_of_ble_eq_true rfl) (by decide) (by decide) ?_
              refine j_top (y := nI 101) rfl ?_
              refine j_icmp_eqT (n := 47) (tg := 49) dX2_isAtHand_44 rfl rfl rfl (i_N (by omega)) (fun h107 => ?_) (fun h107 => ?_)
              · refine j_iinc (n := 52) (y := nI 3) (lv2 := [some (.ref 118), some (.ref (3 + 1)), some (.int (nI 3))]) dX2_isAtHand_49 rfl rfl (by decide) rfl (show nI 2 + nI 1 = nI 3 by rw [nI_add]; try (congr 1)) rfl ?_
                refine j_goto (n := 20) dX2_isAtHand_52 rfl ?_
                refine j_iload_n (n := 21) dX2_isAtHand_20 rfl rfl ?_
                refine j_aload_n (n := 22) dX2_isAtHand_21 rfl rfl ?_
                refine j_cVs (n := 25) (a := 1) dX2_isAtHand_22 rfl uX2_110 (by decide) (s_length (d + 2) G _ _ 1 (by decide)) (by omega) (by decide) rfl rfl (Nat.le_of_ble_eq_true rfl) (by decide) (by decide) ?_
                refine j_top (y := nI 3) rfl ?_
                refine j_icmp_geT (n := 28) (tg := 55) dX2_isAtHand_25 rfl rfl (i_N (by omega)) (i_N (by omega)) (fun h108 => ?_) (fun h108 => ?_)
                · refine j_iconst (n := 56) (v := nI 1) dX2_isAtHand_55 rfl rfl ?_
                  exact j_rb dX2_isAtHand_56 rfl rfl (Nat.le_refl _) (Nat.le_refl _) (by first | exact (if_pos (by omega)).symm | exact (if_neg (by omega)).symm) rfl rfl
                · exact absurd h108 (by decide)
              · refine j_iconst (n := 48) (v := nI 0) dX2_isAtHand_47 rfl rfl ?_
                exact j_rb dX2_isAtHand_48 rfl rfl (Nat.le_refl _) (Nat.le_refl _) (by first | exact (if_pos (by omega)).symm | exact (if_neg (by omega)).symm) rfl rfl
          · refine j_iconst (n := 48) (v := nI 0) dX2_isAtHand_47 rfl rfl ?_
            exact j_rb dX2_isAtHand_48 rfl rfl (Nat.le_refl _) (Nat.le_refl _) (by first | exact (if_pos (by omega)).symm | exact (if_neg (by omega)).symm) rfl rfl
      · refine j_iconst (n := 48) (v := nI 0) dX2_isAtHand_47 rfl rfl ?_
        exact j_rb dX2_isAtHand_48 rfl rfl (Nat.le_refl _) (Nat.le_refl _) (by first | exact (if_pos (by omega)).symm | exact (if_neg (by omega)).symm) rfl rfl
  · refine j_iconst (n := 17) (v := nI 0) dX2_isAtHand_16 rfl rfl ?_
    exact j_rb dX2_isAtHand_17 rfl rfl (Nat.le_refl _) (Nat.le_refl _) (by first | exact (if_pos (by omega)).symm | exact (if_neg (by omega)).symm) rfl rfl
theorem k_isAtHand2 (d : Nat) (G : zG) (M : zMem) (X : zX) (hr : kR X) (hb : xR X 118 0 = some 122) (T : Nat → Nat) (hT : tpC M T) (hT2 : ∀ i, T i ≤ 255) (q : Nat → Nat) (R : Nat → Int32) (o : Nat → Nat) (hf : zFm G) (hL : q 3 ≤ 96) (h23 : q 2 ≤ q 3) : zCall G miX2_isAtHand (d + 4) [.ref 118, .ref (3 + 2)] (zI (zB (q 3 - q 2 = 4 ∧ T (q 2) = 102 ∧ T (q 2 + 1) = 105 ∧ T (q 2 + 2) = 110 ∧ T (q 2 + 3) = 101)) (pq M q R o) X) (pq M q R o) X 0 0 := by
  refine zCall.of (lv := [some (.ref 118), some (.ref (3 + 2)), none]) (by decide) (Nat.le_of_ble_eq_true rfl) rfl ?_
  have hs0 := sb_int (hT2 (q 2))
  have hs1 := sb_int (hT2 (q 2 + 1))
  have hs2 := sb_int (hT2 (q 2 + 2))
  have hs3 := sb_int (hT2 (q 2 + 3))
  refine j_aload_n (n := 1) dX2_isAtHand_0 rfl rfl ?_
  refine jc_get (n := 4) (k := 3) (v := nI (q 3)) dX2_isAtHand_1 rfl fX2_87 (hr.a (a := 118) rfl (by decide) rfl).1 (by decide) (hr.hi (by decide)) (pq_q _ _ _ _ _) ?_
  refine j_aload_n (n := 5) dX2_isAtHand_4 rfl rfl ?_
  refine jc_get (n := 8) (k := 2) (v := nI (q 2)) dX2_isAtHand_5 rfl fX2_37 (hr.a (a := 118) rfl (by decide) rfl).1 (by decide) (hr.hi (by decide)) (pq_q _ _ _ _ _) ?_
  refine j_isubN (n := 9) (c := q 3 - (q 2)) dX2_isAtHand_8 rfl (by omega) (by omega) ?_
  refine j_aload_n (n := 10) dX2_isAtHand_9 rfl rfl ?_
  refine j_cVs (n := 13) (a := 2) dX2_isAtHand_10 rfl uX2_110 (by decide) (s_length (d + 2) G _ _ 2 (by decide)) (by omega) (by decide) rfl rfl (Nat.le_of_ble_eq_true rfl) (by decide) (by decide) ?_
  refine j_top (y := nI 4) rfl ?_
  refine j_icmp_eqT (n := 16) (tg := 18) dX2_isAtHand_13 rfl rfl (i_N (by omega)) (i_N (by omega)) (fun h101 => ?_) (fun h101 => ?_)
  · refine j_iconst (n := 19) (v := nI 0) dX2_isAtHand_18 rfl rfl ?_
    refine j_istore_n (n := 20) (lv2 := [some (.ref 118), some (.ref (3 + 2)), some (.int (nI 0))]) dX2_isAtHand_19 rfl rfl (by decide) rfl ?_
    refine j_iload_n (n := 21) dX2_isAtHand_20 rfl rfl ?_
    refine j_aload_n (n := 22) dX2_isAtHand_21 rfl rfl ?_
    refine j_cVs (n := 25) (a := 2) dX2_isAtHand_22 rfl uX2_110 (by decide) (s_length (d + 2) G _ _ 2 (by decide)) (by omega) (by decide) rfl rfl (Nat.le_of_ble_eq_true rfl) (by decide) (by decide) ?_
    refine j_top (y := nI 4) rfl ?_
    refine j_icmp_geT (n := 28) (tg := 55) dX2_isAtHand_25 rfl rfl (i_N (by omega)) (i_N (by omega)) (fun h102 => ?_) (fun h102 => ?_)
    · exact absurd h102 (by decide)
    · refine j_aload_n (n := 29) dX2_isAtHand_28 rfl rfl ?_
      refine j_getr (n := 32) (k := 0) (b := 122) dX2_isAtHand_29 rfl fX2_9 (hr.a (a := 118) rfl (by decide) rfl).1 (by decide) (hr.hi (by decide)) hb ?_
      refine j_aload_n (n := 33) dX2_isAtHand_32 rfl rfl ?_
      refine jc_get (n := 36) (k := 2) (v := nI (q 2)) dX2_isAtHand_33 rfl fX2_37 (hr.a (a := 118) rfl (by decide) rfl).1 (by decide) (hr.hi (by decide)) (pq_q _ _ _ _ _) ?_
      refine j_iload_n (n := 37) dX2_isAtHand_36 rfl rfl ?_
      refine j_iaddN (n := 38) (c := q 2) dX2_isAtHand_37 rfl (by omega) ?_
      refine j_baldN (n := 39) (L := 96) (a := 122) (i := q 2) (v := sb (T (q 2))) dX2_isAtHand_38 rfl (hr.a (a := 122) rfl (by decide) rfl).1 (hr.a (a := 122) rfl (by decide) rfl).2 (by omega) (by decide) (by decide) (hr.hi (by decide)) ((congrFun (pq_n _ _ _ _ (by decide) (by decide) (by decide)) _).trans (hT _ (by omega))) ?_
      refine j_aload_n (n := 40) dX2_isAtHand_39 rfl rfl ?_
      refine j_iload_n (n := 41) dX2_isAtHand_40 rfl rfl ?_
      refine j_cVs (n := 44) (a := 2) dX2_isAtHand_41 rfl uX2_114 (by decide) (s_charAt d G _ _ hf 2 (by decide) 0 (by decide)) (by omega) (by decide) rfl rfl (Nat.le_of_ble_eq_true rfl) (by decide) (by decide) ?_
      refine j_top (y := nI 102) rfl ?_
      refine j_icmp_eqT (n := 47) (tg := 49) dX2_isAtHand_44 rfl rfl rfl (i_N (by omega)) (fun h103 => ?_) (fun h103 => ?_)
      · refine j_iinc (n := 52) (y := nI 1) (lv2 := [some (.ref 118), some (.ref (3 + 2)), some (.int (nI 1))]) dX2_isAtHand_49 rfl rfl (by decide) rfl (show nI 0 + nI 1 = nI 1 by rw [nI_add]; try (congr 1)) rfl ?_
        refine j_goto (n := 20) dX2_isAtHand_52 rfl ?_
        refine j_iload_n (n := 21) dX2_isAtHand_20 rfl rfl ?_
        refine j_aload_n (n := 22) dX2_isAtHand_21 rfl rfl ?_
        refine j_cVs (n := 25) (a := 2) dX2_isAtHand_22 rfl uX2_110 (by decide) (s_length (d + 2) G _ _ 2 (by decide)) (by omega) (by decide) rfl rfl (Nat.le_of_ble_eq_true rfl) (by decide) (by decide) ?_
        refine j_top (y := nI 4) rfl ?_
        refine j_icmp_geT (n := 28) (tg := 55) dX2_isAtHand_25 rfl rfl (i_N (by omega)) (i_N (by omega)) (fun h104 => ?_) (fun h104 => ?_)
        · exact absurd h104 (by decide)
        · refine j_aload_n (n := 29) dX2_isAtHand_28 rfl rfl ?_
          refine j_getr (n := 32) (k := 0) (b := 122) dX2_isAtHand_29 rfl fX2_9 (hr.a (a := 118) rfl (by decide) rfl).1 (by decide) (hr.hi (by decide)) hb ?_
          refine j_aload_n (n := 33) dX2_isAtHand_32 rfl rfl ?_
          refine jc_get (n := 36) (k := 2) (v := nI (q 2)) dX2_isAtHand_33 rfl fX2_37 (hr.a (a := 118) rfl (by decide) rfl).1 (by decide) (hr.hi (by decide)) (pq_q _ _ _ _ _) ?_
          refine j_iload_n (n := 37) dX2_isAtHand_36 rfl rfl ?_
          refine j_iaddN (n := 38) (c := q 2 + 1) dX2_isAtHand_37 rfl rfl ?_
          refine j_baldN (n := 39) (L := 96) (a := 122) (i := q 2 + 1) (v := sb (T (q 2 + 1))) dX2_isAtHand_38 rfl (hr.a (a := 122) rfl (by decide) rfl).1 (hr.a (a := 122) rfl (by decide) rfl).2 (by omega) (by decide) (by decide) (hr.hi (by decide)) ((congrFun (pq_n _ _ _ _ (by decide) (by decide) (by decide)) _).trans (hT _ (by omega))) ?_
          refine j_aload_n (n := 40) dX2_isAtHand_39 rfl rfl ?_
          refine j_iload_n (n := 41) dX2_isAtHand_40 rfl rfl ?_
          refine j_cVs (n := 44) (a := 2) dX2_isAtHand_41 rfl uX2_114 (by decide) (s_charAt d G _ _ hf 2 (by decide) 1 (by decide)) (by omega) (by decide) rfl rfl (Nat.le_of_ble_eq_true rfl) (by decide) (by decide) ?_
          refine j_top (y := nI 105) rfl ?_
          refine j_icmp_eqT (n := 47) (tg := 49) dX2_isAtHand_44 rfl rfl rfl (i_N (by omega)) (fun h105 => ?_) (fun h105 => ?_)
          · refine j_iinc (n := 52) (y := nI 2) (lv2 := [some (.ref 118), some (.ref (3 + 2)), some (.int (nI 2))]) dX2_isAtHand_49 rfl rfl (by decide) rfl (show nI 1 + nI 1 = nI 2 by rw [nI_add]; try (congr 1)) rfl ?_
            refine j_goto (n := 20) dX2_isAtHand_52 rfl ?_
            refine j_iload_n (n := 21) dX2_isAtHand_20 rfl rfl ?_
            refine j_aload_n (n := 22) dX2_isAtHand_21 rfl rfl ?_
            refine j_cVs (n := 25) (a := 2) dX2_isAtHand_22 rfl uX2_110 (by decide) (s_length (d + 2) G _ _ 2 (by decide)) (by omega) (by decide) rfl rfl (Nat.le_of_ble_eq_true rfl) (by decide) (by decide) ?_
            refine j_top (y := nI 4) rfl ?_
            refine j_icmp_geT (n := 28) (tg := 55) dX2_isAtHand_25 rfl rfl (i_N (by omega)) (i_N (by omega)) (fun h106 => ?_) (fun h106 => ?_)
            · exact absurd h106 (by decide)
            · refine j_aload_n (n := 29) dX2_isAtHand_28 rfl rfl ?_
              refine j_getr (n := 32) (k := 0) (b := 122) dX2_isAtHand_29 rfl fX2_9 (hr.a (a := 118) rfl (by decide) rfl).1 (by decide) (hr.hi (by decide)) hb ?_
              refine j_aload_n (n := 33) dX2_isAtHand_32 rfl rfl ?_
              refine jc_get (n := 36) (k := 2) (v := nI (q 2)) dX2_isAtHand_33 rfl fX2_37 (hr.a (a := 118) rfl (by decide) rfl).1 (by decide) (hr.hi (by decide)) (pq_q _ _ _ _ _) ?_
              refine j_iload_n (n := 37) dX2_isAtHand_36 rfl rfl ?_
              refine j_iaddN (n := 38) (c := q 2 + 2) dX2_isAtHand_37 rfl rfl ?_
              refine j_baldN (n := 39) (L := 96) (a := 122) (i := q 2 + 2) (v := sb (T (q 2 + 2))) dX2_isAtHand_38 rfl (hr.a (a := 122) rfl (by decide) rfl).1 (hr.a (a := 122) rfl (by decide) rfl).2 (by omega) (by decide) (by decide) (hr.hi (by decide)) ((congrFun (pq_n _ _ _ _ (by decide) (by decide) (by decide)) _).trans (hT _ (by omega))) ?_
              refine j_aload_n (n := 40) dX2_isAtHand_39 rfl rfl ?_
              refine j_iload_n (n := 41) dX2_isAtHand_40 rfl rfl ?_
              refine j_cVs (n := 44) (a := 2) dX2_isAtHand_41 rfl uX2_114 (by decide) (s_charAt d G _ _ hf 2 (by decide) 2 (by decide)) (by omega) (by decide) rfl rfl (Nat.le_of_ble_eq_true rfl) (by decide) (by decide) ?_
              refine j_top (y := nI 110) rfl ?_
              refine j_icmp_eqT (n := 47) (tg := 49) dX2_isAtHand_44 rfl rfl rfl (i_N (by omega)) (fun h107 => ?_) (fun h107 => ?_)
              · refine j_iinc (n := 52) (y := nI 3) (lv2 := [some (.ref 118), some (.ref (3 + 2)), some (.int (nI 3))]) dX2_isAtHand_49 rfl rfl (by decide) rfl (show nI 2 + nI 1 = nI 3 by rw [nI_add]; try (congr 1)) rfl ?_
                refine j_goto (n := 20) dX2_isAtHand_52 rfl ?_
                refine j_iload_n (n := 21) dX2_isAtHand_20 rfl rfl ?_
                refine j_aload_n (n := 22) dX2_isAtHand_21 rfl rfl ?_
                refine j_cVs (n := 25) (a := 2) dX2_isAtHand_22 rfl uX2_110 (by decide) (s_length (d + 2) G _ _ 2 (by decide)) (by omega) (by decide) rfl rfl (Nat.le_of_ble_eq_true rfl) (by decide) (by decide) ?_
                refine j_top (y := nI 4) rfl ?_
                refine j_icmp_geT (n := 28) (tg := 55) dX2_isAtHand_25 rfl rfl (i_N (by omega)) (i_N (by omega)) (fun h108 => ?_) (fun h108 => ?_)
                · exact absurd h108 (by decide)
                · refine j_aload_n (n := 29) dX2_isAtHand_28 rfl rfl ?_
                  refine j_getr (n := 32) (k := 0) (b := 122) dX2_isAtHand_29 rfl fX2_9 (hr.a (a := 118) rfl (by decide) rfl).1 (by decide) (hr.hi (by decide)) hb ?_
                  refine j_aload_n (n := 33) dX2_isAtHand_32 rfl rfl ?_
                  refine jc_get (n := 36) (k := 2) (v := nI (q 2)) dX2_isAtHand_33 rfl fX2_37 (hr.a (a := 118) rfl (by decide) rfl).1 (by decide) (hr.hi (by decide)) (pq_q _ _ _ _ _) ?_
                  refine j_iload_n (n := 37) dX2_isAtHand_36 rfl rfl ?_
                  refine j_iaddN (n := 38) (c := q 2 + 3) dX2_isAtHand_37 rfl rfl ?_
                  refine j_baldN (n := 39) (L := 96) (a := 122) (i := q 2 + 3) (v := sb (T (q 2 + 3))) dX2_isAtHand_38 rfl (hr.a (a := 122) rfl (by decide) rfl).1 (hr.a (a := 122) rfl (by decide) rfl).2 (by omega) (by decide) (by decide) (hr.hi (by decide)) ((congrFun (pq_n _ _ _ _ (by decide) (by decide) (by decide)) _).trans (hT _ (by omega))) ?_
                  refine j_aload_n (n := 40) dX2_isAtHand_39 rfl rfl ?_
                  refine j_iload_n (n := 41) dX2_isAtHand_40 rfl rfl ?_
                  refine j_cVs (n := 44) (a := 2) dX2_isAtHand_41 rfl uX2_114 (by decide) (s_charAt d G _ _ hf 2 (by decide) 3 (by decide)) (by omega) (by decide) rfl rfl (Nat.le_of_ble_eq_true rfl) (by decide) (by decide) ?_
                  refine j_top (y := nI 101) rfl ?_
                  refine j_icmp_eqT (n := 47) (tg := 49) dX2_isAtHand_44 rfl rfl rfl (i_N (by omega)) (fun h109 => ?_) (fun h109 => ?_)
                  · refine j_iinc (n := 52) (y := nI 4) (lv2 := [some (.ref 118), some (.ref (3 + 2)), some (.int (nI 4))]) dX2_isAtHand_49 rfl rfl (by decide) rfl (show nI 3 + nI 1 = nI 4 by rw [nI_add]; try (congr 1)) rfl ?_
                    refine j_goto (n := 20) dX2_isAtHand_52 rfl ?_
                    refine j_iload_n (n := 21) dX2_isAtHand_20 rfl rfl ?_
                    refine j_aload_n (n := 22) dX2_isAtHand_21 rfl rfl ?_
                    refine j_cVs (n := 25) (a := 2) dX2_isAtHand_22 rfl uX2_110 (by decide) (s_length (d + 2) G _ _ 2 (by decide)) (by omega) (by decide) rfl rfl (Nat.le_of_ble_eq_true rfl) (by decide) (by decide) ?_
                    refine j_top (y := nI 4) rfl ?_
                    refine j_icmp_geT (n := 28) (tg := 55) dX2_isAtHand_25 rfl rfl (i_N (by omega)) (i_N (by omega)) (fun h110 => ?_) (fun h110 => ?_)
                    · refine j_iconst (n := 56) (v := nI 1) dX2_isAtHand_55 rfl rfl ?_
                      exact j_rb dX2_isAtHand_56 rfl rfl (Nat.le_refl _) (Nat.le_refl _) (by first | exact (if_pos (by omega)).symm | exact (if_neg (by omega)).symm) rfl rfl
                    · exact absurd h110 (by decide)
                  · refine j_iconst (n := 48) (v := nI 0) dX2_isAtHand_47 rfl rfl ?_
                    exact j_rb dX2_isAtHand_48 rfl rfl (Nat.le_refl _) (Nat.le_refl _) (by first | exact (if_pos (by omega)).symm | exact (if_neg (by omega)).symm) rfl rfl
              · refine j_iconst (n := 48) (v := nI 0) dX2_isAtHand_47 rfl rfl ?_
                exact j_rb dX2_isAtHand_48 rfl rfl (Nat.le_refl _) (Nat.le_refl _) (by first | exact (if_pos (by omega)).symm | exact (if_neg (by omega)).symm) rfl rfl
          · refine j_iconst (n := 48) (v := nI 0) dX2_isAtHand_47 rfl rfl ?_
            exact j_rb dX2_isAtHand_48 rfl rfl (Nat.le_refl _) (Nat.le_refl _) (by first | exact (if_pos (by omega)).symm | exact (if_neg (by omega)).symm) rfl rfl
      · refine j_iconst (n := 48) (v := nI 0) dX2_isAtHand_47 rfl rfl ?_
        exact j_rb dX2_isAtHand_48 rfl rfl (Nat.le_refl _) (Nat.le_refl _) (by first | exact (if_pos (by omega)).symm | exact (if_neg (by omega)).symm) rfl rfl
  · refine j_iconst (n := 17) (v := nI 0) dX2_isAtHand_16 rfl rfl ?_
    exact j_rb dX2_isAtHand_17 rfl rfl (Nat.le_refl _) (Nat.le_refl _) (by first | exact (if_pos (by omega)).symm | exact (if_neg (by omega)).symm) rfl rfl
def keyQ (T q : Nat → Nat) : Nat := if q 3 - q 2 = 4 ∧ T (q 2) = 119 ∧ T (q 2 + 1) = 101 ∧ T (q 2 + 2) = 97 ∧ T (q 2 + 3) = 114 then 0 else if q 3 - q 2 = 3 ∧ T (q 2) = 102 ∧ T (q 2 + 1) = 101 ∧ T (q 2 + 2) = 101 then 1 else if q 3 - q 2 = 4 ∧ T (q 2) = 102 ∧ T (q 2 + 1) = 105 ∧ T (q 2 + 2) = 110 ∧ T (q 2 + 3) = 101 then 2 else 3
theorem k_keyAtHand (d : Nat) (G : zG) (M : zMem) (X : zX) (hr : kR X) (hb : xR X 118 0 = some 122) (T : Nat → Nat) (hT : tpC M T) (hT2 : ∀ i, T i ≤ 255) (q : Nat → Nat) (R : Nat → Int32) (o : Nat → Nat) (hf : zFm G) (hL : q 3 ≤ 96) (h23 : q 2 ≤ q 3) : zCall G miX2_keyAtHand (d + 5) [.ref 118] (zI (keyV (keyQ T q)) (pq M q R o) X) (pq M q R o) X 0 0 := by
  refine zCall.of (lv := [some (.ref 118)]) (by decide) (Nat.le_of_ble_eq_true rfl) rfl ?_
  refine j_aload_n (n := 1) dX2_keyAtHand_0 rfl rfl ?_
  refine j_ldcS (i := 0) (n := 3) dX2_keyAtHand_1 rfl (by decide) rfl rfl ?_
  refine j_cV (n := 6) dX2_keyAtHand_3 rfl sX2_102 (k_isAtHand0 d G _ _ hr hb T hT hT2 _ _ _ hf hL h23) (by omega) (by decide) rfl rfl (Nat.le_of_ble_eq_true rfl) (hr.a (a := 118) rfl (by decide) rfl).1 (by decide) (hr.hi (by decide)) (by decide) (by decide) ?_
  refine j_if_eqB (n := 9) (tg := 11) dX2_keyAtHand_6 rfl rfl (fun h101 => ?_) (fun h101 => ?_)
  · refine j_aload_n (n := 12) dX2_keyAtHand_11 rfl rfl ?_
    refine j_ldcS (i := 1) (n := 14) dX2_keyAtHand_12 rfl (by decide) rfl rfl ?_
    refine j_cV (n := 17) dX2_keyAtHand_14 rfl sX2_102 (k_isAtHand1 d G _ _ hr hb T hT hT2 _ _ _ hf hL h23) (by omega) (by decide) rfl rfl (Nat.le_of_ble_eq_true rfl) (hr.a (a := 118) rfl (by decide) rfl).1 (by decide) (hr.hi (by decide)) (by decide) (by decide) ?_
    refine j_if_eqB (n := 20) (tg := 22) dX2_keyAtHand_17 rfl rfl (fun h102 => ?_) (fun h102 => ?_)
    · refine j_aload_n (n := 23) dX2_keyAtHand_22 rfl rfl ?_
      refine j_ldcS (i := 2) (n := 25) dX2_keyAtHand_23 rfl (by decide) rfl rfl ?_
      refine j_cV (n := 28) dX2_keyAtHand_25 rfl sX2_102 (k_isAtHand2 d G _ _ hr hb T hT hT2 _ _ _ hf hL h23) (by omega) (by decide) rfl rfl (Nat.le_of_ble_eq_true rfl) (hr.a (a := 118) rfl (by decide) rfl).1 (by decide) (hr.hi (by decide)) (by decide) (by decide) ?_
      refine j_if_eqB (n := 31) (tg := 35) dX2_keyAtHand_28 rfl rfl (fun h103 => ?_) (fun h103 => ?_)
      · refine j_iconst (n := 36) (v := (-1)) dX2_keyAtHand_35 rfl rfl ?_
        exact j_ri dX2_keyAtHand_36 rfl (Nat.le_refl _) (Nat.le_refl _) (by unfold keyQ; (repeat (first | rw [if_pos (by assumption)] | rw [if_neg (by assumption)])); all_goals (first | exact (if_pos rfl).symm | exact (if_neg (by decide)).symm)) rfl rfl
      · refine j_iconst (n := 32) (v := nI 2) dX2_keyAtHand_31 rfl rfl ?_
        refine j_goto (n := 36) dX2_keyAtHand_32 rfl ?_
        exact j_ri dX2_keyAtHand_36 rfl (Nat.le_refl _) (Nat.le_refl _) (by unfold keyQ; (repeat (first | rw [if_pos (by assumption)] | rw [if_neg (by assumption)])); all_goals (first | exact (if_pos rfl).symm | exact (if_neg (by decide)).symm)) rfl rfl
    · refine j_iconst (n := 21) (v := nI 1) dX2_keyAtHand_20 rfl rfl ?_
      exact j_ri dX2_keyAtHand_21 rfl (Nat.le_refl _) (Nat.le_refl _) (by unfold keyQ; (repeat (first | rw [if_pos (by assumption)] | rw [if_neg (by assumption)])); all_goals (first | exact (if_pos rfl).symm | exact (if_neg (by decide)).symm)) rfl rfl
  · refine j_iconst (n := 10) (v := nI 0) dX2_keyAtHand_9 rfl rfl ?_
    exact j_ri dX2_keyAtHand_10 rfl (Nat.le_refl _) (Nat.le_refl _) (by unfold keyQ; (repeat (first | rw [if_pos (by assumption)] | rw [if_neg (by assumption)])); all_goals (first | exact (if_pos rfl).symm | exact (if_neg (by decide)).symm)) rfl rfl
theorem k_begin (d : Nat) (G : zG) (M : zMem) (X : zX) (hr : kR X) (q : Nat → Nat) (R : Nat → Int32) (o : Nat → Nat) (n : Nat) (hn : n ≤ 96) : zCall G miX2_begin (d + 1) [.ref 118, .ref 122, .int (nI n)] (zV (pq M (pu (pu (pu (pu (pu (pu (pu (pu (pu q 1 n) 2 0) 3 0) 4 0) 7 0) 9 0) 11 0) 12 0) 13 0) R o) (XP X)) (pq M q R o) X 0 0 := by
  refine zCall.of (lv := [some (.ref 118), some (.ref 122), some (.int (nI n))]) (by decide) (Nat.le_of_ble_eq_true rfl) rfl ?_
  refine j_aload_n (n := 1) dX2_begin_0 rfl rfl ?_
  refine j_aload_n (n := 2) dX2_begin_1 rfl rfl ?_
  refine j_putr (n := 5) (k := 0) (b := 122) dX2_begin_2 rfl pX2_9 (fun h => by cases h) (.inr ⟨_, rfl⟩) (hr.a (a := 118) rfl (by decide) rfl).1 (by decide) (hr.hi (by decide)) ?_
  have hr : kR (XP X) := kR_ex (exX_XP X) hr
  refine j_aload_n (n := 6) dX2_begin_5 rfl rfl ?_
  refine j_iload_n (n := 7) dX2_begin_6 rfl rfl ?_
  refine j_aload_n (n := 8) dX2_begin_7 rfl rfl ?_
  refine j_alen (n := 9) (t := 1) (L := 96) dX2_begin_8 rfl (hr.a (a := 122) rfl (by decide) rfl).1 (by decide) (hr.a (a := 122) rfl (by decide) rfl).2 (by decide) (hr.hi (by decide)) ?_
  refine j_mmin (n := 12) dX2_begin_9 rfl sX2_81 (by omega) (Nat.le_of_ble_eq_true rfl) (by decide) (by decide) ?_
  refine j_top (y := nI n) ((minI_N (by omega) (by omega)).trans (congrArg nI (by omega))) ?_
  refine jc_put (n := 15) (k := 1) (x := nI n) (M2 := pq M (pu q 1 n) R o) dX2_begin_12 rfl pX2_57 (fun h => by cases h) rfl rfl (hr.a (a := 118) rfl (by decide) rfl).1 (by decide) (hr.hi (by decide)) (pq_wq rfl) ?_
  refine j_aload_n (n := 16) dX2_begin_15 rfl rfl ?_
  refine j_iconst (n := 17) (v := nI 0) dX2_begin_16 rfl rfl ?_
  refine jc_put (n := 20) (k := 2) (x := nI 0) (M2 := pq M (pu (pu q 1 n) 2 0) R o) dX2_begin_17 rfl pX2_37 (fun h => by cases h) rfl rfl (hr.a (a := 118) rfl (by decide) rfl).1 (by decide) (hr.hi (by decide)) (pq_wq rfl) ?_
  refine j_aload_n (n := 21) dX2_begin_20 rfl rfl ?_
  refine j_iconst (n := 22) (v := nI 0) dX2_begin_21 rfl rfl ?_
  refine jc_put (n := 25) (k := 3) (x := nI 0) (M2 := pq M (pu (pu (pu q 1 n) 2 0) 3 0) R o) dX2_begin_22 rfl pX2_87 (fun h => by cases h) rfl rfl (hr.a (a := 118) rfl (by decide) rfl).1 (by decide) (hr.hi (by decide)) (pq_wq rfl) ?_
  refine j_aload_n (n := 26) dX2_begin_25 rfl rfl ?_
  refine j_iconst (n := 27) (v := nI 0) dX2_begin_26 rfl rfl ?_
  refine jc_put (n := 30) (k := 4) (x := nI 0) (M2 := pq M (pu (pu (pu (pu q 1 n) 2 0) 3 0) 4 0) R o) dX2_begin_27 rfl pX2_40 (fun h => by cases h) rfl rfl (hr.a (a := 118) rfl (by decide) rfl).1 (by decide) (hr.hi (by decide)) (pq_wq rfl) ?_
  refine j_aload_n (n := 31) dX2_begin_30 rfl rfl ?_
  refine j_iconst (n := 32) (v := nI 0) dX2_begin_31 rfl rfl ?_
  refine jc_put (n := 35) (k := 7) (x := nI 0) (M2 := pq M (pu (pu (pu (pu (pu q 1 n) 2 0) 3 0) 4 0) 7 0) R o) dX2_begin_32 rfl pX2_66 (fun h => by cases h) rfl rfl (hr.a (a := 118) rfl (by decide) rfl).1 (by decide) (hr.hi (by decide)) (pq_wq rfl) ?_
  refine j_aload_n (n := 36) dX2_begin_35 rfl rfl ?_
  refine j_iconst (n := 37) (v := nI 0) dX2_begin_36 rfl rfl ?_
  refine jc_put (n := 40) (k := 9) (x := nI 0) (M2 := pq M (pu (pu (pu (pu (pu (pu q 1 n) 2 0) 3 0) 4 0) 7 0) 9 0) R o) dX2_begin_37 rfl pX2_69 (fun h => by cases h) rfl rfl (hr.a (a := 118) rfl (by decide) rfl).1 (by decide) (hr.hi (by decide)) (pq_wq rfl) ?_
  refine j_aload_n (n := 41) dX2_begin_40 rfl rfl ?_
  refine j_iconst (n := 42) (v := nI 0) dX2_begin_41 rfl rfl ?_
  refine jc_put (n := 45) (k := 11) (x := nI 0) (M2 := pq M (pu (pu (pu (pu (pu (pu (pu q 1 n) 2 0) 3 0) 4 0) 7 0) 9 0) 11 0) R o) dX2_begin_42 rfl pX2_90 (fun h => by cases h) rfl rfl (hr.a (a := 118) rfl (by decide) rfl).1 (by decide) (hr.hi (by decide)) (pq_wq rfl) ?_
  refine j_aload_n (n := 46) dX2_begin_45 rfl rfl ?_
  refine j_iconst (n := 47) (v := nI 0) dX2_begin_46 rfl rfl ?_
  refine jc_put (n := 50) (k := 12) (x := nI 0) (M2 := pq M (pu (pu (pu (pu (pu (pu (pu (pu q 1 n) 2 0) 3 0) 4 0) 7 0) 9 0) 11 0) 12 0) R o) dX2_begin_47 rfl pX2_54 (fun h => by cases h) rfl rfl (hr.a (a := 118) rfl (by decide) rfl).1 (by decide) (hr.hi (by decide)) (pq_wq rfl) ?_
  refine j_aload_n (n := 51) dX2_begin_50 rfl rfl ?_
  refine j_iconst (n := 52) (v := nI 0) dX2_begin_51 rfl rfl ?_
  refine jc_put (n := 55) (k := 13) (x := nI 0) (M2 := pq M (pu (pu (pu (pu (pu (pu (pu (pu (pu q 1 n) 2 0) 3 0) 4 0) 7 0) 9 0) 11 0) 12 0) 13 0) R o) dX2_begin_52 rfl pX2_93 (fun h => by cases h) rfl rfl (hr.a (a := 118) rfl (by decide) rfl).1 (by decide) (hr.hi (by decide)) (pq_wq rfl) ?_
  exact j_rv dX2_begin_55 rfl (Nat.le_refl _) (Nat.le_refl _) rfl rfl
theorem cs_fl {key : Nat} {s s1 : CSt} (h : cs key s = some s1) : ∀ i, i < 22 → s1.2.1 i = s.2.1 i := by
  intro i hi
  obtain ⟨w, E, R, O⟩ := s
  unfold cs at h
  dsimp only at h
  repeat' split at h
  all_goals first | (cases h; done) | skip
  all_goals cases h
  all_goals first | rfl | exact (clN_i _ _ _ i (by omega)).trans (pu_ne _ _ (by omega)) | exact pu_ne _ _ (by omega)
theorem cs_len {key : Nat} {s s1 : CSt} (h : cs key s = some s1) : s1.2.2.2.length + s1.2.2.1.length ≤ s.2.2.2.length + s.2.2.1.length + 1 := by
  obtain ⟨w, E, R, O⟩ := s
  unfold cs at h
  dsimp only at h
  have hC : ∀ (O : List Nat) (E : Nat → Nat) (R : Sps), (clN O E R).2.2.length + (clN O E R).2.1.length = O.length + R.length := clN_len
  have hD : ∀ (lv : Nat) (O : List Nat) (R : Sps), (clD lv O R).1.length + (clD lv O R).2.length = O.length + R.length := clD_len
  have hA : ∀ (R : Sps) (x : Nat × Nat), (R ++ [x]).length = R.length + 1 := fun R x => List.length_append
  have hK : ∀ (O : List Nat) (x : Nat), (x :: O).length = O.length + 1 := fun O x => rfl
  have hT : ∀ (O : List Nat), O.tail.length ≤ O.length := fun O => by cases O <;> simp
  repeat' split at h
  all_goals first | (cases h; done) | skip
  all_goals cases h
  · have a1 := hC O (pu E 26 (E 26 + 1)) (R ++ [(0, E 20)])
    have a2 := hA R (0, E 20)
    dsimp only
    omega
  · have a1 := hC O (pu E 26 (E 26 + 1)) (R ++ [(1, E 21)])
    have a2 := hA R (1, E 21)
    dsimp only
    omega
  · dsimp only
    rw [hK]
    omega
  · dsimp only
    rw [hK]
    omega
  · have a1 := hC (clD 1 O R).1.tail (pu E 22 (E 22 - 1)) (clD 1 O R).2
    have a2 := hD 1 O R
    have a3 := hT (clD 1 O R).1
    dsimp only
    omega
  · have a1 := hD 4 O R
    have a2 := hD 3 (clD 4 O R).1 (clD 4 O R).2
    dsimp only
    rw [hK]
    omega
  · have a1 := hD (levN (E 21)) O R
    dsimp only
    rw [hK]
    omega
theorem cs_w {key : Nat} {s s1 : CSt} (h : cs key s = some s1) : s1.1 = true ↔ (s.2.1 19 = 3 ∧ ¬ s.2.1 21 = 41) := by
  obtain ⟨w, E, R, O⟩ := s
  unfold cs at h
  dsimp only at h ⊢
  repeat' split at h
  all_goals first | (cases h; done) | skip
  all_goals cases h
  all_goals first | (constructor <;> (intro z; first | rfl | (cases z; done) | omega)) | skip
theorem tok_cg {T q q2 E E2 : Nat → Nat} (h : tokQ T q E) (hq : ∀ i, i < 7 → q2 i = q i) (hE : ∀ i, i < 22 → E2 i = E i) : tokQ T q2 E2 := by
  unfold tokQ
  rw [hq 1 (by decide), hq 2 (by decide), hq 3 (by decide), hq 4 (by decide), hq 5 (by decide), hE 16 (by decide), hE 17 (by decide), hE 18 (by decide), hE 19 (by decide), hE 20 (by decide), hE 21 (by decide)]
  exact h
theorem tok_bw {T q E : Nat → Nat} (h : tokQ T q E) (h4 : ¬ E 19 = 4) : bwQ q = 1 ↔ (0 < E 18 ∧ (E 19 = 1 ∨ E 19 = 2)) := by
  obtain ⟨⟨t1, t2, t3, t4, t5, t6, t7⟩, u0, u1, u2, u3, u4⟩ := h
  have hb : bwQ q = 1 ↔ (q 4 = 1 ∨ q 4 = 2) := by
    unfold bwQ
    split <;> omega
  rw [hb]
  by_cases c0 : q 4 = 0
  · have := u0 c0
    omega
  · have v1 := u1 c0
    by_cases c1 : q 4 = 1
    · have e := (u2 c1).1
      split at e <;> omega
    · by_cases c2 : q 4 = 2
      · have e := (u3 c2).1
        split at e <;> omega
      · have := u4 (by omega)
        omega
theorem prs_next {T : Nat → Nat} {key : Nat} {q : Nat → Nat} {R : Nat → Int32} {o : Nat → Nat} {w : Bool} {E : Nat → Nat} {Rw : Sps} {O : List Nat} (h : prs key q R o (w, E, Rw, O)) : prs key (nextQ T q) R o (w, nextF T E, Rw, O) :=
  ⟨h.1, h.2.1.trans (next_i T E 26 (by decide)).symm, h.2.2.1.trans (next_i T E 22 (by decide)).symm, h.2.2.2.trans (next_i T E 23 (by decide)).symm⟩
theorem pI_next {T : Nat → Nat} {w : Bool} {E : Nat → Nat} {Rw : Sps} {O : List Nat} (h : pI (w, E, Rw, O)) : pI (w, nextF T E, Rw, O) := by
  obtain ⟨h1, h2, h3, h4, h5, h6⟩ := h
  exact ⟨h1, h2.trans (next_i T E 23 (by decide)).symm, h3.trans (next_i T E 22 (by decide)).symm, by show nextF T E 22 ≤ 8; rw [next_i T E 22 (by decide)]; exact h4, by show nextF T E 23 ≤ 8; rw [next_i T E 23 (by decide)]; exact h5, h6⟩
theorem keyQ_W {T q E : Nat → Nat} (h : tokQ T q E) (h5 : q 5 = 0) : keyQ T q = keyW T E := by
  obtain ⟨⟨t1, t2, t3, t4, t5, t6, t7⟩, u0, u1, u2, u3, u4⟩ := h
  unfold keyQ keyW
  rw [t2, t3]
  have hl : 3 ≤ E 18 - E 17 → 97 ≤ T (E 17) → E 19 = 1 := by
    intro h1 h2
    by_cases c1 : q 4 = 1
    · have := (u2 c1).1
      rw [h5] at this
      exact this
    · by_cases c2 : q 4 = 2
      · have := (u3 c2).2.2 (q 2) (Nat.le_refl _) (by omega)
        rw [t2] at this
        omega
      · by_cases c0 : q 4 = 0
        · have := u0 c0
          omega
        · have := u4 (by omega)
          omega
  refine ite_congr (propext ⟨fun z => ⟨hl (by omega) (by omega), z⟩, fun z => z.2⟩) (fun _ => rfl) (fun _ => ite_congr (propext ⟨fun z => ⟨hl (by omega) (by omega), z⟩, fun z => z.2⟩) (fun _ => rfl) (fun _ => ite_congr (propext ⟨fun z => ⟨hl (by omega) (by omega), z⟩, fun z => z.2⟩) (fun _ => rfl) (fun _ => rfl)))
theorem cs_e {key : Nat} {s : CSt} (h : s.2.1 19 = 0 ∨ s.2.1 19 = 4) : cs key s = none := by
  obtain ⟨w, E, R, O⟩ := s
  dsimp only at h
  unfold cs
  dsimp only
  split
  · rw [if_neg (by omega), if_neg (by omega), if_neg (by omega), if_neg (by omega)]
  · rw [if_neg (by omega), if_neg (by omega)]
theorem cs_n4 {key : Nat} {s s1 : CSt} (h : cs key s = some s1) : ¬ s.2.1 19 = 4 := fun z => by
  rw [cs_e (.inr z)] at h
  cases h
def ffP (M : zMem) (X2 : zX) (T E0 : Nat → Nat) (r : Int32) (M1 : zMem) (X1 : zX) : Prop := X1 = X2 ∧ ∃ q R o, M1 = pq M q R o ∧ ((keyW T (nextF T E0) = 3 ∧ r = nI (nextF T E0 17)) ∨ (keyW T (nextF T E0) < 3 ∧ q 6 = keyW T (nextF T E0) ∧ ∃ s1, rch T (keyW T (nextF T E0)) (true, nextF T (nextF T E0), [], []) s1 ∧ s1.2.1 17 ≤ 96 ∧ ((jam (keyW T (nextF T E0)) s1 ∧ r = nI (s1.2.1 17)) ∨ (s1.2.1 19 = 0 ∧ s1.1 = false ∧ s1.2.1 22 = 0 ∧ r = -1 ∧ q 7 = s1.2.1 26 ∧ ∃ O2, pst (keyW T (nextF T E0)) q R o (clD 1 s1.2.2.2 s1.2.2.1).2 O2))))
