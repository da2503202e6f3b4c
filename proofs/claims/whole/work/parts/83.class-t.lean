-- CLASS T: by program (wip/whole/gen/c20.py)
theorem cs_n3 {key : Nat} {E : Nat → Nat} {Rw : Sps} {O : List Nat} (h : ¬ E 19 = 3) : cs key (false, E, Rw, O) = none := by
  unfold cs
  dsimp only
  rw [if_neg (by decide), if_neg (by omega), if_neg (by omega)]
theorem cs_41 {key : Nat} {E : Nat → Nat} {Rw : Sps} {O : List Nat} (h : E 19 = 3) (h2 : E 21 = 41) : cs key (false, E, Rw, O) = if E 22 = 0 then none else some (clS (clD 1 O Rw).1.tail (pu E 22 (E 22 - 1)) (clD 1 O Rw).2) := by
  unfold cs
  dsimp only
  rw [if_neg (by decide), if_pos ⟨h, h2⟩]
  rfl
theorem cs_l0 {key : Nat} {E : Nat → Nat} {Rw : Sps} {O : List Nat} (h2 : ¬ E 21 = 41) (h3 : levN (E 21) = 0) : cs key (false, E, Rw, O) = none := by
  unfold cs
  dsimp only
  rw [if_neg (by decide), if_neg (by omega), if_neg (by omega)]
theorem cs_l3 {key : Nat} {E : Nat → Nat} {Rw : Sps} {O : List Nat} {O4 : List Nat} {Rw4 : Sps} (h : E 19 = 3) (h2 : ¬ E 21 = 41) (h3 : levN (E 21) = 3) (hz : clD 4 O Rw = (O4, Rw4)) : cs key (false, E, Rw, O) = if hdL O4 = 3 then none else some (true, E, (clD 3 O4 Rw4).2, E 21 :: (clD 3 O4 Rw4).1) := by
  unfold cs
  dsimp only
  rw [if_neg (by decide), if_neg (by omega), if_pos ⟨h, by omega⟩, if_pos h3, hz]
theorem cs_l {key : Nat} {E : Nat → Nat} {Rw : Sps} {O : List Nat} (h : E 19 = 3) (h2 : ¬ E 21 = 41) (h3 : ¬ levN (E 21) = 3) (h4 : ¬ levN (E 21) = 0) : cs key (false, E, Rw, O) = some (true, E, (clD (levN (E 21)) O Rw).2, E 21 :: (clD (levN (E 21)) O Rw).1) := by
  unfold cs
  dsimp only
  rw [if_neg (by decide), if_neg (by omega), if_pos ⟨h, by omega⟩, if_neg h3]
theorem k_takesSign (d : Nat) (G : zG) (M : zMem) (X : zX) (hr : kR X) (hb : xR X 118 0 = some 122) (T : Nat → Nat) (hT : tpC M T) (hT2 : ∀ i, T i ≤ 255) (q : Nat → Nat) (R : Nat → Int32) (o : Nat → Nat) (key : Nat) (E : Nat → Nat) (Rw : Sps) (O : List Nat) (hp : prs key q R o (false, E, Rw, O)) (hi : pI (false, E, Rw, O)) (ht : tokQ T q E) (hL : q 1 ≤ 96) (hl : O.length + Rw.length < 96) (h5 : q 5 = 0) (h40 : ¬ q 4 = 0) : zCall G miX2_takesSign (d + 3) [.ref 118] (zIr (stP key M X q (cs key (false, E, Rw, O)))) (pq M q R o) X 0 0 := by
  refine zCall.of (lv := [some (.ref 118), none, none]) (by decide) (Nat.le_of_ble_eq_true rfl) rfl ?_
  have ht0 := ht
  obtain ⟨⟨t1, t2, t3, t4, t5, t6, t7⟩, u0, u1, u2, u3, u4⟩ := ht
  have v1 := u1 h40
  have hsb := sb_int (hT2 (q 2))
  have hl5 := levN_le (T (q 2))
  have n3 : ¬ q 4 = 3 → ¬ E 19 = 3 := by
    intro z
    by_cases z1 : q 4 = 1
    · rw [(u2 z1).1, h5]; decide
    · rw [(u3 (by omega)).1]; split <;> decide
  by_cases h128 : T (q 2) < 128
  · refine j_aload_n (n := 1) dX2_takesSign_0 rfl rfl ?_
    refine jc_get (n := 4) (k := 4) (v := nI (q 4)) dX2_takesSign_1 rfl fX2_40 (hr.a (a := 118) rfl (by decide) rfl).1 (by decide) (hr.hi (by decide)) (pq_q _ _ _ _ _) ?_
    refine j_iconst (n := 5) (v := nI 3) dX2_takesSign_4 rfl rfl ?_
    refine j_icmp_eqT (n := 8) (tg := 10) dX2_takesSign_5 rfl rfl (i_N (by omega)) (i_N (by omega)) (fun h101 => ?_) (fun h101 => ?_)
    · refine j_aload_n (n := 11) dX2_takesSign_10 rfl rfl ?_
      refine j_getr (n := 14) (k := 0) (b := 122) dX2_takesSign_11 rfl fX2_9 (hr.a (a := 118) rfl (by decide) rfl).1 (by decide) (hr.hi (by decide)) hb ?_
      refine j_aload_n (n := 15) dX2_takesSign_14 rfl rfl ?_
      refine jc_get (n := 18) (k := 2) (v := nI (q 2)) dX2_takesSign_15 rfl fX2_37 (hr.a (a := 118) rfl (by decide) rfl).1 (by decide) (hr.hi (by decide)) (pq_q _ _ _ _ _) ?_
      refine j_baldN (n := 19) (L := 96) (a := 122) (i := q 2) (v := nI (T (q 2))) dX2_takesSign_18 rfl (hr.a (a := 122) rfl (by decide) rfl).1 (hr.a (a := 122) rfl (by decide) rfl).2 (by omega) (by decide) (by decide) (hr.hi (by decide)) (((congrFun (pq_n _ _ _ _ (by decide) (by decide) (by decide)) _).trans (hT _ (by omega))).trans (sb_lo h128)) ?_
      refine j_istore_n (n := 20) (lv2 := [some (.ref 118), some (.int (nI (T (q 2)))), none]) dX2_takesSign_19 rfl rfl (by decide) rfl ?_
      refine j_iload_n (n := 21) dX2_takesSign_20 rfl rfl ?_
      refine j_bipush (n := 23) (v := nI 41) dX2_takesSign_21 rfl (by decide) ?_
      refine j_icmp_neT (n := 26) (tg := 31) dX2_takesSign_23 rfl rfl (i_N (by omega)) (i_N (by omega)) (fun h102 => ?_) (fun h102 => ?_)
      · refine j_iload_n (n := 32) dX2_takesSign_31 rfl rfl ?_
        refine j_cS (n := 35) dX2_takesSign_32 rfl sX2_149 (k_levelOf (d + 2) G _ _ _ (by omega)) (by omega) (by decide) rfl rfl (Nat.le_of_ble_eq_true rfl) (by decide) (by decide) ?_
        refine j_istore_n (n := 36) (lv2 := [some (.ref 118), some (.int (nI (T (q 2)))), some (.int (nI (levN (T (q 2)))))]) dX2_takesSign_35 rfl rfl (by decide) rfl ?_
        refine j_iload_n (n := 37) dX2_takesSign_36 rfl rfl ?_
        refine j_if_neN (n := 40) (tg := 42) dX2_takesSign_37 rfl rfl (by omega) (fun h103 => ?_) (fun h103 => ?_)
        · refine j_iload_n (n := 43) dX2_takesSign_42 rfl rfl ?_
          refine j_iconst (n := 44) (v := nI 3) dX2_takesSign_43 rfl rfl ?_
          refine j_icmp_neT (n := 47) (tg := 79) dX2_takesSign_44 rfl rfl (i_N (by omega)) (i_N (by omega)) (fun h104 => ?_) (fun h104 => ?_)
          · refine j_aload_n (n := 80) dX2_takesSign_79 rfl rfl ?_
            refine j_iload_n (n := 81) dX2_takesSign_80 rfl rfl ?_
            refine j_cVvr (n := 84) dX2_takesSign_81 rfl sX2_60 (k_closeDownTo (d + 1) G _ _ hr _ _ _ key (levN (T (q 2))) (by omega) Rw O hp.1 hi.2.2.2.2.2.s (by omega)) (by omega) (by decide) rfl rfl (Nat.le_of_ble_eq_true rfl) (hr.a (a := 118) rfl (by decide) rfl).1 (by decide) (hr.hi (by decide)) (by decide) (by decide) (fun N6 Y6 hh6 => ?_)
            obtain ⟨e26, q6, R6, g61, g63, e36⟩ := hh6
            rw [e26, e36]
            have hcl6 := clD_len (levN (T (q 2))) O Rw
            have k611 := g63.2.1
            have hlx5 : ([] : List Nat).length = 0 := rfl
            refine j_aload_n (n := 85) dX2_takesSign_84 rfl rfl ?_
            refine j_iload_n (n := 86) dX2_takesSign_85 rfl rfl ?_
            refine j_cVv (n := 89) dX2_takesSign_86 rfl sX2_143 (k_putOff (d + 2) G _ _ hr _ _ _ (by (repeat (first | rw [pu_eq] | rw [pu_ne _ _ (by decide)])); omega) _) (by omega) (by decide) rfl rfl (Nat.le_of_ble_eq_true rfl) (hr.a (a := 118) rfl (by decide) rfl).1 (by decide) (hr.hi (by decide)) (by decide) (by decide) ?_
            refine j_iconst (n := 90) (v := nI 1) dX2_takesSign_89 rfl rfl ?_
            obtain ⟨w1, w2, w3, w4⟩ := u4 (by omega)
            rw [cs_l w1 (by omega) (by rw [w2]; omega) (by rw [w2]; omega), w2]
            exact stP_ret dX2_takesSign_90 rfl (fun i hi => (pu_ne _ _ (by omega)).trans (g61 i (by omega) (by omega))) ⟨rfl, pst_p g63 (pu_ne _ _ (by decide)) (pu_eq _ _ _) rfl, (pu_ne _ _ (by decide)).trans ((g61 7 (by omega) (by omega)).trans hp.2.1), (pu_ne _ _ (by decide)).trans ((g61 12 (by omega) (by omega)).trans hp.2.2.1), (pu_ne _ _ (by decide)).trans ((g61 13 (by omega) (by omega)).trans hp.2.2.2)⟩
          · refine j_aload_n (n := 48) dX2_takesSign_47 rfl rfl ?_
            refine j_iconst (n := 49) (v := nI 4) dX2_takesSign_48 rfl rfl ?_
            refine j_cVvr (n := 52) dX2_takesSign_49 rfl sX2_60 (k_closeDownTo (d + 1) G _ _ hr _ _ _ key 4 (by decide) Rw O hp.1 hi.2.2.2.2.2.s (by omega)) (by omega) (by decide) rfl rfl (Nat.le_of_ble_eq_true rfl) (hr.a (a := 118) rfl (by decide) rfl).1 (by decide) (hr.hi (by decide)) (by decide) (by decide) (fun N7 Y7 hh7 => ?_)
            obtain ⟨e27, q7, R7, g71, g73, e37⟩ := hh7
            rw [e27, e37]
            have hcl := clD_len 4 O Rw
            have hsg : sgs (clD 4 O Rw).1 := fun x hx => hi.2.2.2.2.2.s x (clD_sub 4 O Rw x hx)
            obtain ⟨O4, Rw4, hz⟩ : ∃ a b, clD 4 O Rw = (a, b) := ⟨_, _, rfl⟩
            rw [hz] at g73 hcl hsg
            dsimp only at g73 hcl hsg
            cases O4 with
            | nil =>
              have k711 : q7 11 = 0 := g73.2.1
              refine j_aload_n (n := 53) dX2_takesSign_52 rfl rfl ?_
              refine jc_get (n := 56) (k := 11) (v := nI (q7 11)) dX2_takesSign_53 rfl fX2_90 (hr.a (a := 118) rfl (by decide) rfl).1 (by decide) (hr.hi (by decide)) (pq_q _ _ _ _ _) ?_
              refine j_if_leM (n := 59) (tg := 79) dX2_takesSign_56 rfl rfl (by omega) (fun h105 => ?_) (fun h105 => ?_)
              · refine j_aload_n (n := 80) dX2_takesSign_79 rfl rfl ?_
                refine j_iload_n (n := 81) dX2_takesSign_80 rfl rfl ?_
                refine j_cVvr (n := 84) dX2_takesSign_81 rfl sX2_60 (k_closeDownTo (d + 1) G _ _ hr _ _ _ key (levN (T (q 2))) (by omega) Rw4 [] g73 hsg (by omega)) (by omega) (by decide) rfl rfl (Nat.le_of_ble_eq_true rfl) (hr.a (a := 118) rfl (by decide) rfl).1 (by decide) (hr.hi (by decide)) (by decide) (by decide) (fun N6 Y6 hh6 => ?_)
                obtain ⟨e26, q6, R6, g61, g63, e36⟩ := hh6
                rw [e26, e36]
                have hcl6 := clD_len (levN (T (q 2))) [] Rw4
                have k611 := g63.2.1
                have hlx5 : ([] : List Nat).length = 0 := rfl
                refine j_aload_n (n := 85) dX2_takesSign_84 rfl rfl ?_
                refine j_iload_n (n := 86) dX2_takesSign_85 rfl rfl ?_
                refine j_cVv (n := 89) dX2_takesSign_86 rfl sX2_143 (k_putOff (d + 2) G _ _ hr _ _ _ (by (repeat (first | rw [pu_eq] | rw [pu_ne _ _ (by decide)])); omega) _) (by omega) (by decide) rfl rfl (Nat.le_of_ble_eq_true rfl) (hr.a (a := 118) rfl (by decide) rfl).1 (by decide) (hr.hi (by decide)) (by decide) (by decide) ?_
                refine j_iconst (n := 90) (v := nI 1) dX2_takesSign_89 rfl rfl ?_
                obtain ⟨w1, w2, w3, w4⟩ := u4 (by omega)
                rw [cs_l3 w1 (by omega) (by rw [w2]; omega) hz, if_neg (by decide), w2]
                have el : levN (T (q 2)) = 3 := by omega
                rw [el] at g63
                exact stP_ret dX2_takesSign_90 rfl (fun i hi => (pu_ne _ _ (by omega)).trans ((g61 i (by omega) (by omega)).trans (g71 i (by omega) (by omega)))) ⟨rfl, pst_p g63 (pu_ne _ _ (by decide)) (pu_eq _ _ _) rfl, (pu_ne _ _ (by decide)).trans (((g61 7 (by omega) (by omega)).trans (g71 7 (by omega) (by omega))).trans hp.2.1), (pu_ne _ _ (by decide)).trans (((g61 12 (by omega) (by omega)).trans (g71 12 (by omega) (by omega))).trans hp.2.2.1), (pu_ne _ _ (by decide)).trans (((g61 13 (by omega) (by omega)).trans (g71 13 (by omega) (by omega))).trans hp.2.2.2)⟩
              · exfalso; omega
            | cons x O4 =>
              have k711 : q7 11 = O4.length + 1 := g73.2.1
              have hx : o (q7 11 - 1) = x := by rw [k711, Nat.add_sub_cancel]; exact g73.2.2.2.1
              have hx5 := hsg x List.mem_cons_self
              have hlx := levN_le x
              rw [List.length_cons] at hcl
              have hlx5 : (x :: O4).length = O4.length + 1 := rfl
              refine j_aload_n (n := 53) dX2_takesSign_52 rfl rfl ?_
              refine jc_get (n := 56) (k := 11) (v := nI (q7 11)) dX2_takesSign_53 rfl fX2_90 (hr.a (a := 118) rfl (by decide) rfl).1 (by decide) (hr.hi (by decide)) (pq_q _ _ _ _ _) ?_
              refine j_if_leM (n := 59) (tg := 79) dX2_takesSign_56 rfl rfl (by omega) (fun h106 => ?_) (fun h106 => ?_)
              · exfalso; omega
              · refine j_aload_n (n := 60) dX2_takesSign_59 rfl rfl ?_
                refine j_getr (n := 63) (k := 10) (b := 121) dX2_takesSign_60 rfl fX2_19 (hr.a (a := 118) rfl (by decide) rfl).1 (by decide) (hr.hi (by decide)) hr.p10 ?_
                refine j_aload_n (n := 64) dX2_takesSign_63 rfl rfl ?_
                refine jc_get (n := 67) (k := 11) (v := nI (q7 11)) dX2_takesSign_64 rfl fX2_90 (hr.a (a := 118) rfl (by decide) rfl).1 (by decide) (hr.hi (by decide)) (pq_q _ _ _ _ _) ?_
                refine j_iconst (n := 68) (v := nI 1) dX2_takesSign_67 rfl rfl ?_
                refine j_isubN (n := 69) (c := q7 11 - 1) dX2_takesSign_68 rfl (by omega) (by omega) ?_
                refine j_ialdN (n := 70) (L := 96) (a := 121) (i := q7 11 - 1) (v := nI (o (q7 11 - 1))) dX2_takesSign_69 rfl (hr.a (a := 121) rfl (by decide) rfl).1 (hr.a (a := 121) rfl (by decide) rfl).2 (by omega) (by decide) (by decide) (hr.hi (by decide)) (pq_o _ _ _ _ _) ?_
                refine j_cS (n := 73) dX2_takesSign_70 rfl sX2_149 (k_levelOf (d + 2) G _ _ _ (by rw [hx]; omega)) (by omega) (by decide) rfl rfl (Nat.le_of_ble_eq_true rfl) (by decide) (by decide) ?_
                refine j_top (y := nI (levN x)) (by rw [hx]) ?_
                refine j_iconst (n := 74) (v := nI 3) dX2_takesSign_73 rfl rfl ?_
                refine j_icmp_neT (n := 77) (tg := 79) dX2_takesSign_74 rfl rfl (i_N (by omega)) (i_N (by omega)) (fun h107 => ?_) (fun h107 => ?_)
                · refine j_aload_n (n := 80) dX2_takesSign_79 rfl rfl ?_
                  refine j_iload_n (n := 81) dX2_takesSign_80 rfl rfl ?_
                  refine j_cVvr (n := 84) dX2_takesSign_81 rfl sX2_60 (k_closeDownTo (d + 1) G _ _ hr _ _ _ key (levN (T (q 2))) (by omega) Rw4 (x :: O4) g73 hsg (by omega)) (by omega) (by decide) rfl rfl (Nat.le_of_ble_eq_true rfl) (hr.a (a := 118) rfl (by decide) rfl).1 (by decide) (hr.hi (by decide)) (by decide) (by decide) (fun N6 Y6 hh6 => ?_)
                  obtain ⟨e26, q6, R6, g61, g63, e36⟩ := hh6
                  rw [e26, e36]
                  have hcl6 := clD_len (levN (T (q 2))) (x :: O4) Rw4
                  have k611 := g63.2.1
                  have hlx5 : (x :: O4).length = O4.length + 1 := rfl
                  refine j_aload_n (n := 85) dX2_takesSign_84 rfl rfl ?_
                  refine j_iload_n (n := 86) dX2_takesSign_85 rfl rfl ?_
                  refine j_cVv (n := 89) dX2_takesSign_86 rfl sX2_143 (k_putOff (d + 2) G _ _ hr _ _ _ (by (repeat (first | rw [pu_eq] | rw [pu_ne _ _ (by decide)])); omega) _) (by omega) (by decide) rfl rfl (Nat.le_of_ble_eq_true rfl) (hr.a (a := 118) rfl (by decide) rfl).1 (by decide) (hr.hi (by decide)) (by decide) (by decide) ?_
                  refine j_iconst (n := 90) (v := nI 1) dX2_takesSign_89 rfl rfl ?_
                  obtain ⟨w1, w2, w3, w4⟩ := u4 (by omega)
                  rw [cs_l3 w1 (by omega) (by rw [w2]; omega) hz, if_neg (by show ¬ levN x = 3; omega), w2]
                  have el : levN (T (q 2)) = 3 := by omega
                  rw [el] at g63
                  exact stP_ret dX2_takesSign_90 rfl (fun i hi => (pu_ne _ _ (by omega)).trans ((g61 i (by omega) (by omega)).trans (g71 i (by omega) (by omega)))) ⟨rfl, pst_p g63 (pu_ne _ _ (by decide)) (pu_eq _ _ _) rfl, (pu_ne _ _ (by decide)).trans (((g61 7 (by omega) (by omega)).trans (g71 7 (by omega) (by omega))).trans hp.2.1), (pu_ne _ _ (by decide)).trans (((g61 12 (by omega) (by omega)).trans (g71 12 (by omega) (by omega))).trans hp.2.2.1), (pu_ne _ _ (by decide)).trans (((g61 13 (by omega) (by omega)).trans (g71 13 (by omega) (by omega))).trans hp.2.2.2)⟩
                · refine j_iconst (n := 78) (v := nI 0) dX2_takesSign_77 rfl rfl ?_
                  obtain ⟨w1, w2, w3, w4⟩ := u4 (by omega)
                  rw [cs_l3 w1 (by omega) (by rw [w2]; omega) hz, if_pos (by show levN x = 3; omega)]
                  exact stP_ret dX2_takesSign_78 rfl (fun i hi => g71 i (by omega) (by omega)) rfl
        · refine j_iconst (n := 41) (v := nI 0) dX2_takesSign_40 rfl rfl ?_
          obtain ⟨w1, w2, w3, w4⟩ := u4 (by omega)
          rw [cs_l0 (by omega) (by rw [w2]; omega)]
          exact stP_ret (R2 := R) (o2 := o) (q2 := q) dX2_takesSign_41 rfl (fun _ _ => rfl) rfl
      · refine j_aload_n (n := 27) dX2_takesSign_26 rfl rfl ?_
        refine j_cVr (n := 30) dX2_takesSign_27 rfl sX2_146 (k_closesBracket d G _ _ hr hb T hT hT2 _ _ _ key E Rw O hp hi ht0 hL hl ) (by omega) (by decide) rfl rfl (Nat.le_of_ble_eq_true rfl) (hr.a (a := 118) rfl (by decide) rfl).1 (by decide) (hr.hi (by decide)) (by decide) (by decide) (fun r9 N9 Y9 hh9 => ?_)
        obtain ⟨e29, q9, R9, o9, g91, e39, g92⟩ := hh9
        rw [e29, e39]
        obtain ⟨w1, w2, w3, w4⟩ := u4 (by omega)
        rw [cs_41 w1 (by omega)]
        exact stP_ret dX2_takesSign_30 rfl g91 g92
    · refine j_iconst (n := 9) (v := nI 0) dX2_takesSign_8 rfl rfl ?_
      rw [cs_n3 (n3 (by omega))]
      exact stP_ret (R2 := R) (o2 := o) (q2 := q) dX2_takesSign_9 rfl (fun _ _ => rfl) rfl
  · refine j_aload_n (n := 1) dX2_takesSign_0 rfl rfl ?_
    refine jc_get (n := 4) (k := 4) (v := nI (q 4)) dX2_takesSign_1 rfl fX2_40 (hr.a (a := 118) rfl (by decide) rfl).1 (by decide) (hr.hi (by decide)) (pq_q _ _ _ _ _) ?_
    refine j_iconst (n := 5) (v := nI 3) dX2_takesSign_4 rfl rfl ?_
    refine j_icmp_eqT (n := 8) (tg := 10) dX2_takesSign_5 rfl rfl (i_N (by omega)) (i_N (by omega)) (fun h108 => ?_) (fun h108 => ?_)
    · refine j_aload_n (n := 11) dX2_takesSign_10 rfl rfl ?_
      refine j_getr (n := 14) (k := 0) (b := 122) dX2_takesSign_11 rfl fX2_9 (hr.a (a := 118) rfl (by decide) rfl).1 (by decide) (hr.hi (by decide)) hb ?_
      refine j_aload_n (n := 15) dX2_takesSign_14 rfl rfl ?_
      refine jc_get (n := 18) (k := 2) (v := nI (q 2)) dX2_takesSign_15 rfl fX2_37 (hr.a (a := 118) rfl (by decide) rfl).1 (by decide) (hr.hi (by decide)) (pq_q _ _ _ _ _) ?_
      refine j_baldN (n := 19) (L := 96) (a := 122) (i := q 2) (v := sb (T (q 2))) dX2_takesSign_18 rfl (hr.a (a := 122) rfl (by decide) rfl).1 (hr.a (a := 122) rfl (by decide) rfl).2 (by omega) (by decide) (by decide) (hr.hi (by decide)) ((congrFun (pq_n _ _ _ _ (by decide) (by decide) (by decide)) _).trans (hT _ (by omega))) ?_
      refine j_istore_n (n := 20) (lv2 := [some (.ref 118), some (.int (sb (T (q 2)))), none]) dX2_takesSign_19 rfl rfl (by decide) rfl ?_
      refine j_iload_n (n := 21) dX2_takesSign_20 rfl rfl ?_
      refine j_bipush (n := 23) (v := nI 41) dX2_takesSign_21 rfl (by decide) ?_
      refine j_icmp_neT (n := 26) (tg := 31) dX2_takesSign_23 rfl rfl rfl (i_N (by omega)) (fun h109 => ?_) (fun h109 => ?_)
      · refine j_iload_n (n := 32) dX2_takesSign_31 rfl rfl ?_
        refine j_cS (n := 35) dX2_takesSign_32 rfl sX2_149 (k_levelOfS (d + 2) G _ _ _ (by omega)) (by omega) (by decide) rfl rfl (Nat.le_of_ble_eq_true rfl) (by decide) (by decide) ?_
        refine j_istore_n (n := 36) (lv2 := [some (.ref 118), some (.int (sb (T (q 2)))), some (.int (nI 0))]) dX2_takesSign_35 rfl rfl (by decide) rfl ?_
        refine j_iload_n (n := 37) dX2_takesSign_36 rfl rfl ?_
        refine j_if_neN (n := 40) (tg := 42) dX2_takesSign_37 rfl rfl (by omega) (fun h110 => ?_) (fun h110 => ?_)
        · exact absurd h110 (by decide)
        · refine j_iconst (n := 41) (v := nI 0) dX2_takesSign_40 rfl rfl ?_
          obtain ⟨w1, w2, w3, w4⟩ := u4 (by omega)
          rw [cs_l0 (by omega) (by rw [w2]; exact levN_128 (by omega))]
          exact stP_ret (R2 := R) (o2 := o) (q2 := q) dX2_takesSign_41 rfl (fun _ _ => rfl) rfl
      · exfalso; omega
    · refine j_iconst (n := 9) (v := nI 0) dX2_takesSign_8 rfl rfl ?_
      rw [cs_n3 (n3 (by omega))]
      exact stP_ret (R2 := R) (o2 := o) (q2 := q) dX2_takesSign_9 rfl (fun _ _ => rfl) rfl
