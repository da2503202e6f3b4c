-- CLASS S: by program (wip/whole/gen/c19.py)
theorem k_opens (d : Nat) (G : zG) (M : zMem) (X : zX) (hr : kR X) (hb : xR X 118 0 = some 122) (T : Nat → Nat) (hT : tpC M T) (hT2 : ∀ i, T i ≤ 255) (q : Nat → Nat) (R : Nat → Int32) (o : Nat → Nat) (key : Nat) (E : Nat → Nat) (Rw : Sps) (O : List Nat) (hp : prs key q R o (true, E, Rw, O)) (hi : pI (true, E, Rw, O)) (ht : tokQ T q E) (hL : q 1 ≤ 96) (hl : O.length + Rw.length < 96) : zCall G miX2_opens (d + 1) [.ref 118, .int (sb (T (q 2)))] (zIr (stP key M X q (if T (q 2) = 40 ∧ E 22 < 8 then some ((true, pu E 22 (E 22 + 1), Rw, 40 :: O) : CSt) else if T (q 2) = 33 ∧ E 23 < 8 then some (true, pu E 23 (E 23 + 1), Rw, 33 :: O) else none))) (pq M q R o) X 0 0 := by
  refine zCall.of (lv := [some (.ref 118), some (.int (sb (T (q 2))))]) (by decide) (Nat.le_of_ble_eq_true rfl) rfl ?_
  have hsb := sb_int (hT2 (q 2))
  have h12 : q 12 = E 22 := hp.2.2.1
  have h13 : q 13 = E 23 := hp.2.2.2
  have h11 : q 11 = O.length := hp.1.2.1
  have i22 : E 22 ≤ 8 := hi.2.2.2.1
  have i23 : E 23 ≤ 8 := hi.2.2.2.2.1
  refine j_iload_n (n := 1) dX2_opens_0 rfl rfl ?_
  refine j_bipush (n := 3) (v := nI 40) dX2_opens_1 rfl (by decide) ?_
  refine j_icmp_neT (n := 6) (tg := 28) dX2_opens_3 rfl rfl rfl (i_N (by omega)) (fun h101 => ?_) (fun h101 => ?_)
  · refine j_iload_n (n := 29) dX2_opens_28 rfl rfl ?_
    refine j_bipush (n := 31) (v := nI 33) dX2_opens_29 rfl (by decide) ?_
    refine j_icmp_neT (n := 34) (tg := 56) dX2_opens_31 rfl rfl rfl (i_N (by omega)) (fun h102 => ?_) (fun h102 => ?_)
    · refine j_iconst (n := 57) (v := nI 0) dX2_opens_56 rfl rfl ?_
      exact j_iret dX2_opens_57 rfl rfl (Nat.le_refl _) (Nat.le_refl _) ⟨_, rfl, rfl, q, R, o, (fun _ _ => rfl), rfl, (by rw [if_neg (by omega), if_neg (by omega)]; rfl)⟩
    · refine j_aload_n (n := 35) dX2_opens_34 rfl rfl ?_
      refine jc_get (n := 38) (k := 13) (v := nI (q 13)) dX2_opens_35 rfl fX2_93 (hr.a (a := 118) rfl (by decide) rfl).1 (by decide) (hr.hi (by decide)) (pq_q _ _ _ _ _) ?_
      refine j_bipush (n := 40) (v := nI 8) dX2_opens_38 rfl (by decide) ?_
      refine j_icmp_geT (n := 43) (tg := 56) dX2_opens_40 rfl rfl (i_N (by omega)) (i_N (by omega)) (fun h103 => ?_) (fun h103 => ?_)
      · refine j_iconst (n := 57) (v := nI 0) dX2_opens_56 rfl rfl ?_
        exact j_iret dX2_opens_57 rfl rfl (Nat.le_refl _) (Nat.le_refl _) ⟨_, rfl, rfl, q, R, o, (fun _ _ => rfl), rfl, (by rw [if_neg (by omega), if_neg (by omega)]; rfl)⟩
      · refine j_aload_n (n := 44) dX2_opens_43 rfl rfl ?_
        refine j_dup (n := 45) dX2_opens_44 rfl rfl ?_
        refine jc_get (n := 48) (k := 13) (v := nI (q 13)) dX2_opens_45 rfl fX2_93 (hr.a (a := 118) rfl (by decide) rfl).1 (by decide) (hr.hi (by decide)) (pq_q _ _ _ _ _) ?_
        refine j_iconst (n := 49) (v := nI 1) dX2_opens_48 rfl rfl ?_
        refine j_iaddN (n := 50) (c := q 13 + 1) dX2_opens_49 rfl rfl ?_
        refine jc_put (n := 53) (k := 13) (x := nI (q 13 + 1)) (M2 := pq M (pu q 13 (q 13 + 1)) R o) dX2_opens_50 rfl pX2_93 (fun h => by cases h) rfl rfl (hr.a (a := 118) rfl (by decide) rfl).1 (by decide) (hr.hi (by decide)) (pq_wq rfl) ?_
        refine j_goto (n := 58) dX2_opens_53 rfl ?_
        refine j_aload_n (n := 59) dX2_opens_58 rfl rfl ?_
        refine j_iload_n (n := 60) dX2_opens_59 rfl rfl ?_
        have et : T (q 2) = 33 := by omega
        refine j_top (y := nI 33) ((sb_lo (by omega)).trans (congrArg nI et)) ?_
        refine j_cVv (n := 63) dX2_opens_60 rfl sX2_143 (k_putOff d G _ _ hr _ _ _ (by (repeat (first | rw [pu_eq] | rw [pu_ne _ _ (by decide)])); omega) _) (by omega) (by decide) rfl rfl (Nat.le_of_ble_eq_true rfl) (hr.a (a := 118) rfl (by decide) rfl).1 (by decide) (hr.hi (by decide)) (by decide) (by decide) ?_
        refine j_iconst (n := 64) (v := nI 1) dX2_opens_63 rfl rfl ?_
        exact j_iret dX2_opens_64 rfl rfl (Nat.le_refl _) (Nat.le_refl _) ⟨_, rfl, rfl, (pu (pu q 13 (q 13 + 1)) 11 ((pu q 13 (q 13 + 1)) 11 + 1)), R, (pu o ((pu q 13 (q 13 + 1)) 11) 33), (fun i hi => by rw [pu_ne _ _ (by omega), pu_ne _ _ (by omega)]), rfl, (by rw [if_neg (by omega), if_pos ⟨et, by omega⟩]; exact ⟨rfl, pst_p (q := pu q 13 (q 13 + 1)) (pst_c hp.1 (pu_ne _ _ (by decide)) (pu_ne _ _ (by decide))) (pu_ne _ _ (by decide)) (pu_eq _ _ _) rfl, (by rw [pu_ne _ _ (by decide), pu_ne _ _ (by decide), hp.2.1]; rfl), (by rw [pu_ne _ _ (by decide), pu_ne _ _ (by decide), h12]; rfl), (by rw [pu_ne _ _ (by decide), pu_eq, h13]; rfl)⟩)⟩
  · refine j_aload_n (n := 7) dX2_opens_6 rfl rfl ?_
    refine jc_get (n := 10) (k := 12) (v := nI (q 12)) dX2_opens_7 rfl fX2_54 (hr.a (a := 118) rfl (by decide) rfl).1 (by decide) (hr.hi (by decide)) (pq_q _ _ _ _ _) ?_
    refine j_bipush (n := 12) (v := nI 8) dX2_opens_10 rfl (by decide) ?_
    refine j_icmp_geT (n := 15) (tg := 28) dX2_opens_12 rfl rfl (i_N (by omega)) (i_N (by omega)) (fun h104 => ?_) (fun h104 => ?_)
    · refine j_iload_n (n := 29) dX2_opens_28 rfl rfl ?_
      refine j_bipush (n := 31) (v := nI 33) dX2_opens_29 rfl (by decide) ?_
      refine j_icmp_neT (n := 34) (tg := 56) dX2_opens_31 rfl rfl rfl (i_N (by omega)) (fun h105 => ?_) (fun h105 => ?_)
      · refine j_iconst (n := 57) (v := nI 0) dX2_opens_56 rfl rfl ?_
        exact j_iret dX2_opens_57 rfl rfl (Nat.le_refl _) (Nat.le_refl _) ⟨_, rfl, rfl, q, R, o, (fun _ _ => rfl), rfl, (by rw [if_neg (by omega), if_neg (by omega)]; rfl)⟩
      · refine j_aload_n (n := 35) dX2_opens_34 rfl rfl ?_
        refine jc_get (n := 38) (k := 13) (v := nI (q 13)) dX2_opens_35 rfl fX2_93 (hr.a (a := 118) rfl (by decide) rfl).1 (by decide) (hr.hi (by decide)) (pq_q _ _ _ _ _) ?_
        refine j_bipush (n := 40) (v := nI 8) dX2_opens_38 rfl (by decide) ?_
        refine j_icmp_geT (n := 43) (tg := 56) dX2_opens_40 rfl rfl (i_N (by omega)) (i_N (by omega)) (fun h106 => ?_) (fun h106 => ?_)
        · refine j_iconst (n := 57) (v := nI 0) dX2_opens_56 rfl rfl ?_
          exact j_iret dX2_opens_57 rfl rfl (Nat.le_refl _) (Nat.le_refl _) ⟨_, rfl, rfl, q, R, o, (fun _ _ => rfl), rfl, (by rw [if_neg (by omega), if_neg (by omega)]; rfl)⟩
        · refine j_aload_n (n := 44) dX2_opens_43 rfl rfl ?_
          refine j_dup (n := 45) dX2_opens_44 rfl rfl ?_
          refine jc_get (n := 48) (k := 13) (v := nI (q 13)) dX2_opens_45 rfl fX2_93 (hr.a (a := 118) rfl (by decide) rfl).1 (by decide) (hr.hi (by decide)) (pq_q _ _ _ _ _) ?_
          refine j_iconst (n := 49) (v := nI 1) dX2_opens_48 rfl rfl ?_
          refine j_iaddN (n := 50) (c := q 13 + 1) dX2_opens_49 rfl rfl ?_
          refine jc_put (n := 53) (k := 13) (x := nI (q 13 + 1)) (M2 := pq M (pu q 13 (q 13 + 1)) R o) dX2_opens_50 rfl pX2_93 (fun h => by cases h) rfl rfl (hr.a (a := 118) rfl (by decide) rfl).1 (by decide) (hr.hi (by decide)) (pq_wq rfl) ?_
          refine j_goto (n := 58) dX2_opens_53 rfl ?_
          refine j_aload_n (n := 59) dX2_opens_58 rfl rfl ?_
          refine j_iload_n (n := 60) dX2_opens_59 rfl rfl ?_
          have et : T (q 2) = 33 := by omega
          refine j_top (y := nI 33) ((sb_lo (by omega)).trans (congrArg nI et)) ?_
          refine j_cVv (n := 63) dX2_opens_60 rfl sX2_143 (k_putOff d G _ _ hr _ _ _ (by (repeat (first | rw [pu_eq] | rw [pu_ne _ _ (by decide)])); omega) _) (by omega) (by decide) rfl rfl (Nat.le_of_ble_eq_true rfl) (hr.a (a := 118) rfl (by decide) rfl).1 (by decide) (hr.hi (by decide)) (by decide) (by decide) ?_
          refine j_iconst (n := 64) (v := nI 1) dX2_opens_63 rfl rfl ?_
          exact j_iret dX2_opens_64 rfl rfl (Nat.le_refl _) (Nat.le_refl _) ⟨_, rfl, rfl, (pu (pu q 13 (q 13 + 1)) 11 ((pu q 13 (q 13 + 1)) 11 + 1)), R, (pu o ((pu q 13 (q 13 + 1)) 11) 33), (fun i hi => by rw [pu_ne _ _ (by omega), pu_ne _ _ (by omega)]), rfl, (by rw [if_neg (by omega), if_pos ⟨et, by omega⟩]; exact ⟨rfl, pst_p (q := pu q 13 (q 13 + 1)) (pst_c hp.1 (pu_ne _ _ (by decide)) (pu_ne _ _ (by decide))) (pu_ne _ _ (by decide)) (pu_eq _ _ _) rfl, (by rw [pu_ne _ _ (by decide), pu_ne _ _ (by decide), hp.2.1]; rfl), (by rw [pu_ne _ _ (by decide), pu_ne _ _ (by decide), h12]; rfl), (by rw [pu_ne _ _ (by decide), pu_eq, h13]; rfl)⟩)⟩
    · refine j_aload_n (n := 16) dX2_opens_15 rfl rfl ?_
      refine j_dup (n := 17) dX2_opens_16 rfl rfl ?_
      refine jc_get (n := 20) (k := 12) (v := nI (q 12)) dX2_opens_17 rfl fX2_54 (hr.a (a := 118) rfl (by decide) rfl).1 (by decide) (hr.hi (by decide)) (pq_q _ _ _ _ _) ?_
      refine j_iconst (n := 21) (v := nI 1) dX2_opens_20 rfl rfl ?_
      refine j_iaddN (n := 22) (c := q 12 + 1) dX2_opens_21 rfl rfl ?_
      refine jc_put (n := 25) (k := 12) (x := nI (q 12 + 1)) (M2 := pq M (pu q 12 (q 12 + 1)) R o) dX2_opens_22 rfl pX2_54 (fun h => by cases h) rfl rfl (hr.a (a := 118) rfl (by decide) rfl).1 (by decide) (hr.hi (by decide)) (pq_wq rfl) ?_
      refine j_goto (n := 58) dX2_opens_25 rfl ?_
      refine j_aload_n (n := 59) dX2_opens_58 rfl rfl ?_
      refine j_iload_n (n := 60) dX2_opens_59 rfl rfl ?_
      have et : T (q 2) = 40 := by omega
      refine j_top (y := nI 40) ((sb_lo (by omega)).trans (congrArg nI et)) ?_
      refine j_cVv (n := 63) dX2_opens_60 rfl sX2_143 (k_putOff d G _ _ hr _ _ _ (by (repeat (first | rw [pu_eq] | rw [pu_ne _ _ (by decide)])); omega) _) (by omega) (by decide) rfl rfl (Nat.le_of_ble_eq_true rfl) (hr.a (a := 118) rfl (by decide) rfl).1 (by decide) (hr.hi (by decide)) (by decide) (by decide) ?_
      refine j_iconst (n := 64) (v := nI 1) dX2_opens_63 rfl rfl ?_
      exact j_iret dX2_opens_64 rfl rfl (Nat.le_refl _) (Nat.le_refl _) ⟨_, rfl, rfl, (pu (pu q 12 (q 12 + 1)) 11 ((pu q 12 (q 12 + 1)) 11 + 1)), R, (pu o ((pu q 12 (q 12 + 1)) 11) 40), (fun i hi => by rw [pu_ne _ _ (by omega), pu_ne _ _ (by omega)]), rfl, (by rw [if_pos ⟨et, by omega⟩]; exact ⟨rfl, pst_p (q := pu q 12 (q 12 + 1)) (pst_c hp.1 (pu_ne _ _ (by decide)) (pu_ne _ _ (by decide))) (pu_ne _ _ (by decide)) (pu_eq _ _ _) rfl, (by rw [pu_ne _ _ (by decide), pu_ne _ _ (by decide), hp.2.1]; rfl), (by rw [pu_ne _ _ (by decide), pu_eq, h12]; rfl), (by rw [pu_ne _ _ (by decide), pu_ne _ _ (by decide), h13]; rfl)⟩)⟩
theorem k_closesBracket (d : Nat) (G : zG) (M : zMem) (X : zX) (hr : kR X) (hb : xR X 118 0 = some 122) (T : Nat → Nat) (hT : tpC M T) (hT2 : ∀ i, T i ≤ 255) (q : Nat → Nat) (R : Nat → Int32) (o : Nat → Nat) (key : Nat) (E : Nat → Nat) (Rw : Sps) (O : List Nat) (hp : prs key q R o (false, E, Rw, O)) (hi : pI (false, E, Rw, O)) (ht : tokQ T q E) (hL : q 1 ≤ 96) (hl : O.length + Rw.length < 96) : zCall G miX2_closesBracket (d + 2) [.ref 118] (zIr (stP key M X q (if E 22 = 0 then none else some (clS (clD 1 O Rw).1.tail (pu E 22 (E 22 - 1)) (clD 1 O Rw).2)))) (pq M q R o) X 0 0 := by
  refine zCall.of (lv := [some (.ref 118)]) (by decide) (Nat.le_of_ble_eq_true rfl) rfl ?_
  have h12 : q 12 = E 22 := hp.2.2.1
  have h13 : q 13 = E 23 := hp.2.2.2
  have h11 : q 11 = O.length := hp.1.2.1
  have i22 : E 22 ≤ 8 := hi.2.2.2.1
  have i23 : E 23 ≤ 8 := hi.2.2.2.2.1
  refine j_aload_n (n := 1) dX2_closesBracket_0 rfl rfl ?_
  refine jc_get (n := 4) (k := 12) (v := nI (q 12)) dX2_closesBracket_1 rfl fX2_54 (hr.a (a := 118) rfl (by decide) rfl).1 (by decide) (hr.hi (by decide)) (pq_q _ _ _ _ _) ?_
  refine j_if_neN (n := 7) (tg := 9) dX2_closesBracket_4 rfl rfl (by omega) (fun h101 => ?_) (fun h101 => ?_)
  · refine j_aload_n (n := 10) dX2_closesBracket_9 rfl rfl ?_
    refine j_iconst (n := 11) (v := nI 1) dX2_closesBracket_10 rfl rfl ?_
    refine j_cVvr (n := 14) dX2_closesBracket_11 rfl sX2_60 (k_closeDownTo d G _ _ hr _ _ _ key 1 (by decide) Rw O hp.1 hi.2.2.2.2.2.s (by omega)) (by omega) (by decide) rfl rfl (Nat.le_of_ble_eq_true rfl) (hr.a (a := 118) rfl (by decide) rfl).1 (by decide) (hr.hi (by decide)) (by decide) (by decide) (fun N7 Y7 hh7 => ?_)
    obtain ⟨e27, q7, R7, g71, g73, e37⟩ := hh7
    rw [e27, e37]
    have hcl := clD_len 1 O Rw
    have q1 := clD_g (lv := 1) (Nat.le_refl _) O Rw hi.1
    have q2 := clD_cn (lv := 1) (v := 33) (Nat.le_refl _) (.inl rfl) O Rw
    have q3 := clD_cn (lv := 1) (v := 40) (Nat.le_refl _) (.inr rfl) O Rw
    have q4 := clD_hd (lv := 1) O Rw (Nat.le_refl _)
    have q5 : sgA (clD 1 O Rw).1 := fun x hx => hi.2.2.2.2.2 x (clD_sub 1 O Rw x hx)
    have hc1 : cnL 33 O = E 23 := hi.2.1
    have hc2 : cnL 40 O = E 22 := hi.2.2.1
    obtain ⟨y, hy⟩ := cn_tl q4 q1 (by omega) q5
    have hlen := congrArg List.length hy
    rw [List.length_cons] at hlen
    have g75 : pst key q7 R7 o (clD 1 O Rw).2 (40 :: y) := by rw [← hy]; exact g73
    rw [hy, cnL, if_neg (by decide)] at q2
    have k12 : q7 12 = E 22 := (g71 12 (by decide) (by decide)).trans h12
    have k13 : q7 13 = E 23 := (g71 13 (by decide) (by decide)).trans h13
    have k11 : q7 11 = y.length + 1 := g75.2.1
    refine j_aload_n (n := 15) dX2_closesBracket_14 rfl rfl ?_
    refine j_dup (n := 16) dX2_closesBracket_15 rfl rfl ?_
    refine jc_get (n := 19) (k := 12) (v := nI (q7 12)) dX2_closesBracket_16 rfl fX2_54 (hr.a (a := 118) rfl (by decide) rfl).1 (by decide) (hr.hi (by decide)) (pq_q _ _ _ _ _) ?_
    refine j_iconst (n := 20) (v := nI 1) dX2_closesBracket_19 rfl rfl ?_
    refine j_isubN (n := 21) (c := q7 12 - 1) dX2_closesBracket_20 rfl (by omega) (by omega) ?_
    refine jc_put (n := 24) (k := 12) (x := nI (q7 12 - 1)) (M2 := pq M (pu q7 12 (q7 12 - 1)) R7 o) dX2_closesBracket_21 rfl pX2_54 (fun h => by cases h) rfl rfl (hr.a (a := 118) rfl (by decide) rfl).1 (by decide) (hr.hi (by decide)) (pq_wq rfl) ?_
    refine j_aload_n (n := 25) dX2_closesBracket_24 rfl rfl ?_
    refine j_dup (n := 26) dX2_closesBracket_25 rfl rfl ?_
    refine jc_get (n := 29) (k := 11) (v := nI (q7 11)) dX2_closesBracket_26 rfl fX2_90 (hr.a (a := 118) rfl (by decide) rfl).1 (by decide) (hr.hi (by decide)) ((pq_q _ _ _ _ _).trans (congrArg nI (by repeat rw [pu_ne _ _ (by decide)]))) ?_
    refine j_iconst (n := 30) (v := nI 1) dX2_closesBracket_29 rfl rfl ?_
    refine j_isubN (n := 31) (c := q7 11 - 1) dX2_closesBracket_30 rfl (by omega) (by omega) ?_
    refine jc_put (n := 34) (k := 11) (x := nI (q7 11 - 1)) (M2 := pq M (pu (pu q7 12 (q7 12 - 1)) 11 (q7 11 - 1)) R7 o) dX2_closesBracket_31 rfl pX2_90 (fun h => by cases h) rfl rfl (hr.a (a := 118) rfl (by decide) rfl).1 (by decide) (hr.hi (by decide)) (pq_wq rfl) ?_
    refine j_aload_n (n := 35) dX2_closesBracket_34 rfl rfl ?_
    refine j_cVvr (n := 38) dX2_closesBracket_35 rfl sX2_131 (k_closeNots d G _ _ hr _ _ _ key (pu E 22 (E 22 - 1)) ((clD 1 O Rw).2) y (pst_t g75 (by rw [pu_ne _ _ (by decide), pu_ne _ _ (by decide)]) (by rw [pu_eq])) (by (repeat rw [pu_ne _ _ (by decide)]); exact k13) (by rw [pu_ne _ _ (by decide)]; omega) (by rw [pu_ne _ _ (by decide)]; exact hi.2.2.2.2.1) (fun x hx => sgA.s q5 x (by rw [hy]; exact List.mem_cons_of_mem _ hx)) (by omega)) (by omega) (by decide) rfl rfl (Nat.le_of_ble_eq_true rfl) (hr.a (a := 118) rfl (by decide) rfl).1 (by decide) (hr.hi (by decide)) (by decide) (by decide) (fun N8 Y8 hh8 => ?_)
    obtain ⟨e28, q8, R8, g81, g82, g83, e38⟩ := hh8
    rw [e28, e38]
    refine j_iconst (n := 39) (v := nI 1) dX2_closesBracket_38 rfl rfl ?_
    exact j_iret dX2_closesBracket_39 rfl rfl (Nat.le_refl _) (Nat.le_refl _) ⟨_, rfl, rfl, q8, R8, o, (prs_cl hp g81 g82 g83 (by rw [pu_ne _ _ (by decide), pu_ne _ _ (by decide), pu_ne _ _ (by decide)]; exact (g71 7 (by decide) (by decide)).trans hp.2.1) (by rw [pu_ne _ _ (by decide), pu_eq, pu_eq, k12]) (fun i hi => by rw [pu_ne _ _ (by omega), pu_ne _ _ (by omega)]; exact g71 i (by omega) (by omega))).1, rfl, (by rw [if_neg (by omega), hy]; exact ⟨rfl, (prs_cl hp g81 g82 g83 (by rw [pu_ne _ _ (by decide), pu_ne _ _ (by decide), pu_ne _ _ (by decide)]; exact (g71 7 (by decide) (by decide)).trans hp.2.1) (by rw [pu_ne _ _ (by decide), pu_eq, pu_eq, k12]) (fun i hi => by rw [pu_ne _ _ (by omega), pu_ne _ _ (by omega)]; exact g71 i (by omega) (by omega))).2⟩)⟩
  · refine j_iconst (n := 8) (v := nI 0) dX2_closesBracket_7 rfl rfl ?_
    exact j_iret dX2_closesBracket_8 rfl rfl (Nat.le_refl _) (Nat.le_refl _) ⟨_, rfl, rfl, q, R, o, (fun _ _ => rfl), rfl, (by rw [if_pos (by omega)]; rfl)⟩
theorem cs_num {key n : Nat} {E : Nat → Nat} {Rw : Sps} {O : List Nat} (h : E 19 = if 4 < n then 4 else 2) : cs key (true, E, Rw, O) = if 4 < n then none else some (clS O (pu E 26 (E 26 + 1)) (Rw ++ [(0, E 20)])) := by
  unfold cs
  dsimp only
  rw [if_pos rfl]
  by_cases e : 4 < n
  · rw [if_pos e] at h ⊢
    rw [if_neg (by omega), if_neg (by omega), if_neg (by omega), if_neg (by omega)]
  · rw [if_neg e] at h ⊢
    rw [if_pos h]
    rfl
theorem cs_nam {key n t : Nat} {E : Nat → Nat} {Rw : Sps} {O : List Nat} (h : E 19 = 1) (h2 : E 21 = if n = 1 then t else 0) (ht : ¬ t = 0) : cs key (true, E, Rw, O) = if n = 1 ∧ nmL key t = true then some (clS O (pu E 26 (E 26 + 1)) (Rw ++ [(1, E 21)])) else none := by
  unfold cs
  dsimp only
  rw [if_pos rfl, if_neg (by omega)]
  by_cases e : n = 1
  · rw [if_pos e] at h2
    by_cases e2 : nmL key t = true
    · rw [if_pos ⟨h, by omega, by rw [h2]; exact e2⟩, if_pos ⟨e, e2⟩]
      rfl
    · rw [if_neg (fun z => e2 (by rw [← h2]; exact z.2.2)), if_neg (by omega), if_neg (by omega), if_neg (fun z => e2 z.2)]
  · rw [if_neg e] at h2
    rw [if_neg (fun z => z.2.1 h2), if_neg (by omega), if_neg (by omega), if_neg (fun z => e z.1)]
theorem cs_opn {key t : Nat} {E : Nat → Nat} {Rw : Sps} {O : List Nat} (h : E 19 = 3) (h2 : E 21 = t) : cs key (true, E, Rw, O) = if t = 40 ∧ E 22 < 8 then some ((true, pu E 22 (E 22 + 1), Rw, 40 :: O) : CSt) else if t = 33 ∧ E 23 < 8 then some (true, pu E 23 (E 23 + 1), Rw, 33 :: O) else none := by
  unfold cs
  dsimp only
  rw [if_pos rfl, if_neg (by omega), if_neg (by omega), h2]
  refine ite_congr (propext (by omega)) (fun _ => rfl) (fun _ => ite_congr (propext (by omega)) (fun _ => rfl) (fun _ => rfl))
theorem stR_01 {key : Nat} {q : Nat → Nat} {R : Nat → Int32} {o : Nat → Nat} {ro : Option CSt} {r : Int32} (h : stR key q R o ro r) : r = nI 0 ∨ r = nI 1 := by
  cases ro with
  | none => exact .inl h
  | some s => exact .inr h.1
theorem stP_ret {G : zG} {mi : zM} {rm : Room} {pc : Nat} {lv : List (Option Value)} {key : Nat} {M : zMem} {X : zX} {q q2 : Nat → Nat} {R2 : Nat → Int32} {o2 : Nat → Nat} {ro : Option CSt} {r : Int32} (hd : decode (zc mi) pc = .ok (.ireturn, 1)) (hty : mi.2.2.2 = some .boolean) (h1 : ∀ i, i < 7 → q2 i = q i) (h2 : stR key q2 R2 o2 ro r) : zAt G mi rm (zQ G (zIr (stP key M X q ro)) 0 0) pc lv [.int r] (pq M q2 R2 o2) X (0, 0) :=
  j_iret hd hty (by rcases stR_01 h2 with e | e <;> (rw [e]; rfl)) (Nat.le_refl _) (Nat.le_refl _) ⟨r, rfl, rfl, q2, R2, o2, h1, rfl, h2⟩
theorem k_takesPiece (d : Nat) (G : zG) (M : zMem) (X : zX) (hr : kR X) (hb : xR X 118 0 = some 122) (T : Nat → Nat) (hT : tpC M T) (hT2 : ∀ i, T i ≤ 255) (q : Nat → Nat) (R : Nat → Int32) (o : Nat → Nat) (key : Nat) (E : Nat → Nat) (Rw : Sps) (O : List Nat) (hp : prs key q R o (true, E, Rw, O)) (hi : pI (true, E, Rw, O)) (ht : tokQ T q E) (hL : q 1 ≤ 96) (hl : O.length + Rw.length < 96) (hf : zFm G) (h5 : q 5 = 0) (h40 : ¬ q 4 = 0) (h6 : q 6 = key) (hk : key ≤ 2) : zCall G miX2_takesPiece (d + 5) [.ref 118] (zIr (stP key M X q (cs key (true, E, Rw, O)))) (pq M q R o) X 0 0 := by
  refine zCall.of (lv := [some (.ref 118)]) (by decide) (Nat.le_of_ble_eq_true rfl) rfl ?_
  have ht0 := ht
  obtain ⟨⟨t1, t2, t3, t4, t5, t6, t7⟩, u0, u1, u2, u3, u4⟩ := ht
  have v1 := u1 h40
  refine j_aload_n (n := 1) dX2_takesPiece_0 rfl rfl ?_
  refine jc_get (n := 4) (k := 4) (v := nI (q 4)) dX2_takesPiece_1 rfl fX2_40 (hr.a (a := 118) rfl (by decide) rfl).1 (by decide) (hr.hi (by decide)) (pq_q _ _ _ _ _) ?_
  have hs101 : (q 4) = 1 ∨ (q 4) = 2 ∨ (¬ q 4 = 1 ∧ ¬ q 4 = 2) := by omega
  rcases hs101 with hs101 | hs101 | hs101
  · refine j_lookup (off := 33) (tg := 37) dX2_takesPiece_4 (by decide) (by show Op.lookupswitch.offset ([(1, 33), (2, 28)] : List (Int × Int)) 38 _ = _; rw [i_N (by omega)]; (repeat (first | (rw [Op.lookupswitch.offset_cons, if_pos (by omega)]; done) | rw [Op.lookupswitch.offset_cons, if_neg (by omega)])); all_goals rfl) rfl ?_
    refine j_aload_n (n := 38) dX2_takesPiece_37 rfl rfl ?_
    refine j_cVr (n := 41) dX2_takesPiece_38 rfl sX2_121 (k_takesName d G _ _ hr hb T hT hT2 _ _ _ key E Rw O hp hi ht0 hL hl hf (by omega) h6 hk) (by omega) (by decide) rfl rfl (Nat.le_of_ble_eq_true rfl) (hr.a (a := 118) rfl (by decide) rfl).1 (by decide) (hr.hi (by decide)) (by decide) (by decide) (fun r9 N9 Y9 hh9 => ?_)
    obtain ⟨e29, q9, R9, o9, g91, e39, g92⟩ := hh9
    rw [e29, e39]
    obtain ⟨w1, w2, w3, w4, w5⟩ := u2 (by omega)
    have ecs := cs_nam (key := key) (E := E) (Rw := Rw) (O := O) (n := q 3 - q 2) (t := T (q 2)) (by rw [w1, h5]; rfl) w2 (by omega)
    rw [← ecs] at g92
    exact stP_ret dX2_takesPiece_41 rfl g91 g92
  · refine j_lookup (off := 28) (tg := 32) dX2_takesPiece_4 (by decide) (by show Op.lookupswitch.offset ([(1, 33), (2, 28)] : List (Int × Int)) 38 _ = _; rw [i_N (by omega)]; (repeat (first | (rw [Op.lookupswitch.offset_cons, if_pos (by omega)]; done) | rw [Op.lookupswitch.offset_cons, if_neg (by omega)])); all_goals rfl) rfl ?_
    refine j_aload_n (n := 33) dX2_takesPiece_32 rfl rfl ?_
    refine j_cVr (n := 36) dX2_takesPiece_33 rfl sX2_118 (k_takesNumber (d + 2) G _ _ hr hb T hT hT2 _ _ _ key E Rw O hp hi ht0 hL hl (by omega)) (by omega) (by decide) rfl rfl (Nat.le_of_ble_eq_true rfl) (hr.a (a := 118) rfl (by decide) rfl).1 (by decide) (hr.hi (by decide)) (by decide) (by decide) (fun r9 N9 Y9 hh9 => ?_)
    obtain ⟨e29, q9, R9, o9, g91, e39, g92⟩ := hh9
    rw [e29, e39]
    obtain ⟨w1, w2, w3⟩ := u3 (by omega)
    have ecs := cs_num (key := key) (E := E) (Rw := Rw) (O := O) (n := q 3 - q 2) (by rw [w1, h5]; exact ite_congr (propext (by omega)) (fun _ => rfl) (fun _ => rfl))
    rw [← ecs] at g92
    exact stP_ret dX2_takesPiece_36 rfl g91 g92
  · refine j_lookup (off := 38) (tg := 42) dX2_takesPiece_4 (by decide) (by show Op.lookupswitch.offset ([(1, 33), (2, 28)] : List (Int × Int)) 38 _ = _; rw [i_N (by omega)]; (repeat (first | (rw [Op.lookupswitch.offset_cons, if_pos (by omega)]; done) | rw [Op.lookupswitch.offset_cons, if_neg (by omega)])); all_goals rfl) rfl ?_
    refine j_aload_n (n := 43) dX2_takesPiece_42 rfl rfl ?_
    refine j_aload_n (n := 44) dX2_takesPiece_43 rfl rfl ?_
    refine j_getr (n := 47) (k := 0) (b := 122) dX2_takesPiece_44 rfl fX2_9 (hr.a (a := 118) rfl (by decide) rfl).1 (by decide) (hr.hi (by decide)) hb ?_
    refine j_aload_n (n := 48) dX2_takesPiece_47 rfl rfl ?_
    refine jc_get (n := 51) (k := 2) (v := nI (q 2)) dX2_takesPiece_48 rfl fX2_37 (hr.a (a := 118) rfl (by decide) rfl).1 (by decide) (hr.hi (by decide)) (pq_q _ _ _ _ _) ?_
    refine j_baldN (n := 52) (L := 96) (a := 122) (i := q 2) (v := sb (T (q 2))) dX2_takesPiece_51 rfl (hr.a (a := 122) rfl (by decide) rfl).1 (hr.a (a := 122) rfl (by decide) rfl).2 (by omega) (by decide) (by decide) (hr.hi (by decide)) ((congrFun (pq_n _ _ _ _ (by decide) (by decide) (by decide)) _).trans (hT _ (by omega))) ?_
    refine j_cVr (n := 55) dX2_takesPiece_52 rfl sX2_124 (k_opens (d + 3) G _ _ hr hb T hT hT2 _ _ _ key E Rw O hp hi ht0 hL hl ) (by omega) (by decide) rfl rfl (Nat.le_of_ble_eq_true rfl) (hr.a (a := 118) rfl (by decide) rfl).1 (by decide) (hr.hi (by decide)) (by decide) (by decide) (fun r9 N9 Y9 hh9 => ?_)
    obtain ⟨e29, q9, R9, o9, g91, e39, g92⟩ := hh9
    rw [e29, e39]
    obtain ⟨w1, w2, w3, w4⟩ := u4 (by omega)
    have ecs := cs_opn (key := key) (E := E) (Rw := Rw) (O := O) (t := T (q 2)) w1 w2
    rw [← ecs] at g92
    exact stP_ret dX2_takesPiece_55 rfl g91 g92
