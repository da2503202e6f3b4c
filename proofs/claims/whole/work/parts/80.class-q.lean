-- CLASS Q: by program (wip/whole/gen/c17.py)
theorem neg_33 : -(nI 33) = (-33 : Int32) := by decide
theorem encS_33 (key : Nat) : encS key 2 33 = (-33 : Int32) := neg_33
theorem encS_2 (key x : Nat) : encS key 2 x = -(nI x) := rfl
theorem pst_w {key : Nat} {q q2 : Nat → Nat} {R : Nat → Int32} {o : Nat → Nat} {Rw : Sps} {O : List Nat} {w v : Nat} {x : Int32} (h : pst key q R o Rw O) (h9 : q2 9 = q 9 + 1) (h11 : q2 11 = q 11) (hx : encS key w v = x) (k : Nat) (hk : k = q 9) : pst key q2 (upd R k x) o (Rw ++ [(w, v)]) O :=
  ⟨by rw [h9, h.1, List.length_append, List.length_singleton], h11.trans h.2.1, by rw [hk, h.1, ← hx]; exact lay_app h.2.2.1 w v, h.2.2.2⟩
theorem pst_t {key : Nat} {q q2 : Nat → Nat} {R : Nat → Int32} {o : Nat → Nat} {Rw : Sps} {x : Nat} {O : List Nat} (h : pst key q R o Rw (x :: O)) (h9 : q2 9 = q 9) (h11 : q2 11 = q 11 - 1) : pst key q2 R o Rw O :=
  ⟨h9.trans h.1, by rw [h11, h.2.1, List.length_cons]; omega, h.2.2.1, h.2.2.2.2⟩
theorem pst_c {key : Nat} {q q2 : Nat → Nat} {R : Nat → Int32} {o : Nat → Nat} {Rw : Sps} {O : List Nat} (h : pst key q R o Rw O) (h9 : q2 9 = q 9) (h11 : q2 11 = q 11) : pst key q2 R o Rw O := ⟨h9.trans h.1, h11.trans h.2.1, h.2.2⟩
theorem pst_p {key : Nat} {q q2 : Nat → Nat} {R : Nat → Int32} {o : Nat → Nat} {Rw : Sps} {O : List Nat} {v k : Nat} (h : pst key q R o Rw O) (h9 : q2 9 = q 9) (h11 : q2 11 = q 11 + 1) (hk : k = q 11) : pst key q2 R (pu o k v) Rw (v :: O) :=
  ⟨h9.trans h.1, by rw [h11, h.2.1, List.length_cons], h.2.2.1, by rw [hk, h.2.1]; exact ⟨pu_eq _ _ _, opn_up (Nat.le_refl _) h.2.2.2⟩⟩
theorem k_closeDownTo (d : Nat) (G : zG) (M : zMem) (X : zX) (hr : kR X) (q : Nat → Nat) (R : Nat → Int32) (o : Nat → Nat) (key lv : Nat) (hlv : lv ≤ 5) (Rw : Sps) (O : List Nat) (hp : pst key q R o Rw O) (hs : sgs O) (hl : O.length + Rw.length ≤ 96) : zCall G miX2_closeDownTo (d + 1) [.ref 118, .int (nI lv)] (zVr (fun M1 X1 => X1 = X ∧ ∃ q2 R2, (∀ i, i ≠ 9 → i ≠ 11 → q2 i = q i) ∧ pst key q2 R2 o (clD lv O Rw).2 (clD lv O Rw).1 ∧ M1 = pq M q2 R2 o)) (pq M q R o) X 0 0 := by
  refine zCall.of (lv := [some (.ref 118), some (.int (nI lv))]) (by decide) (Nat.le_of_ble_eq_true rfl) rfl ?_
  have loop : ∀ (O1 : List Nat) (Rw1 : Sps) (q1 : Nat → Nat) (R1 : Nat → Int32), pst key q1 R1 o Rw1 O1 → sgs O1 → O1.length + Rw1.length ≤ 96 → (∀ i, i ≠ 9 → i ≠ 11 → q1 i = q i) → clD lv O1 Rw1 = clD lv O Rw → zAt G miX2_closeDownTo (zRm (d + 1) 0 0) (zQ G (zVr (fun M1 X1 => X1 = X ∧ ∃ q2 R2, (∀ i, i ≠ 9 → i ≠ 11 → q2 i = q i) ∧ pst key q2 R2 o (clD lv O Rw).2 (clD lv O Rw).1 ∧ M1 = pq M q2 R2 o)) 0 0) 0 [some (.ref 118), some (.int (nI lv))] [] (pq M q1 R1 o) X (0, 0) := by
    intro O1
    induction O1 with
    | nil =>
      intro Rw1 q1 R1 hp1 hs1 hl1 hq1 hc1
      have h11 : q1 11 = 0 := hp1.2.1
      refine j_aload_n (n := 1) dX2_closeDownTo_0 rfl rfl ?_
      refine jc_get (n := 4) (k := 11) (v := nI (q1 11)) dX2_closeDownTo_1 rfl fX2_90 (hr.a (a := 118) rfl (by decide) rfl).1 (by decide) (hr.hi (by decide)) (pq_q _ _ _ _ _) ?_
      refine j_if_leM (n := 7) (tg := 52) dX2_closeDownTo_4 rfl rfl (by omega) (fun h101 => ?_) (fun h101 => ?_)
      · exact j_vret dX2_closeDownTo_52 rfl (Nat.le_refl _) (Nat.le_refl _) ⟨rfl, rfl, q1, R1, hq1, by rw [← hc1]; exact hp1, rfl⟩
      · exfalso; omega
    | cons x O1 ih =>
      intro Rw1 q1 R1 hp1 hs1 hl1 hq1 hc1
      have h11 : q1 11 = O1.length + 1 := hp1.2.1
      have h9 : q1 9 = Rw1.length := hp1.1
      have hx : o (q1 11 - 1) = x := by rw [h11, Nat.add_sub_cancel]; exact hp1.2.2.2.1
      have hx5 := hs1 x List.mem_cons_self
      have hlx := levN_le x
      rw [List.length_cons] at hl1
      refine j_aload_n (n := 1) dX2_closeDownTo_0 rfl rfl ?_
      refine jc_get (n := 4) (k := 11) (v := nI (q1 11)) dX2_closeDownTo_1 rfl fX2_90 (hr.a (a := 118) rfl (by decide) rfl).1 (by decide) (hr.hi (by decide)) (pq_q _ _ _ _ _) ?_
      refine j_if_leM (n := 7) (tg := 52) dX2_closeDownTo_4 rfl rfl (by omega) (fun h102 => ?_) (fun h102 => ?_)
      · exfalso; omega
      · refine j_aload_n (n := 8) dX2_closeDownTo_7 rfl rfl ?_
        refine j_getr (n := 11) (k := 10) (b := 121) dX2_closeDownTo_8 rfl fX2_19 (hr.a (a := 118) rfl (by decide) rfl).1 (by decide) (hr.hi (by decide)) hr.p10 ?_
        refine j_aload_n (n := 12) dX2_closeDownTo_11 rfl rfl ?_
        refine jc_get (n := 15) (k := 11) (v := nI (q1 11)) dX2_closeDownTo_12 rfl fX2_90 (hr.a (a := 118) rfl (by decide) rfl).1 (by decide) (hr.hi (by decide)) (pq_q _ _ _ _ _) ?_
        refine j_iconst (n := 16) (v := nI 1) dX2_closeDownTo_15 rfl rfl ?_
        refine j_isubN (n := 17) (c := q1 11 - 1) dX2_closeDownTo_16 rfl (by omega) (by omega) ?_
        refine j_ialdN (n := 18) (L := 96) (a := 121) (i := q1 11 - 1) (v := nI (o (q1 11 - 1))) dX2_closeDownTo_17 rfl (hr.a (a := 121) rfl (by decide) rfl).1 (hr.a (a := 121) rfl (by decide) rfl).2 (by omega) (by decide) (by decide) (hr.hi (by decide)) (pq_o _ _ _ _ _) ?_
        refine j_cS (n := 21) dX2_closeDownTo_18 rfl sX2_149 (k_levelOf d G _ _ _ (by rw [hx]; omega)) (by omega) (by decide) rfl rfl (Nat.le_of_ble_eq_true rfl) (by decide) (by decide) ?_
        refine j_top (y := nI (levN x)) (by rw [hx]) ?_
        refine j_iload_n (n := 22) dX2_closeDownTo_21 rfl rfl ?_
        refine j_icmp_ltT (n := 25) (tg := 52) dX2_closeDownTo_22 rfl rfl (i_N (by omega)) (i_N (by omega)) (fun h103 => ?_) (fun h103 => ?_)
        · exact j_vret dX2_closeDownTo_52 rfl (Nat.le_refl _) (Nat.le_refl _) ⟨rfl, rfl, q1, R1, hq1, by rw [← hc1, clD, if_neg (by omega)]; exact hp1, rfl⟩
        · refine j_aload_n (n := 26) dX2_closeDownTo_25 rfl rfl ?_
          refine j_dup (n := 27) dX2_closeDownTo_26 rfl rfl ?_
          refine jc_get (n := 30) (k := 11) (v := nI (q1 11)) dX2_closeDownTo_27 rfl fX2_90 (hr.a (a := 118) rfl (by decide) rfl).1 (by decide) (hr.hi (by decide)) (pq_q _ _ _ _ _) ?_
          refine j_iconst (n := 31) (v := nI 1) dX2_closeDownTo_30 rfl rfl ?_
          refine j_isubN (n := 32) (c := q1 11 - 1) dX2_closeDownTo_31 rfl (by omega) (by omega) ?_
          refine jc_put (n := 35) (k := 11) (x := nI (q1 11 - 1)) (M2 := pq M (pu q1 11 (q1 11 - 1)) R1 o) dX2_closeDownTo_32 rfl pX2_90 (fun h => by cases h) rfl rfl (hr.a (a := 118) rfl (by decide) rfl).1 (by decide) (hr.hi (by decide)) (pq_wq rfl) ?_
          refine j_aload_n (n := 36) dX2_closeDownTo_35 rfl rfl ?_
          refine j_aload_n (n := 37) dX2_closeDownTo_36 rfl rfl ?_
          refine j_getr (n := 40) (k := 10) (b := 121) dX2_closeDownTo_37 rfl fX2_19 (hr.a (a := 118) rfl (by decide) rfl).1 (by decide) (hr.hi (by decide)) hr.p10 ?_
          refine j_aload_n (n := 41) dX2_closeDownTo_40 rfl rfl ?_
          refine jc_get (n := 44) (k := 11) (v := nI (q1 11 - 1)) dX2_closeDownTo_41 rfl fX2_90 (hr.a (a := 118) rfl (by decide) rfl).1 (by decide) (hr.hi (by decide)) ((pq_q _ _ _ _ _).trans (congrArg nI (by repeat (first | rw [pu_eq] | rw [pu_ne _ _ (by decide)])))) ?_
          refine j_ialdN (n := 45) (L := 96) (a := 121) (i := q1 11 - 1) (v := nI (o (q1 11 - 1))) dX2_closeDownTo_44 rfl (hr.a (a := 121) rfl (by decide) rfl).1 (hr.a (a := 121) rfl (by decide) rfl).2 (by omega) (by decide) (by decide) (hr.hi (by decide)) (pq_o _ _ _ _ _) ?_
          refine j_ineg (n := 46) dX2_closeDownTo_45 rfl ?_
          refine j_cVv (n := 49) dX2_closeDownTo_46 rfl sX2_128 (k_write d G _ _ hr _ _ _ (by (repeat (first | rw [pu_eq] | rw [pu_ne _ _ (by decide)])); omega) _) (by omega) (by decide) rfl rfl (Nat.le_of_ble_eq_true rfl) (hr.a (a := 118) rfl (by decide) rfl).1 (by decide) (hr.hi (by decide)) (by decide) (by decide) ?_
          refine j_goto (n := 0) dX2_closeDownTo_49 rfl ?_
          refine ih (Rw1 ++ [(2, x)]) _ _ (pst_w (q := pu q1 11 (q1 11 - 1)) (pst_t hp1 ?a ?b) ?c ?d (by rw [encS_2, hx]) _ ?e) (fun y hy => hs1 y (List.mem_cons_of_mem _ hy)) (by rw [List.length_append, List.length_singleton]; omega) ?f (by rw [← hc1]; conv => rhs; rw [clD, if_pos (by omega)])
          case a => exact pu_ne _ _ (by decide)
          case b => exact pu_eq _ _ _
          case c => exact pu_eq _ _ _
          case d => exact pu_ne _ _ (by decide)
          case e => rfl
          case f => intro i h1 h2; rw [pu_ne _ _ h1, pu_ne _ _ h2]; exact hq1 i h1 h2
  exact loop O Rw q R hp hs hl (fun _ _ _ => rfl) rfl
theorem k_closeNots (d : Nat) (G : zG) (M : zMem) (X : zX) (hr : kR X) (q : Nat → Nat) (R : Nat → Int32) (o : Nat → Nat) (key : Nat) (E : Nat → Nat) (Rw : Sps) (O : List Nat) (hp : pst key q R o Rw O) (h13 : q 13 = E 23) (hc : cnL 33 O = E 23) (h8 : E 23 ≤ 8) (hs : sgs O) (hl : O.length + Rw.length ≤ 96) : zCall G miX2_closeNots (d + 1) [.ref 118] (zVr (fun M1 X1 => X1 = X ∧ ∃ q2 R2, (∀ i, i ≠ 9 → i ≠ 11 → i ≠ 13 → q2 i = q i) ∧ q2 13 = (clN O E Rw).1 23 ∧ pst key q2 R2 o (clN O E Rw).2.1 (clN O E Rw).2.2 ∧ M1 = pq M q2 R2 o)) (pq M q R o) X 0 0 := by
  refine zCall.of (lv := [some (.ref 118)]) (by decide) (Nat.le_of_ble_eq_true rfl) rfl ?_
  have loop : ∀ (O1 : List Nat) (E1 : Nat → Nat) (Rw1 : Sps) (q1 : Nat → Nat) (R1 : Nat → Int32), pst key q1 R1 o Rw1 O1 → sgs O1 → O1.length + Rw1.length ≤ 96 → q1 13 = E1 23 → cnL 33 O1 = E1 23 → E1 23 ≤ 8 → (∀ i, i ≠ 9 → i ≠ 11 → i ≠ 13 → q1 i = q i) → clN O1 E1 Rw1 = clN O E Rw → zAt G miX2_closeNots (zRm (d + 1) 0 0) (zQ G (zVr (fun M1 X1 => X1 = X ∧ ∃ q2 R2, (∀ i, i ≠ 9 → i ≠ 11 → i ≠ 13 → q2 i = q i) ∧ q2 13 = (clN O E Rw).1 23 ∧ pst key q2 R2 o (clN O E Rw).2.1 (clN O E Rw).2.2 ∧ M1 = pq M q2 R2 o)) 0 0) 0 [some (.ref 118)] [] (pq M q1 R1 o) X (0, 0) := by
    intro O1
    induction O1 with
    | nil =>
      intro E1 Rw1 q1 R1 hp1 hs1 hl1 g13 gc g8 hq1 hc1
      have h11 : q1 11 = 0 := hp1.2.1
      refine j_aload_n (n := 1) dX2_closeNots_0 rfl rfl ?_
      refine jc_get (n := 4) (k := 11) (v := nI (q1 11)) dX2_closeNots_1 rfl fX2_90 (hr.a (a := 118) rfl (by decide) rfl).1 (by decide) (hr.hi (by decide)) (pq_q _ _ _ _ _) ?_
      refine j_if_leM (n := 7) (tg := 52) dX2_closeNots_4 rfl rfl (by omega) (fun h101 => ?_) (fun h101 => ?_)
      · exact j_vret dX2_closeNots_52 rfl (Nat.le_refl _) (Nat.le_refl _) ⟨rfl, rfl, q1, R1, hq1, by rw [← hc1]; exact g13, by rw [← hc1]; exact hp1, rfl⟩
      · exfalso; omega
    | cons x O1 ih =>
      intro E1 Rw1 q1 R1 hp1 hs1 hl1 g13 gc g8 hq1 hc1
      have h11 : q1 11 = O1.length + 1 := hp1.2.1
      have h9 : q1 9 = Rw1.length := hp1.1
      have hx : o (q1 11 - 1) = x := by rw [h11, Nat.add_sub_cancel]; exact hp1.2.2.2.1
      have hx5 := hs1 x List.mem_cons_self
      rw [List.length_cons] at hl1
      refine j_aload_n (n := 1) dX2_closeNots_0 rfl rfl ?_
      refine jc_get (n := 4) (k := 11) (v := nI (q1 11)) dX2_closeNots_1 rfl fX2_90 (hr.a (a := 118) rfl (by decide) rfl).1 (by decide) (hr.hi (by decide)) (pq_q _ _ _ _ _) ?_
      refine j_if_leM (n := 7) (tg := 52) dX2_closeNots_4 rfl rfl (by omega) (fun h102 => ?_) (fun h102 => ?_)
      · exfalso; omega
      · refine j_aload_n (n := 8) dX2_closeNots_7 rfl rfl ?_
        refine j_getr (n := 11) (k := 10) (b := 121) dX2_closeNots_8 rfl fX2_19 (hr.a (a := 118) rfl (by decide) rfl).1 (by decide) (hr.hi (by decide)) hr.p10 ?_
        refine j_aload_n (n := 12) dX2_closeNots_11 rfl rfl ?_
        refine jc_get (n := 15) (k := 11) (v := nI (q1 11)) dX2_closeNots_12 rfl fX2_90 (hr.a (a := 118) rfl (by decide) rfl).1 (by decide) (hr.hi (by decide)) (pq_q _ _ _ _ _) ?_
        refine j_iconst (n := 16) (v := nI 1) dX2_closeNots_15 rfl rfl ?_
        refine j_isubN (n := 17) (c := q1 11 - 1) dX2_closeNots_16 rfl (by omega) (by omega) ?_
        refine j_ialdN (n := 18) (L := 96) (a := 121) (i := q1 11 - 1) (v := nI (o (q1 11 - 1))) dX2_closeNots_17 rfl (hr.a (a := 121) rfl (by decide) rfl).1 (hr.a (a := 121) rfl (by decide) rfl).2 (by omega) (by decide) (by decide) (hr.hi (by decide)) (pq_o _ _ _ _ _) ?_
        refine j_bipush (n := 20) (v := nI 33) dX2_closeNots_18 rfl (by decide) ?_
        refine j_icmp_neT (n := 23) (tg := 52) dX2_closeNots_20 rfl rfl (i_N (by omega)) (i_N (by omega)) (fun h103 => ?_) (fun h103 => ?_)
        · exact j_vret dX2_closeNots_52 rfl (Nat.le_refl _) (Nat.le_refl _) ⟨rfl, rfl, q1, R1, hq1, by rw [← hc1, clN, if_neg (by omega)]; exact g13, by rw [← hc1, clN, if_neg (by omega)]; exact hp1, rfl⟩
        · have e33 : x = 33 := by omega
          rw [cnL, if_pos e33] at gc
          refine j_aload_n (n := 24) dX2_closeNots_23 rfl rfl ?_
          refine j_dup (n := 25) dX2_closeNots_24 rfl rfl ?_
          refine jc_get (n := 28) (k := 11) (v := nI (q1 11)) dX2_closeNots_25 rfl fX2_90 (hr.a (a := 118) rfl (by decide) rfl).1 (by decide) (hr.hi (by decide)) (pq_q _ _ _ _ _) ?_
          refine j_iconst (n := 29) (v := nI 1) dX2_closeNots_28 rfl rfl ?_
          refine j_isubN (n := 30) (c := q1 11 - 1) dX2_closeNots_29 rfl (by omega) (by omega) ?_
          refine jc_put (n := 33) (k := 11) (x := nI (q1 11 - 1)) (M2 := pq M (pu q1 11 (q1 11 - 1)) R1 o) dX2_closeNots_30 rfl pX2_90 (fun h => by cases h) rfl rfl (hr.a (a := 118) rfl (by decide) rfl).1 (by decide) (hr.hi (by decide)) (pq_wq rfl) ?_
          refine j_aload_n (n := 34) dX2_closeNots_33 rfl rfl ?_
          refine j_dup (n := 35) dX2_closeNots_34 rfl rfl ?_
          refine jc_get (n := 38) (k := 13) (v := nI (q1 13)) dX2_closeNots_35 rfl fX2_93 (hr.a (a := 118) rfl (by decide) rfl).1 (by decide) (hr.hi (by decide)) ((pq_q _ _ _ _ _).trans (congrArg nI (by repeat rw [pu_ne _ _ (by decide)]))) ?_
          refine j_iconst (n := 39) (v := nI 1) dX2_closeNots_38 rfl rfl ?_
          refine j_isubN (n := 40) (c := q1 13 - 1) dX2_closeNots_39 rfl (by omega) (by omega) ?_
          refine jc_put (n := 43) (k := 13) (x := nI (q1 13 - 1)) (M2 := pq M (pu (pu q1 11 (q1 11 - 1)) 13 (q1 13 - 1)) R1 o) dX2_closeNots_40 rfl pX2_93 (fun h => by cases h) rfl rfl (hr.a (a := 118) rfl (by decide) rfl).1 (by decide) (hr.hi (by decide)) (pq_wq rfl) ?_
          refine j_aload_n (n := 44) dX2_closeNots_43 rfl rfl ?_
          refine j_bipush (n := 46) (v := (-33)) dX2_closeNots_44 rfl (by decide) ?_
          refine j_cVv (n := 49) dX2_closeNots_46 rfl sX2_128 (k_write d G _ _ hr _ _ _ (by (repeat (first | rw [pu_eq] | rw [pu_ne _ _ (by decide)])); omega) _) (by omega) (by decide) rfl rfl (Nat.le_of_ble_eq_true rfl) (hr.a (a := 118) rfl (by decide) rfl).1 (by decide) (hr.hi (by decide)) (by decide) (by decide) ?_
          refine j_goto (n := 0) dX2_closeNots_49 rfl ?_
          refine ih (pu E1 23 (E1 23 - 1)) (Rw1 ++ [(2, 33)]) _ _ (pst_w (q := pu (pu q1 11 (q1 11 - 1)) 13 (q1 13 - 1)) (pst_t hp1 ?a ?b) ?c ?d (encS_33 key) _ ?e) (fun y hy => hs1 y (List.mem_cons_of_mem _ hy)) (by rw [List.length_append, List.length_singleton]; omega) ?g ?h ?i ?f (by rw [← hc1]; conv => rhs; rw [clN, if_pos e33])
          case a => rw [pu_ne _ _ (by decide), pu_ne _ _ (by decide)]
          case b => rw [pu_ne _ _ (by decide)]; exact pu_eq _ _ _
          case c => exact pu_eq _ _ _
          case d => exact pu_ne _ _ (by decide)
          case e => rfl
          case g => rw [pu_ne _ _ (by decide), pu_eq, pu_eq, g13]
          case h => rw [pu_eq]; omega
          case i => rw [pu_eq]; omega
          case f => intro i h1 h2 h3; rw [pu_ne _ _ h1, pu_ne _ _ h3, pu_ne _ _ h2]; exact hq1 i h1 h2 h3
  exact loop O E Rw q R hp hs hl h13 hc h8 (fun _ _ _ _ => rfl) rfl
