-- CLASS R: by program (wip/whole/gen/c18.py)
def prs (key : Nat) (q : Nat → Nat) (R : Nat → Int32) (o : Nat → Nat) (s : CSt) : Prop := pst key q R o s.2.2.1 s.2.2.2 ∧ q 7 = s.2.1 26 ∧ q 12 = s.2.1 22 ∧ q 13 = s.2.1 23
def stR (key : Nat) (q : Nat → Nat) (R : Nat → Int32) (o : Nat → Nat) (ro : Option CSt) (r : Int32) : Prop := match ro with
  | none => r = nI 0
  | some s1 => r = nI 1 ∧ prs key q R o s1
/-- a token is taken, or not -/
def stP (key : Nat) (M : zMem) (X : zX) (q : Nat → Nat) (ro : Option CSt) (r : Int32) (M1 : zMem) (X1 : zX) : Prop := X1 = X ∧ ∃ q2 R2 o2, (∀ i, i < 7 → q2 i = q i) ∧ M1 = pq M q2 R2 o2 ∧ stR key q2 R2 o2 ro r
def clS (O : List Nat) (E : Nat → Nat) (Rw : Sps) : CSt := (false, (clN O E Rw).1, (clN O E Rw).2.1, (clN O E Rw).2.2)
theorem num_s {T : Nat → Nat} {b x : Nat} (h1 : b ≤ x) (h2 : x - b < 4) : numT T b (x + 1 - b) = 10 * numT T b (x - b) + T x - 48 := by
  rw [show x + 1 - b = (x - b) + 1 by omega, numT, if_pos h2, show b + (x - b) = x by omega]
theorem prs_cl {key : Nat} {q q1 q2 : Nat → Nat} {R R2 : Nat → Int32} {o : Nat → Nat} {w : Bool} {E E1 : Nat → Nat} {Rw Rw1 : Sps} {O O1 : List Nat} (hp : prs key q R o (w, E, Rw, O)) (g1 : ∀ i, i ≠ 9 → i ≠ 11 → i ≠ 13 → q2 i = q1 i) (g2 : q2 13 = (clN O1 E1 Rw1).1 23) (g3 : pst key q2 R2 o (clN O1 E1 Rw1).2.1 (clN O1 E1 Rw1).2.2) (a7 : q1 7 = E1 26) (a12 : q1 12 = E1 22) (a : ∀ i, i < 7 → q1 i = q i) : (∀ i, i < 7 → q2 i = q i) ∧ prs key q2 R2 o (clS O1 E1 Rw1) :=
  ⟨fun i hi => (g1 i (by omega) (by omega) (by omega)).trans (a i hi), g3, (g1 7 (by decide) (by decide) (by decide)).trans (a7.trans (clN_i O1 E1 Rw1 26 (by decide)).symm), (g1 12 (by decide) (by decide) (by decide)).trans (a12.trans (clN_i O1 E1 Rw1 22 (by decide)).symm), g2⟩
theorem levN_128 {t : Nat} (h : 128 ≤ t) : levN t = 0 := by
  unfold levN
  rw [if_neg (by omega), if_neg (by omega), if_neg (by omega), if_neg (by omega), if_neg (by omega)]
theorem k_takesNumber (d : Nat) (G : zG) (M : zMem) (X : zX) (hr : kR X) (hb : xR X 118 0 = some 122) (T : Nat → Nat) (hT : tpC M T) (hT2 : ∀ i, T i ≤ 255) (q : Nat → Nat) (R : Nat → Int32) (o : Nat → Nat) (key : Nat) (E : Nat → Nat) (Rw : Sps) (O : List Nat) (hp : prs key q R o (true, E, Rw, O)) (hi : pI (true, E, Rw, O)) (ht : tokQ T q E) (hL : q 1 ≤ 96) (hl : O.length + Rw.length < 96) (h4 : q 4 = 2) : zCall G miX2_takesNumber (d + 2) [.ref 118] (zIr (stP key M X q (if 4 < q 3 - q 2 then none else some (clS O (pu E 26 (E 26 + 1)) (Rw ++ [(0, E 20)]))))) (pq M q R o) X 0 0 := by
  refine zCall.of (lv := [some (.ref 118), none, none]) (by decide) (Nat.le_of_ble_eq_true rfl) rfl ?_
  obtain ⟨⟨t1, t2, t3, t4, t5, t6, t7⟩, u0, u1, u2, u3, u4⟩ := ht
  have v1 := u1 (by omega)
  obtain ⟨w1, w2, w3⟩ := u3 h4
  have hp9 : q 9 = Rw.length := hp.1.1
  have e22 : 4 ≥ q 3 - q 2 → ∀ (j x : Nat), q 3 - x = j → q 2 ≤ x → x ≤ q 3 → zAt G miX2_takesNumber (zRm (d + 2) 0 0) (zQ G (zIr (stP key M X q (if 4 < q 3 - q 2 then none else some (clS O (pu E 26 (E 26 + 1)) (Rw ++ [(0, E 20)]))))) 0 0) 22 [some (.ref 118), some (.int (nI (numT T (q 2) (x - q 2)))), some (.int (nI x))] [] (pq M q R o) X (0, 0) := by
    intro h40 j
    induction j using Nat.strongRecOn with
    | ind j ih =>
      intro x hj hx1 hx2
      refine j_iload_n (n := 23) dX2_takesNumber_22 rfl rfl ?_
      refine j_aload_n (n := 24) dX2_takesNumber_23 rfl rfl ?_
      refine jc_get (n := 27) (k := 3) (v := nI (q 3)) dX2_takesNumber_24 rfl fX2_87 (hr.a (a := 118) rfl (by decide) rfl).1 (by decide) (hr.hi (by decide)) (pq_q _ _ _ _ _) ?_
      refine j_icmp_geT (n := 30) (tg := 51) dX2_takesNumber_27 rfl rfl (i_N (by omega)) (i_N (by omega)) (fun h101 => ?_) (fun h101 => ?_)
      · have ex : x = q 3 := by omega
        rw [ex]
        refine j_aload_n (n := 52) dX2_takesNumber_51 rfl rfl ?_
        refine j_dup (n := 53) dX2_takesNumber_52 rfl rfl ?_
        refine jc_get (n := 56) (k := 7) (v := nI (q 7)) dX2_takesNumber_53 rfl fX2_66 (hr.a (a := 118) rfl (by decide) rfl).1 (by decide) (hr.hi (by decide)) (pq_q _ _ _ _ _) ?_
        refine j_iconst (n := 57) (v := nI 1) dX2_takesNumber_56 rfl rfl ?_
        refine j_iaddN (n := 58) (c := q 7 + 1) dX2_takesNumber_57 rfl rfl ?_
        refine jc_put (n := 61) (k := 7) (x := nI (q 7 + 1)) (M2 := pq M (pu q 7 (q 7 + 1)) R o) dX2_takesNumber_58 rfl pX2_66 (fun h => by cases h) rfl rfl (hr.a (a := 118) rfl (by decide) rfl).1 (by decide) (hr.hi (by decide)) (pq_wq rfl) ?_
        refine j_aload_n (n := 62) dX2_takesNumber_61 rfl rfl ?_
        refine j_iload_n (n := 63) dX2_takesNumber_62 rfl rfl ?_
        refine j_cVv (n := 66) dX2_takesNumber_63 rfl sX2_128 (k_write (d + 1) G _ _ hr _ _ _ (by (repeat (first | rw [pu_eq] | rw [pu_ne _ _ (by decide)])); omega) _) (by omega) (by decide) rfl rfl (Nat.le_of_ble_eq_true rfl) (hr.a (a := 118) rfl (by decide) rfl).1 (by decide) (hr.hi (by decide)) (by decide) (by decide) ?_
        refine j_aload_n (n := 67) dX2_takesNumber_66 rfl rfl ?_
        refine j_cVvr (n := 70) dX2_takesNumber_67 rfl sX2_131 (k_closeNots d G _ _ hr _ _ _ key (pu E 26 (E 26 + 1)) (Rw ++ [(0, E 20)]) O (pst_w (q := pu q 7 (q 7 + 1)) (pst_c hp.1 (pu_ne _ _ (by decide)) (pu_ne _ _ (by decide))) (pu_eq _ _ _) (pu_ne _ _ (by decide)) (by rw [w2]; rfl) _ rfl) (by (repeat rw [pu_ne _ _ (by decide)]); exact hp.2.2.2) (hi.2.1.trans (pu_ne _ _ (by decide)).symm) (by rw [pu_ne _ _ (by decide)]; exact hi.2.2.2.2.1) hi.2.2.2.2.2.s (by rw [List.length_append, List.length_singleton]; omega)) (by omega) (by decide) rfl rfl (Nat.le_of_ble_eq_true rfl) (hr.a (a := 118) rfl (by decide) rfl).1 (by decide) (hr.hi (by decide)) (by decide) (by decide) (fun N8 Y8 hh8 => ?_)
        obtain ⟨e28, q8, R8, g81, g82, g83, e38⟩ := hh8
        rw [e28, e38]
        refine j_iconst (n := 71) (v := nI 1) dX2_takesNumber_70 rfl rfl ?_
        exact j_iret dX2_takesNumber_71 rfl rfl (Nat.le_refl _) (Nat.le_refl _) ⟨_, rfl, rfl, q8, R8, o, (prs_cl hp g81 g82 g83 (by rw [pu_ne _ _ (by decide), pu_eq, pu_eq]; exact congrArg (· + 1) hp.2.1) (by (repeat rw [pu_ne _ _ (by decide)]); exact hp.2.2.1) (fun i hi => by rw [pu_ne _ _ (by omega), pu_ne _ _ (by omega)])).1, rfl, (by rw [if_neg (by omega)]; exact ⟨rfl, (prs_cl hp g81 g82 g83 (by rw [pu_ne _ _ (by decide), pu_eq, pu_eq]; exact congrArg (· + 1) hp.2.1) (by (repeat rw [pu_ne _ _ (by decide)]); exact hp.2.2.1) (fun i hi => by rw [pu_ne _ _ (by omega), pu_ne _ _ (by omega)])).2⟩)⟩
      · have w4 := w3 x (by omega) (by omega)
        refine j_bipush (n := 32) (v := nI 10) dX2_takesNumber_30 rfl (by decide) ?_
        refine j_iload_n (n := 33) dX2_takesNumber_32 rfl rfl ?_
        refine j_imulN (n := 34) (c := 10 * (numT T (q 2) (x - q 2))) dX2_takesNumber_33 rfl rfl ?_
        refine j_aload_n (n := 35) dX2_takesNumber_34 rfl rfl ?_
        refine j_getr (n := 38) (k := 0) (b := 122) dX2_takesNumber_35 rfl fX2_9 (hr.a (a := 118) rfl (by decide) rfl).1 (by decide) (hr.hi (by decide)) hb ?_
        refine j_iload_n (n := 39) dX2_takesNumber_38 rfl rfl ?_
        refine j_baldN (n := 40) (L := 96) (a := 122) (i := x) (v := nI (T x)) dX2_takesNumber_39 rfl (hr.a (a := 122) rfl (by decide) rfl).1 (hr.a (a := 122) rfl (by decide) rfl).2 (by omega) (by decide) (by decide) (hr.hi (by decide)) (((congrFun (pq_n _ _ _ _ (by decide) (by decide) (by decide)) _).trans (hT _ (by omega))).trans (sb_lo (by omega))) ?_
        refine j_iaddN (n := 41) (c := 10 * (numT T (q 2) (x - q 2)) + T x) dX2_takesNumber_40 rfl rfl ?_
        refine j_bipush (n := 43) (v := nI 48) dX2_takesNumber_41 rfl (by decide) ?_
        refine j_isubN (n := 44) (c := 10 * (numT T (q 2) (x - q 2)) + T x - 48) dX2_takesNumber_43 rfl (by omega) (by omega) ?_
        refine j_istore_n (n := 45) (lv2 := [some (.ref 118), some (.int (nI (10 * (numT T (q 2) (x - q 2)) + T x - 48))), some (.int (nI x))]) dX2_takesNumber_44 rfl rfl (by decide) rfl ?_
        refine j_iinc (n := 48) (y := nI (x + 1)) (lv2 := [some (.ref 118), some (.int (nI (10 * (numT T (q 2) (x - q 2)) + T x - 48))), some (.int (nI (x + 1)))]) dX2_takesNumber_45 rfl rfl (by decide) rfl (show nI x + nI 1 = nI (x + 1) by rw [nI_add]) rfl ?_
        refine j_goto (n := 22) dX2_takesNumber_48 rfl ?_
        have e := ih _ (by omega) (x + 1) rfl (by omega) (by omega)
        rw [num_s (by omega) (by omega)] at e
        exact e
  refine j_aload_n (n := 1) dX2_takesNumber_0 rfl rfl ?_
  refine jc_get (n := 4) (k := 3) (v := nI (q 3)) dX2_takesNumber_1 rfl fX2_87 (hr.a (a := 118) rfl (by decide) rfl).1 (by decide) (hr.hi (by decide)) (pq_q _ _ _ _ _) ?_
  refine j_aload_n (n := 5) dX2_takesNumber_4 rfl rfl ?_
  refine jc_get (n := 8) (k := 2) (v := nI (q 2)) dX2_takesNumber_5 rfl fX2_37 (hr.a (a := 118) rfl (by decide) rfl).1 (by decide) (hr.hi (by decide)) (pq_q _ _ _ _ _) ?_
  refine j_isubN (n := 9) (c := q 3 - (q 2)) dX2_takesNumber_8 rfl (by omega) (by omega) ?_
  refine j_iconst (n := 10) (v := nI 4) dX2_takesNumber_9 rfl rfl ?_
  refine j_icmp_leT (n := 13) (tg := 15) dX2_takesNumber_10 rfl rfl (i_N (by omega)) (i_N (by omega)) (fun h102 => ?_) (fun h102 => ?_)
  · refine j_iconst (n := 16) (v := nI 0) dX2_takesNumber_15 rfl rfl ?_
    refine j_istore_n (n := 17) (lv2 := [some (.ref 118), some (.int (nI 0)), none]) dX2_takesNumber_16 rfl rfl (by decide) rfl ?_
    refine j_aload_n (n := 18) dX2_takesNumber_17 rfl rfl ?_
    refine jc_get (n := 21) (k := 2) (v := nI (q 2)) dX2_takesNumber_18 rfl fX2_37 (hr.a (a := 118) rfl (by decide) rfl).1 (by decide) (hr.hi (by decide)) (pq_q _ _ _ _ _) ?_
    refine j_istore_n (n := 22) (lv2 := [some (.ref 118), some (.int (nI 0)), some (.int (nI (q 2)))]) dX2_takesNumber_21 rfl rfl (by decide) rfl ?_
    have e := e22 (by omega) _ (q 2) rfl (Nat.le_refl _) (by omega)
    rw [Nat.sub_self] at e
    exact e
  · refine j_iconst (n := 14) (v := nI 0) dX2_takesNumber_13 rfl rfl ?_
    exact j_iret dX2_takesNumber_14 rfl rfl (Nat.le_refl _) (Nat.le_refl _) ⟨_, rfl, rfl, q, R, o, (fun _ _ => rfl), rfl, (by rw [if_pos (by omega)]; rfl)⟩
theorem k_takesName (d : Nat) (G : zG) (M : zMem) (X : zX) (hr : kR X) (hb : xR X 118 0 = some 122) (T : Nat → Nat) (hT : tpC M T) (hT2 : ∀ i, T i ≤ 255) (q : Nat → Nat) (R : Nat → Int32) (o : Nat → Nat) (key : Nat) (E : Nat → Nat) (Rw : Sps) (O : List Nat) (hp : prs key q R o (true, E, Rw, O)) (hi : pI (true, E, Rw, O)) (ht : tokQ T q E) (hL : q 1 ≤ 96) (hl : O.length + Rw.length < 96) (hf : zFm G) (h4 : q 4 = 1) (h6 : q 6 = key) (hk : key ≤ 2) : zCall G miX2_takesName (d + 4) [.ref 118] (zIr (stP key M X q (if q 3 - q 2 = 1 ∧ nmL key (T (q 2)) = true then some (clS O (pu E 26 (E 26 + 1)) (Rw ++ [(1, E 21)])) else none))) (pq M q R o) X 0 0 := by
  refine zCall.of (lv := [some (.ref 118), none, none]) (by decide) (Nat.le_of_ble_eq_true rfl) rfl ?_
  obtain ⟨⟨t1, t2, t3, t4, t5, t6, t7⟩, u0, u1, u2, u3, u4⟩ := ht
  have v1 := u1 (by omega)
  obtain ⟨w1, w2, w3, w4, w5⟩ := u2 h4
  have hp9 : q 9 = Rw.length := hp.1.1
  refine j_aload_n (n := 1) dX2_takesName_0 rfl rfl ?_
  refine jc_get (n := 4) (k := 6) (v := nI (q 6)) dX2_takesName_1 rfl fX2_33 (hr.a (a := 118) rfl (by decide) rfl).1 (by decide) (hr.hi (by decide)) (pq_q _ _ _ _ _) ?_
  refine j_if_neN (n := 7) (tg := 12) dX2_takesName_4 rfl rfl (by omega) (fun h101 => ?_) (fun h101 => ?_)
  · refine j_aload_n (n := 13) dX2_takesName_12 rfl rfl ?_
    refine jc_get (n := 16) (k := 6) (v := nI (q 6)) dX2_takesName_13 rfl fX2_33 (hr.a (a := 118) rfl (by decide) rfl).1 (by decide) (hr.hi (by decide)) (pq_q _ _ _ _ _) ?_
    refine j_iconst (n := 17) (v := nI 1) dX2_takesName_16 rfl rfl ?_
    refine j_icmp_neT (n := 20) (tg := 25) dX2_takesName_17 rfl rfl (i_N (by omega)) (i_N (by omega)) (fun h102 => ?_) (fun h102 => ?_)
    · have ek : key = 2 := by omega
      refine j_ldcS (i := 5) (n := 27) dX2_takesName_25 rfl (by decide) rfl rfl ?_
      refine j_astore_n (n := 28) (lv2 := [some (.ref 118), some (.ref (3 + 5)), none]) dX2_takesName_27 rfl rfl (by decide) rfl ?_
      refine j_aload_n (n := 29) dX2_takesName_28 rfl rfl ?_
      refine jc_get (n := 32) (k := 3) (v := nI (q 3)) dX2_takesName_29 rfl fX2_87 (hr.a (a := 118) rfl (by decide) rfl).1 (by decide) (hr.hi (by decide)) (pq_q _ _ _ _ _) ?_
      refine j_aload_n (n := 33) dX2_takesName_32 rfl rfl ?_
      refine jc_get (n := 36) (k := 2) (v := nI (q 2)) dX2_takesName_33 rfl fX2_37 (hr.a (a := 118) rfl (by decide) rfl).1 (by decide) (hr.hi (by decide)) (pq_q _ _ _ _ _) ?_
      refine j_isubN (n := 37) (c := q 3 - (q 2)) dX2_takesName_36 rfl (by omega) (by omega) ?_
      refine j_iconst (n := 38) (v := nI 1) dX2_takesName_37 rfl rfl ?_
      refine j_icmp_neT (n := 41) (tg := 58) dX2_takesName_38 rfl rfl (i_N (by omega)) (i_N (by omega)) (fun h103 => ?_) (fun h103 => ?_)
      · refine j_iconst (n := 59) (v := (-1)) dX2_takesName_58 rfl rfl ?_
        refine j_istore_n (n := 60) (lv2 := [some (.ref 118), some (.ref (3 + 5)), some (.int (-1))]) dX2_takesName_59 rfl rfl (by decide) rfl ?_
        refine j_iload_n (n := 61) dX2_takesName_60 rfl rfl ?_
        refine j_if_geT (n := 64) (tg := 66) dX2_takesName_61 rfl rfl (fun h104 => ?_) (fun h104 => ?_)
        · exfalso; revert h104; decide
        · refine j_iconst (n := 65) (v := nI 0) dX2_takesName_64 rfl rfl ?_
          exact j_iret dX2_takesName_65 rfl rfl (Nat.le_refl _) (Nat.le_refl _) ⟨_, rfl, rfl, q, R, o, (fun _ _ => rfl), rfl, (by rw [if_neg (by first | omega | (rw [ek]; exact fun z => hnm z.2))]; rfl)⟩
      · refine j_aload_n (n := 42) dX2_takesName_41 rfl rfl ?_
        refine j_aload_n (n := 43) dX2_takesName_42 rfl rfl ?_
        refine j_getr (n := 46) (k := 0) (b := 122) dX2_takesName_43 rfl fX2_9 (hr.a (a := 118) rfl (by decide) rfl).1 (by decide) (hr.hi (by decide)) hb ?_
        refine j_aload_n (n := 47) dX2_takesName_46 rfl rfl ?_
        refine jc_get (n := 50) (k := 2) (v := nI (q 2)) dX2_takesName_47 rfl fX2_37 (hr.a (a := 118) rfl (by decide) rfl).1 (by decide) (hr.hi (by decide)) (pq_q _ _ _ _ _) ?_
        refine j_baldN (n := 51) (L := 96) (a := 122) (i := q 2) (v := nI (T (q 2))) dX2_takesName_50 rfl (hr.a (a := 122) rfl (by decide) rfl).1 (hr.a (a := 122) rfl (by decide) rfl).2 (by omega) (by decide) (by decide) (hr.hi (by decide)) (((congrFun (pq_n _ _ _ _ (by decide) (by decide) (by decide)) _).trans (hT _ (by omega))).trans (sb_lo (by omega))) ?_
        refine j_i2c (n := 52) dX2_takesName_51 rfl ?_
        refine j_top (y := nI (T (q 2))) (i2c_id _ (by omega)) ?_
        refine j_cVs (n := 55) (a := 5) dX2_takesName_52 rfl uX2_140 (by decide) (s_idx2 d G _ _ (T (q 2)) (by omega)) (by omega) (by decide) rfl rfl (Nat.le_of_ble_eq_true rfl) (by decide) (by decide) ?_
        refine j_goto (n := 59) dX2_takesName_55 rfl ?_
        have enm : nmX 2 (T (q 2)) = if nmL 2 (T (q 2)) = true then nI (nmI 2 (T (q 2))) else (-1) := rfl
        by_cases hnm : nmL 2 (T (q 2)) = true
        · have hni := nmI_le 2 (T (q 2))
          rw [if_pos hnm] at enm
          refine j_top enm ?_
          refine j_istore_n (n := 60) (lv2 := [some (.ref 118), some (.ref (3 + 5)), some (.int (nI (nmI 2 (T (q 2)))))]) dX2_takesName_59 rfl rfl (by decide) rfl ?_
          refine j_iload_n (n := 61) dX2_takesName_60 rfl rfl ?_
          refine j_if_geM (n := 64) (tg := 66) dX2_takesName_61 rfl rfl (by omega) (fun h105 => ?_) (fun h105 => ?_)
          · refine j_aload_n (n := 67) dX2_takesName_66 rfl rfl ?_
            refine j_dup (n := 68) dX2_takesName_67 rfl rfl ?_
            refine jc_get (n := 71) (k := 7) (v := nI (q 7)) dX2_takesName_68 rfl fX2_66 (hr.a (a := 118) rfl (by decide) rfl).1 (by decide) (hr.hi (by decide)) (pq_q _ _ _ _ _) ?_
            refine j_iconst (n := 72) (v := nI 1) dX2_takesName_71 rfl rfl ?_
            refine j_iaddN (n := 73) (c := q 7 + 1) dX2_takesName_72 rfl rfl ?_
            refine jc_put (n := 76) (k := 7) (x := nI (q 7 + 1)) (M2 := pq M (pu q 7 (q 7 + 1)) R o) dX2_takesName_73 rfl pX2_66 (fun h => by cases h) rfl rfl (hr.a (a := 118) rfl (by decide) rfl).1 (by decide) (hr.hi (by decide)) (pq_wq rfl) ?_
            refine j_aload_n (n := 77) dX2_takesName_76 rfl rfl ?_
            refine j_sipush (n := 80) (v := nI 10000) dX2_takesName_77 rfl (by decide) ?_
            refine j_iload_n (n := 81) dX2_takesName_80 rfl rfl ?_
            refine j_iaddN (n := 82) (c := 10000 + nmI 2 (T (q 2))) dX2_takesName_81 rfl rfl ?_
            refine j_cVv (n := 85) dX2_takesName_82 rfl sX2_128 (k_write (d + 3) G _ _ hr _ _ _ (by (repeat (first | rw [pu_eq] | rw [pu_ne _ _ (by decide)])); omega) _) (by omega) (by decide) rfl rfl (Nat.le_of_ble_eq_true rfl) (hr.a (a := 118) rfl (by decide) rfl).1 (by decide) (hr.hi (by decide)) (by decide) (by decide) ?_
            refine j_aload_n (n := 86) dX2_takesName_85 rfl rfl ?_
            refine j_cVvr (n := 89) dX2_takesName_86 rfl sX2_131 (k_closeNots (d + 2) G _ _ hr _ _ _ key (pu E 26 (E 26 + 1)) (Rw ++ [(1, E 21)]) O (pst_w (q := pu q 7 (q 7 + 1)) (pst_c hp.1 (pu_ne _ _ (by decide)) (pu_ne _ _ (by decide))) (pu_eq _ _ _) (pu_ne _ _ (by decide)) (by rw [w2, if_pos (by omega), ek]; rfl) _ rfl) (by (repeat rw [pu_ne _ _ (by decide)]); exact hp.2.2.2) (hi.2.1.trans (pu_ne _ _ (by decide)).symm) (by rw [pu_ne _ _ (by decide)]; exact hi.2.2.2.2.1) hi.2.2.2.2.2.s (by rw [List.length_append, List.length_singleton]; omega)) (by omega) (by decide) rfl rfl (Nat.le_of_ble_eq_true rfl) (hr.a (a := 118) rfl (by decide) rfl).1 (by decide) (hr.hi (by decide)) (by decide) (by decide) (fun N8 Y8 hh8 => ?_)
            obtain ⟨e28, q8, R8, g81, g82, g83, e38⟩ := hh8
            rw [e28, e38]
            refine j_iconst (n := 90) (v := nI 1) dX2_takesName_89 rfl rfl ?_
            exact j_iret dX2_takesName_90 rfl rfl (Nat.le_refl _) (Nat.le_refl _) ⟨_, rfl, rfl, q8, R8, o, (prs_cl hp g81 g82 g83 (by rw [pu_ne _ _ (by decide), pu_eq, pu_eq]; exact congrArg (· + 1) hp.2.1) (by (repeat rw [pu_ne _ _ (by decide)]); exact hp.2.2.1) (fun i hi => by rw [pu_ne _ _ (by omega), pu_ne _ _ (by omega)])).1, rfl, (by rw [if_pos ⟨by omega, by rw [ek]; exact hnm⟩]; exact ⟨rfl, (prs_cl hp g81 g82 g83 (by rw [pu_ne _ _ (by decide), pu_eq, pu_eq]; exact congrArg (· + 1) hp.2.1) (by (repeat rw [pu_ne _ _ (by decide)]); exact hp.2.2.1) (fun i hi => by rw [pu_ne _ _ (by omega), pu_ne _ _ (by omega)])).2⟩)⟩
          · exfalso; omega
        · rw [if_neg hnm] at enm
          refine j_top enm ?_
          refine j_istore_n (n := 60) (lv2 := [some (.ref 118), some (.ref (3 + 5)), some (.int (-1))]) dX2_takesName_59 rfl rfl (by decide) rfl ?_
          refine j_iload_n (n := 61) dX2_takesName_60 rfl rfl ?_
          refine j_if_geT (n := 64) (tg := 66) dX2_takesName_61 rfl rfl (fun h106 => ?_) (fun h106 => ?_)
          · exfalso; revert h106; decide
          · refine j_iconst (n := 65) (v := nI 0) dX2_takesName_64 rfl rfl ?_
            exact j_iret dX2_takesName_65 rfl rfl (Nat.le_refl _) (Nat.le_refl _) ⟨_, rfl, rfl, q, R, o, (fun _ _ => rfl), rfl, (by rw [if_neg (by first | omega | (rw [ek]; exact fun z => hnm z.2))]; rfl)⟩
    · have ek : key = 1 := by omega
      refine j_ldcS (i := 4) (n := 22) dX2_takesName_20 rfl (by decide) rfl rfl ?_
      refine j_goto (n := 27) dX2_takesName_22 rfl ?_
      refine j_astore_n (n := 28) (lv2 := [some (.ref 118), some (.ref (3 + 4)), none]) dX2_takesName_27 rfl rfl (by decide) rfl ?_
      refine j_aload_n (n := 29) dX2_takesName_28 rfl rfl ?_
      refine jc_get (n := 32) (k := 3) (v := nI (q 3)) dX2_takesName_29 rfl fX2_87 (hr.a (a := 118) rfl (by decide) rfl).1 (by decide) (hr.hi (by decide)) (pq_q _ _ _ _ _) ?_
      refine j_aload_n (n := 33) dX2_takesName_32 rfl rfl ?_
      refine jc_get (n := 36) (k := 2) (v := nI (q 2)) dX2_takesName_33 rfl fX2_37 (hr.a (a := 118) rfl (by decide) rfl).1 (by decide) (hr.hi (by decide)) (pq_q _ _ _ _ _) ?_
      refine j_isubN (n := 37) (c := q 3 - (q 2)) dX2_takesName_36 rfl (by omega) (by omega) ?_
      refine j_iconst (n := 38) (v := nI 1) dX2_takesName_37 rfl rfl ?_
      refine j_icmp_neT (n := 41) (tg := 58) dX2_takesName_38 rfl rfl (i_N (by omega)) (i_N (by omega)) (fun h107 => ?_) (fun h107 => ?_)
      · refine j_iconst (n := 59) (v := (-1)) dX2_takesName_58 rfl rfl ?_
        refine j_istore_n (n := 60) (lv2 := [some (.ref 118), some (.ref (3 + 4)), some (.int (-1))]) dX2_takesName_59 rfl rfl (by decide) rfl ?_
        refine j_iload_n (n := 61) dX2_takesName_60 rfl rfl ?_
        refine j_if_geT (n := 64) (tg := 66) dX2_takesName_61 rfl rfl (fun h108 => ?_) (fun h108 => ?_)
        · exfalso; revert h108; decide
        · refine j_iconst (n := 65) (v := nI 0) dX2_takesName_64 rfl rfl ?_
          exact j_iret dX2_takesName_65 rfl rfl (Nat.le_refl _) (Nat.le_refl _) ⟨_, rfl, rfl, q, R, o, (fun _ _ => rfl), rfl, (by rw [if_neg (by first | omega | (rw [ek]; exact fun z => hnm z.2))]; rfl)⟩
      · refine j_aload_n (n := 42) dX2_takesName_41 rfl rfl ?_
        refine j_aload_n (n := 43) dX2_takesName_42 rfl rfl ?_
        refine j_getr (n := 46) (k := 0) (b := 122) dX2_takesName_43 rfl fX2_9 (hr.a (a := 118) rfl (by decide) rfl).1 (by decide) (hr.hi (by decide)) hb ?_
        refine j_aload_n (n := 47) dX2_takesName_46 rfl rfl ?_
        refine jc_get (n := 50) (k := 2) (v := nI (q 2)) dX2_takesName_47 rfl fX2_37 (hr.a (a := 118) rfl (by decide) rfl).1 (by decide) (hr.hi (by decide)) (pq_q _ _ _ _ _) ?_
        refine j_baldN (n := 51) (L := 96) (a := 122) (i := q 2) (v := nI (T (q 2))) dX2_takesName_50 rfl (hr.a (a := 122) rfl (by decide) rfl).1 (hr.a (a := 122) rfl (by decide) rfl).2 (by omega) (by decide) (by decide) (hr.hi (by decide)) (((congrFun (pq_n _ _ _ _ (by decide) (by decide) (by decide)) _).trans (hT _ (by omega))).trans (sb_lo (by omega))) ?_
        refine j_i2c (n := 52) dX2_takesName_51 rfl ?_
        refine j_top (y := nI (T (q 2))) (i2c_id _ (by omega)) ?_
        refine j_cVs (n := 55) (a := 4) dX2_takesName_52 rfl uX2_140 (by decide) (s_idx1 d G _ _ (T (q 2)) (by omega)) (by omega) (by decide) rfl rfl (Nat.le_of_ble_eq_true rfl) (by decide) (by decide) ?_
        refine j_goto (n := 59) dX2_takesName_55 rfl ?_
        have enm : nmX 1 (T (q 2)) = if nmL 1 (T (q 2)) = true then nI (nmI 1 (T (q 2))) else (-1) := rfl
        by_cases hnm : nmL 1 (T (q 2)) = true
        · have hni := nmI_le 1 (T (q 2))
          rw [if_pos hnm] at enm
          refine j_top enm ?_
          refine j_istore_n (n := 60) (lv2 := [some (.ref 118), some (.ref (3 + 4)), some (.int (nI (nmI 1 (T (q 2)))))]) dX2_takesName_59 rfl rfl (by decide) rfl ?_
          refine j_iload_n (n := 61) dX2_takesName_60 rfl rfl ?_
          refine j_if_geM (n := 64) (tg := 66) dX2_takesName_61 rfl rfl (by omega) (fun h109 => ?_) (fun h109 => ?_)
          · refine j_aload_n (n := 67) dX2_takesName_66 rfl rfl ?_
            refine j_dup (n := 68) dX2_takesName_67 rfl rfl ?_
            refine jc_get (n := 71) (k := 7) (v := nI (q 7)) dX2_takesName_68 rfl fX2_66 (hr.a (a := 118) rfl (by decide) rfl).1 (by decide) (hr.hi (by decide)) (pq_q _ _ _ _ _) ?_
            refine j_iconst (n := 72) (v := nI 1) dX2_takesName_71 rfl rfl ?_
            refine j_iaddN (n := 73) (c := q 7 + 1) dX2_takesName_72 rfl rfl ?_
            refine jc_put (n := 76) (k := 7) (x := nI (q 7 + 1)) (M2 := pq M (pu q 7 (q 7 + 1)) R o) dX2_takesName_73 rfl pX2_66 (fun h => by cases h) rfl rfl (hr.a (a := 118) rfl (by decide) rfl).1 (by decide) (hr.hi (by decide)) (pq_wq rfl) ?_
            refine j_aload_n (n := 77) dX2_takesName_76 rfl rfl ?_
            refine j_sipush (n := 80) (v := nI 10000) dX2_takesName_77 rfl (by decide) ?_
            refine j_iload_n (n := 81) dX2_takesName_80 rfl rfl ?_
            refine j_iaddN (n := 82) (c := 10000 + nmI 1 (T (q 2))) dX2_takesName_81 rfl rfl ?_
            refine j_cVv (n := 85) dX2_takesName_82 rfl sX2_128 (k_write (d + 3) G _ _ hr _ _ _ (by (repeat (first | rw [pu_eq] | rw [pu_ne _ _ (by decide)])); omega) _) (by omega) (by decide) rfl rfl (Nat.le_of_ble_eq_true rfl) (hr.a (a := 118) rfl (by decide) rfl).1 (by decide) (hr.hi (by decide)) (by decide) (by decide) ?_
            refine j_aload_n (n := 86) dX2_takesName_85 rfl rfl ?_
            refine j_cVvr (n := 89) dX2_takesName_86 rfl sX2_131 (k_closeNots (d + 2) G _ _ hr _ _ _ key (pu E 26 (E 26 + 1)) (Rw ++ [(1, E 21)]) O (pst_w (q := pu q 7 (q 7 + 1)) (pst_c hp.1 (pu_ne _ _ (by decide)) (pu_ne _ _ (by decide))) (pu_eq _ _ _) (pu_ne _ _ (by decide)) (by rw [w2, if_pos (by omega), ek]; rfl) _ rfl) (by (repeat rw [pu_ne _ _ (by decide)]); exact hp.2.2.2) (hi.2.1.trans (pu_ne _ _ (by decide)).symm) (by rw [pu_ne _ _ (by decide)]; exact hi.2.2.2.2.1) hi.2.2.2.2.2.s (by rw [List.length_append, List.length_singleton]; omega)) (by omega) (by decide) rfl rfl (Nat.le_of_ble_eq_true rfl) (hr.a (a := 118) rfl (by decide) rfl).1 (by decide) (hr.hi (by decide)) (by decide) (by decide) (fun N8 Y8 hh8 => ?_)
            obtain ⟨e28, q8, R8, g81, g82, g83, e38⟩ := hh8
            rw [e28, e38]
            refine j_iconst (n := 90) (v := nI 1) dX2_takesName_89 rfl rfl ?_
            exact j_iret dX2_takesName_90 rfl rfl (Nat.le_refl _) (Nat.le_refl _) ⟨_, rfl, rfl, q8, R8, o, (prs_cl hp g81 g82 g83 (by rw [pu_ne _ _ (by decide), pu_eq, pu_eq]; exact congrArg (· + 1) hp.2.1) (by (repeat rw [pu_ne _ _ (by decide)]); exact hp.2.2.1) (fun i hi => by rw [pu_ne _ _ (by omega), pu_ne _ _ (by omega)])).1, rfl, (by rw [if_pos ⟨by omega, by rw [ek]; exact hnm⟩]; exact ⟨rfl, (prs_cl hp g81 g82 g83 (by rw [pu_ne _ _ (by decide), pu_eq, pu_eq]; exact congrArg (· + 1) hp.2.1) (by (repeat rw [pu_ne _ _ (by decide)]); exact hp.2.2.1) (fun i hi => by rw [pu_ne _ _ (by omega), pu_ne _ _ (by omega)])).2⟩)⟩
          · exfalso; omega
        · rw [if_neg hnm] at enm
          refine j_top enm ?_
          refine j_istore_n (n := 60) (lv2 := [some (.ref 118), some (.ref (3 + 4)), some (.int (-1))]) dX2_takesName_59 rfl rfl (by decide) rfl ?_
          refine j_iload_n (n := 61) dX2_takesName_60 rfl rfl ?_
          refine j_if_geT (n := 64) (tg := 66) dX2_takesName_61 rfl rfl (fun h110 => ?_) (fun h110 => ?_)
          · exfalso; revert h110; decide
          · refine j_iconst (n := 65) (v := nI 0) dX2_takesName_64 rfl rfl ?_
            exact j_iret dX2_takesName_65 rfl rfl (Nat.le_refl _) (Nat.le_refl _) ⟨_, rfl, rfl, q, R, o, (fun _ _ => rfl), rfl, (by rw [if_neg (by first | omega | (rw [ek]; exact fun z => hnm z.2))]; rfl)⟩
  · have ek : key = 0 := by omega
    refine j_ldcS (i := 3) (n := 9) dX2_takesName_7 rfl (by decide) rfl rfl ?_
    refine j_goto (n := 27) dX2_takesName_9 rfl ?_
    refine j_astore_n (n := 28) (lv2 := [some (.ref 118), some (.ref (3 + 3)), none]) dX2_takesName_27 rfl rfl (by decide) rfl ?_
    refine j_aload_n (n := 29) dX2_takesName_28 rfl rfl ?_
    refine jc_get (n := 32) (k := 3) (v := nI (q 3)) dX2_takesName_29 rfl fX2_87 (hr.a (a := 118) rfl (by decide) rfl).1 (by decide) (hr.hi (by decide)) (pq_q _ _ _ _ _) ?_
    refine j_aload_n (n := 33) dX2_takesName_32 rfl rfl ?_
    refine jc_get (n := 36) (k := 2) (v := nI (q 2)) dX2_takesName_33 rfl fX2_37 (hr.a (a := 118) rfl (by decide) rfl).1 (by decide) (hr.hi (by decide)) (pq_q _ _ _ _ _) ?_
    refine j_isubN (n := 37) (c := q 3 - (q 2)) dX2_takesName_36 rfl (by omega) (by omega) ?_
    refine j_iconst (n := 38) (v := nI 1) dX2_takesName_37 rfl rfl ?_
    refine j_icmp_neT (n := 41) (tg := 58) dX2_takesName_38 rfl rfl (i_N (by omega)) (i_N (by omega)) (fun h111 => ?_) (fun h111 => ?_)
    · refine j_iconst (n := 59) (v := (-1)) dX2_takesName_58 rfl rfl ?_
      refine j_istore_n (n := 60) (lv2 := [some (.ref 118), some (.ref (3 + 3)), some (.int (-1))]) dX2_takesName_59 rfl rfl (by decide) rfl ?_
      refine j_iload_n (n := 61) dX2_takesName_60 rfl rfl ?_
      refine j_if_geT (n := 64) (tg := 66) dX2_takesName_61 rfl rfl (fun h112 => ?_) (fun h112 => ?_)
      · exfalso; revert h112; decide
      · refine j_iconst (n := 65) (v := nI 0) dX2_takesName_64 rfl rfl ?_
        exact j_iret dX2_takesName_65 rfl rfl (Nat.le_refl _) (Nat.le_refl _) ⟨_, rfl, rfl, q, R, o, (fun _ _ => rfl), rfl, (by rw [if_neg (by first | omega | (rw [ek]; exact fun z => hnm z.2))]; rfl)⟩
    · refine j_aload_n (n := 42) dX2_takesName_41 rfl rfl ?_
      refine j_aload_n (n := 43) dX2_takesName_42 rfl rfl ?_
      refine j_getr (n := 46) (k := 0) (b := 122) dX2_takesName_43 rfl fX2_9 (hr.a (a := 118) rfl (by decide) rfl).1 (by decide) (hr.hi (by decide)) hb ?_
      refine j_aload_n (n := 47) dX2_takesName_46 rfl rfl ?_
      refine jc_get (n := 50) (k := 2) (v := nI (q 2)) dX2_takesName_47 rfl fX2_37 (hr.a (a := 118) rfl (by decide) rfl).1 (by decide) (hr.hi (by decide)) (pq_q _ _ _ _ _) ?_
      refine j_baldN (n := 51) (L := 96) (a := 122) (i := q 2) (v := nI (T (q 2))) dX2_takesName_50 rfl (hr.a (a := 122) rfl (by decide) rfl).1 (hr.a (a := 122) rfl (by decide) rfl).2 (by omega) (by decide) (by decide) (hr.hi (by decide)) (((congrFun (pq_n _ _ _ _ (by decide) (by decide) (by decide)) _).trans (hT _ (by omega))).trans (sb_lo (by omega))) ?_
      refine j_i2c (n := 52) dX2_takesName_51 rfl ?_
      refine j_top (y := nI (T (q 2))) (i2c_id _ (by omega)) ?_
      refine j_cVs (n := 55) (a := 3) dX2_takesName_52 rfl uX2_140 (by decide) (s_idx0 d G _ _ (T (q 2)) (by omega)) (by omega) (by decide) rfl rfl (Nat.le_of_ble_eq_true rfl) (by decide) (by decide) ?_
      refine j_goto (n := 59) dX2_takesName_55 rfl ?_
      have enm : nmX 0 (T (q 2)) = if nmL 0 (T (q 2)) = true then nI (nmI 0 (T (q 2))) else (-1) := rfl
      by_cases hnm : nmL 0 (T (q 2)) = true
      · have hni := nmI_le 0 (T (q 2))
        rw [if_pos hnm] at enm
        refine j_top enm ?_
        refine j_istore_n (n := 60) (lv2 := [some (.ref 118), some (.ref (3 + 3)), some (.int (nI (nmI 0 (T (q 2)))))]) dX2_takesName_59 rfl rfl (by decide) rfl ?_
        refine j_iload_n (n := 61) dX2_takesName_60 rfl rfl ?_
        refine j_if_geM (n := 64) (tg := 66) dX2_takesName_61 rfl rfl (by omega) (fun h113 => ?_) (fun h113 => ?_)
        · refine j_aload_n (n := 67) dX2_takesName_66 rfl rfl ?_
          refine j_dup (n := 68) dX2_takesName_67 rfl rfl ?_
          refine jc_get (n := 71) (k := 7) (v := nI (q 7)) dX2_takesName_68 rfl fX2_66 (hr.a (a := 118) rfl (by decide) rfl).1 (by decide) (hr.hi (by decide)) (pq_q _ _ _ _ _) ?_
          refine j_iconst (n := 72) (v := nI 1) dX2_takesName_71 rfl rfl ?_
          refine j_iaddN (n := 73) (c := q 7 + 1) dX2_takesName_72 rfl rfl ?_
          refine jc_put (n := 76) (k := 7) (x := nI (q 7 + 1)) (M2 := pq M (pu q 7 (q 7 + 1)) R o) dX2_takesName_73 rfl pX2_66 (fun h => by cases h) rfl rfl (hr.a (a := 118) rfl (by decide) rfl).1 (by decide) (hr.hi (by decide)) (pq_wq rfl) ?_
          refine j_aload_n (n := 77) dX2_takesName_76 rfl rfl ?_
          refine j_sipush (n := 80) (v := nI 10000) dX2_takesName_77 rfl (by decide) ?_
          refine j_iload_n (n := 81) dX2_takesName_80 rfl rfl ?_
          refine j_iaddN (n := 82) (c := 10000 + nmI 0 (T (q 2))) dX2_takesName_81 rfl rfl ?_
          refine j_cVv (n := 85) dX2_takesName_82 rfl sX2_128 (k_write (d + 3) G _ _ hr _ _ _ (by (repeat (first | rw [pu_eq] | rw [pu_ne _ _ (by decide)])); omega) _) (by omega) (by decide) rfl rfl (Nat.le_of_ble_eq_true rfl) (hr.a (a := 118) rfl (by decide) rfl).1 (by decide) (hr.hi (by decide)) (by decide) (by decide) ?_
          refine j_aload_n (n := 86) dX2_takesName_85 rfl rfl ?_
          refine j_cVvr (n := 89) dX2_takesName_86 rfl sX2_131 (k_closeNots (d + 2) G _ _ hr _ _ _ key (pu E 26 (E 26 + 1)) (Rw ++ [(1, E 21)]) O (pst_w (q := pu q 7 (q 7 + 1)) (pst_c hp.1 (pu_ne _ _ (by decide)) (pu_ne _ _ (by decide))) (pu_eq _ _ _) (pu_ne _ _ (by decide)) (by rw [w2, if_pos (by omega), ek]; rfl) _ rfl) (by (repeat rw [pu_ne _ _ (by decide)]); exact hp.2.2.2) (hi.2.1.trans (pu_ne _ _ (by decide)).symm) (by rw [pu_ne _ _ (by decide)]; exact hi.2.2.2.2.1) hi.2.2.2.2.2.s (by rw [List.length_append, List.length_singleton]; omega)) (by omega) (by decide) rfl rfl (Nat.le_of_ble_eq_true rfl) (hr.a (a := 118) rfl (by decide) rfl).1 (by decide) (hr.hi (by decide)) (by decide) (by decide) (fun N8 Y8 hh8 => ?_)
          obtain ⟨e28, q8, R8, g81, g82, g83, e38⟩ := hh8
          rw [e28, e38]
          refine j_iconst (n := 90) (v := nI 1) dX2_takesName_89 rfl rfl ?_
          exact j_iret dX2_takesName_90 rfl rfl (Nat.le_refl _) (Nat.le_refl _) ⟨_, rfl, rfl, q8, R8, o, (prs_cl hp g81 g82 g83 (by rw [pu_ne _ _ (by decide), pu_eq, pu_eq]; exact congrArg (· + 1) hp.2.1) (by (repeat rw [pu_ne _ _ (by decide)]); exact hp.2.2.1) (fun i hi => by rw [pu_ne _ _ (by omega), pu_ne _ _ (by omega)])).1, rfl, (by rw [if_pos ⟨by omega, by rw [ek]; exact hnm⟩]; exact ⟨rfl, (prs_cl hp g81 g82 g83 (by rw [pu_ne _ _ (by decide), pu_eq, pu_eq]; exact congrArg (· + 1) hp.2.1) (by (repeat rw [pu_ne _ _ (by decide)]); exact hp.2.2.1) (fun i hi => by rw [pu_ne _ _ (by omega), pu_ne _ _ (by omega)])).2⟩)⟩
        · exfalso; omega
      · rw [if_neg hnm] at enm
        refine j_top enm ?_
        refine j_istore_n (n := 60) (lv2 := [some (.ref 118), some (.ref (3 + 3)), some (.int (-1))]) dX2_takesName_59 rfl rfl (by decide) rfl ?_
        refine j_iload_n (n := 61) dX2_takesName_60 rfl rfl ?_
        refine j_if_geT (n := 64) (tg := 66) dX2_takesName_61 rfl rfl (fun h114 => ?_) (fun h114 => ?_)
        · exfalso; revert h114; decide
        · refine j_iconst (n := 65) (v := nI 0) dX2_takesName_64 rfl rfl ?_
          exact j_iret dX2_takesName_65 rfl rfl (Nat.le_refl _) (Nat.le_refl _) ⟨_, rfl, rfl, q, R, o, (fun _ _ => rfl), rfl, (by rw [if_neg (by first | omega | (rw [ek]; exact fun z => hnm z.2))]; rfl)⟩
