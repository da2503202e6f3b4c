-- CLASS H: by program (wip/whole/gen/c8.py)
theorem k_enters (d : Nat) (G : zG) (M : zMem) (X : zX) (hr : kR X) (c : Nat → Nat) (hx : tx M X 17 c) (hR : tR X 17) (b : Nat) (hw : wf c b 9999) (hb : b ≤ 800000000) (one room : Int32) : zCall G miX9_enters (d + 6) [.ref 16, .int one, .int room] (zIr (fun r0 M1 X1 => r0 = r_enters c one room ∧ (X1 = X ∨ X1 = cpX X 79 17) ∧ ∃ M2, scx M M2 ∧ M1 = cm M2 17 c)) (cm M 17 c) X 0 0 := by
  refine zCall.of (lv := [some (.ref 16), some (.int one), some (.int room), none]) (by decide) (Nat.le_of_ble_eq_true rfl) rfl ?_
  have hwf0 := hw
  have h0 := hw.1.1
  have h2 := hw.day
  have h8 := hw.2.1.1
  refine j_aload_n (n := 1) dX9_enters_0 rfl rfl ?_
  refine j_iload_n (n := 2) dX9_enters_1 rfl rfl ?_
  refine j_cV (n := 5) dX9_enters_2 rfl sX9_87 (k_isOne (d + 5) G _ _ hr _ (by omega) _) (by omega) (by decide) rfl rfl (Nat.le_of_ble_eq_true rfl) (hr).c (by decide) ((hr).hi (by decide)) (by decide) (by decide) ?_
  refine j_if_eqB (n := 8) (tg := 15) dX9_enters_5 rfl rfl (fun h101 => ?_) (fun h101 => ?_)
  · refine j_ldc (n := 17) (v := -1000000001) dX9_enters_15 rfl kX9_71 ?_
    exact j_iret dX9_enters_17 rfl rfl (Nat.le_refl _) (Nat.le_refl _) ⟨_, rfl, (by unfold r_enters; rw [if_pos (by omega)]), .inl rfl, M, scx.rf M, rfl⟩
  · refine j_iload_n (n := 9) dX9_enters_8 rfl rfl ?_
    refine j_cS (n := 12) dX9_enters_9 rfl sX9_65 (k_isRoom (d + 5) G _ _ _) (by omega) (by decide) rfl rfl (Nat.le_of_ble_eq_true rfl) (by decide) (by decide) ?_
    refine j_if_neB (n := 15) (tg := 18) dX9_enters_12 rfl rfl (fun h102 => ?_) (fun h102 => ?_)
    · obtain ⟨k, hk_, rfl⟩ := i_of (x := one) (n := c 0) (by omega) (by omega)
      have ek : tN (nI k) = k := tN_nI (by omega)
      have ik : (nI k).toInt = k := i_N (by omega)
      obtain ⟨r, hr_, rfl⟩ := i_of (x := room) (n := 8) (by omega) (by omega)
      have er : tN (nI r) = r := tN_nI (by omega)
      have ir : (nI r).toInt = r := i_N (by omega)
      refine j_aload_n (n := 19) dX9_enters_18 rfl rfl ?_
      refine j_getr (n := 22) (k := 2) (b := 79) dX9_enters_19 rfl fX9_19 (hr).c (by decide) ((hr).hi (by decide)) (hr.f (k := 2) rfl (by decide)) ?_
      refine j_aload_n (n := 23) dX9_enters_22 rfl rfl ?_
      refine j_getr (n := 26) (k := 0) (b := 17) dX9_enters_23 rfl fX9_10 (hr).c (by decide) ((hr).hi (by decide)) (hr.f (k := 0) rfl (by decide)) ?_
      refine j_mem (M2 := cm (cm M 17 c) 79 (rdT (cm M 17 c) 79)) (cm_rd _ _).symm ?_
      refine j_cVv (n := 29) dX9_enters_26 rfl sX9_223 (c_becomeAsT (d + 3) G M _ 79 17 hr.1.2.2 hr.1.1 (by decide) _ c hw.1 hw.2.1 hR) (by omega) (by decide) rfl rfl (Nat.le_of_ble_eq_true rfl) (hr.1.2.2).c (hr.1.2.2).lo ((hr.1.2.2).hi (by omega)) (by decide) (by decide) ?_
      have hxe0 := tx_cm (tx_cpX (c := rdT (cm M 17 c) 79) (B := 79) hx (by decide) hw.2.2.1.1) 17 c (by decide)
      have hth0 := lv_as (rdT (cm M 17 c) 79) c
      generalize asP (rdT (cm M 17 c) 79) c = e at hxe0 hth0 ⊢
      have hwe := lvE_wf hth0 hw
      have hr := kR_cpX hr (B := 79) (F := 17) (by decide)
      refine j_iconst (n := 30) (v := nI 0) dX9_enters_29 rfl rfl ?_
      refine j_istore_n (n := 31) (lv2 := [some (.ref 16), some (.int (nI k)), some (.int (nI r)), some (.int (nI 0))]) dX9_enters_30 rfl rfl (by decide) rfl ?_
      have loop : ∀ (j n : Nat) (M1 : zMem), 201 - n = j → n ≤ 201 → fi (fun n => daysP c n (10 + 5 * k + 1) = r) (201 - 0) 0 = fi (fun n => daysP c n (10 + 5 * k + 1) = r) (201 - n) n → scT M M1 → zAt G miX9_enters (zRm (d + 6) 0 0) (zQ G (zIr (fun r0 M1 X1 => r0 = r_enters c (nI k) (nI r) ∧ (X1 = X ∨ X1 = cpX X 79 17) ∧ ∃ M2, scx M M2 ∧ M1 = cm M2 17 c)) 0 0) 31 [some (.ref 16), some (.int (nI k)), some (.int (nI r)), some (.int (nI n))] [] (cm (cm M1 17 c) 79 (daysP e n)) (cpX X 79 17) (0, 0) := by
        intro j
        induction j using Nat.strongRecOn with
        | ind j ih =>
          intro n M1 hj hk0 hF hsc
          have hwd := wf_days hwe n
          have hxd := hxe0.days (hsc.cm 17 c (by decide)) hwe n
          have hlv := lv_days hth0 hwf0 n
          have hrm := hlv.o (by rw [days_0 hwf0]; exact h0) (k := k) (j := 1) (by rw [days_0 hwf0]; omega) (by decide)
          have hro := ((wf_days hwf0 n).1.2 k (by rw [days_0 hwf0]; omega)).2.1
          refine j_iload_n (n := 32) dX9_enters_31 rfl rfl ?_
          refine j_sipush (n := 35) (v := nI 200) dX9_enters_32 rfl (by decide) ?_
          refine j_icmp_gtT (n := 38) (tg := 69) dX9_enters_35 rfl rfl (i_N (by omega)) (i_N (by omega)) (fun h104 => ?_) (fun h104 => ?_)
          · refine j_ldc (n := 71) (v := -1000000005) dX9_enters_69 rfl kX9_219 ?_
            exact j_iret dX9_enters_71 rfl rfl (Nat.le_refl _) (Nat.le_refl _) ⟨_, rfl, (by have eF := hF.trans (by first | exact fi_n (by omega) | exact fi_t (by omega) (by omega)); unfold r_enters; rw [if_neg (by omega), ek, er, eF]; first | (rw [if_pos (by omega)]; done) | rw [if_neg (by omega)]), .inr rfl, th_end (hsc)⟩
          · refine j_aload_n (n := 39) dX9_enters_38 rfl rfl ?_
            refine j_getr (n := 42) (k := 2) (b := 79) dX9_enters_39 rfl fX9_19 (hr).c (by decide) ((hr).hi (by decide)) (hr.f (k := 2) rfl (by decide)) ?_
            refine j_getr (n := 45) (k := 0) (b := 80) dX9_enters_42 rfl fX9_77 (hr.1.2.2).c (hr.1.2.2).lo ((hr.1.2.2).hi (by omega)) (hr.1.2.2).r0 ?_
            refine j_iload_n (n := 46) dX9_enters_45 rfl rfl ?_
            refine jc_aald (n := 47) (t := 2) (L := 8) (i := k) (b := 79 + 5 + 2 * k) dX9_enters_46 rfl ((hr.1.2.2).a1).1 (by decide) rfl ((hr.1.2.2).a1).2 (by omega) (by decide) (by have := (hr.1.2.2).lo; omega) ((hr.1.2.2).hi (by omega)) ((hr.1.2.2).e1 (by omega)) ?_
            refine jc_get (n := 50) (k := 1) (v := nI ((daysP e n) (10 + 5 * k + 1))) dX9_enters_47 rfl fX9_93 ((hr.1.2.2).p (by omega)).2.2.1 ((hr.1.2.2).p (by omega)).1 ((hr.1.2.2).hi (by omega)) (cm_r (ix_p (by omega) (by decide) rfl)) ?_
            refine j_iload_n (n := 51) dX9_enters_50 rfl rfl ?_
            refine j_icmp_neT (n := 54) (tg := 56) dX9_enters_51 rfl rfl (i_N (by omega)) (i_N (by omega)) (fun h105 => ?_) (fun h105 => ?_)
            · refine j_aload_n (n := 57) dX9_enters_56 rfl rfl ?_
              refine j_getr (n := 60) (k := 2) (b := 79) dX9_enters_57 rfl fX9_19 (hr).c (by decide) ((hr).hi (by decide)) (hr.f (k := 2) rfl (by decide)) ?_
              refine j_cVvr (n := 63) dX9_enters_60 rfl sX9_191 (c_liveDay d G _ _ 79 hr.1.2.2 _ hxd _ _ hwd (by omega) (by omega)) (by omega) (by decide) rfl rfl (Nat.le_of_ble_eq_true rfl) (hr.1.2.2).c (hr.1.2.2).lo ((hr.1.2.2).hi (by omega)) (by decide) (by decide) (fun N106 Y106 hh106 => ?_)
              obtain ⟨e2106, M0106, hs0106, e3106⟩ := hh106
              obtain ⟨M_106, hs106, e4106⟩ := scT_un (by decide) hs0106
              rw [e2106, e3106, e4106]
              refine j_iinc (n := 66) (y := nI (n + 1)) (lv2 := [some (.ref 16), some (.int (nI k)), some (.int (nI r)), some (.int (nI (n + 1)))]) dX9_enters_63 rfl rfl (by decide) rfl (show nI n + nI 1 = nI (n + 1) by rw [nI_add]) rfl ?_
              refine j_goto (n := 31) dX9_enters_66 rfl ?_
              exact ih _ (by omega) (n + 1) _ rfl (by omega) (hF.trans (fi_s (by omega) (by omega))) ((hsc).tr hs106)
            · refine j_iload_n (n := 55) dX9_enters_54 rfl rfl ?_
              exact j_iret dX9_enters_55 rfl rfl (Nat.le_refl _) (Nat.le_refl _) ⟨_, rfl, (by have eF := hF.trans (by first | exact fi_n (by omega) | exact fi_t (by omega) (by omega)); unfold r_enters; rw [if_neg (by omega), ek, er, eF]; first | (rw [if_pos (by omega)]; done) | rw [if_neg (by omega)]), .inr rfl, th_end (hsc)⟩
      exact loop _ 0 _ rfl (Nat.zero_le _) rfl (scT.rf M)
    · refine j_ldc (n := 17) (v := -1000000001) dX9_enters_15 rfl kX9_71 ?_
      exact j_iret dX9_enters_17 rfl rfl (Nat.le_refl _) (Nat.le_refl _) ⟨_, rfl, (by unfold r_enters; rw [if_pos (by omega)]), .inl rfl, M, scx.rf M, rfl⟩
theorem k_entriesThought (d : Nat) (G : zG) (M : zMem) (X : zX) (hr : kR X) (c e : Nat → Nat) (hxe0 : tx (cm M 17 c) X 79 e) (b : Nat) (hwe : wf e b 9999) (hb : b ≤ 800000000) (m : Nat) (hm : m ≤ 60) : zCall G miX9_entriesThought (d + 6) [.ref 16, .int (nI m)] (zIr (fun r0 M1 X1 => r0 = nI (daysP e m 3) ∧ X1 = X ∧ ∃ M2, scT M M2 ∧ M1 = cm (cm M2 17 c) 79 (daysP e m))) (cm (cm M 17 c) 79 e) X 0 0 := by
  refine zCall.of (lv := [some (.ref 16), some (.int (nI m)), none]) (by decide) (Nat.le_of_ble_eq_true rfl) rfl ?_
  have hth0 := lvE.rf e
  have hwf0 := hwe
  refine j_iconst (n := 1) (v := nI 0) dX9_entriesThought_0 rfl rfl ?_
  refine j_istore_n (n := 2) (lv2 := [some (.ref 16), some (.int (nI m)), some (.int (nI 0))]) dX9_entriesThought_1 rfl rfl (by decide) rfl ?_
  have loop : ∀ (j k : Nat) (M1 : zMem), m - k = j → k ≤ m → scT M M1 → zAt G miX9_entriesThought (zRm (d + 6) 0 0) (zQ G (zIr (fun r0 M1 X1 => r0 = nI (daysP e m 3) ∧ X1 = X ∧ ∃ M2, scT M M2 ∧ M1 = cm (cm M2 17 c) 79 (daysP e m))) 0 0) 2 [some (.ref 16), some (.int (nI m)), some (.int (nI k))] [] (cm (cm M1 17 c) 79 (daysP e k)) X (0, 0) := by
    intro j
    induction j using Nat.strongRecOn with
    | ind j ih =>
      intro k M1 hj hk0 hsc
      have hwd := wf_days hwe k
      have hxd := hxe0.days (hsc.cm 17 c (by decide)) hwe k
      have hlv := lv_days hth0 hwf0 k
      refine j_iload_n (n := 3) dX9_entriesThought_2 rfl rfl ?_
      refine j_iload_n (n := 4) dX9_entriesThought_3 rfl rfl ?_
      refine j_icmp_geT (n := 7) (tg := 20) dX9_entriesThought_4 rfl rfl (i_N (by omega)) (i_N (by omega)) (fun h101 => ?_) (fun h101 => ?_)
      · refine j_aload_n (n := 21) dX9_entriesThought_20 rfl rfl ?_
        refine j_getr (n := 24) (k := 2) (b := 79) dX9_entriesThought_21 rfl fX9_19 (hr).c (by decide) ((hr).hi (by decide)) (hr.f (k := 2) rfl (by decide)) ?_
        refine jc_get (n := 27) (k := 9) (v := nI ((daysP e k) 3)) dX9_entriesThought_24 rfl fX9_185 (hr.1.2.2).c (hr.1.2.2).lo ((hr.1.2.2).hi (by omega)) (cm_r (ix_t rfl)) ?_
        exact j_iret dX9_entriesThought_27 rfl rfl (Nat.le_refl _) (Nat.le_refl _) ⟨_, rfl, by rw [show k = m by omega], rfl, _, hsc, by rw [show k = m by omega]⟩
      · refine j_aload_n (n := 8) dX9_entriesThought_7 rfl rfl ?_
        refine j_getr (n := 11) (k := 2) (b := 79) dX9_entriesThought_8 rfl fX9_19 (hr).c (by decide) ((hr).hi (by decide)) (hr.f (k := 2) rfl (by decide)) ?_
        refine j_cVvr (n := 14) dX9_entriesThought_11 rfl sX9_191 (c_liveDay d G _ _ 79 hr.1.2.2 _ hxd _ _ hwd (by omega) (by omega)) (by omega) (by decide) rfl rfl (Nat.le_of_ble_eq_true rfl) (hr.1.2.2).c (hr.1.2.2).lo ((hr.1.2.2).hi (by omega)) (by decide) (by decide) (fun N102 Y102 hh102 => ?_)
        obtain ⟨e2102, M0102, hs0102, e3102⟩ := hh102
        obtain ⟨M_102, hs102, e4102⟩ := scT_un (by decide) hs0102
        rw [e2102, e3102, e4102]
        refine j_iinc (n := 17) (y := nI (k + 1)) (lv2 := [some (.ref 16), some (.int (nI m)), some (.int (nI (k + 1)))]) dX9_entriesThought_14 rfl rfl (by decide) rfl (show nI k + nI 1 = nI (k + 1) by rw [nI_add]) rfl ?_
        refine j_goto (n := 2) dX9_entriesThought_17 rfl ?_
        exact ih _ (by omega) (k + 1) _ rfl (by omega) ((hsc).tr hs102)
  exact loop _ 0 _ rfl (Nat.zero_le _) (scT.rf M)
theorem k_freed (d : Nat) (G : zG) (M : zMem) (X : zX) (hr : kR X) (c : Nat → Nat) (hx : tx M X 17 c) (hR : tR X 17) (b : Nat) (hw : wf c b 9999) (hb : b ≤ 800000000) (n what : Int32) : zCall G miX9_freed (d + 7) [.ref 16, .int n, .int what] (zIr (fun r0 M1 X1 => r0 = r_freed c n what ∧ (X1 = X ∨ X1 = cpX X 79 17) ∧ ∃ M2, scx M M2 ∧ M1 = cm M2 17 c)) (cm M 17 c) X 0 0 := by
  refine zCall.of (lv := [some (.ref 16), some (.int n), some (.int what), none, none, none, none]) (by decide) (Nat.le_of_ble_eq_true rfl) rfl ?_
  have hwf0 := hw
  have h0 := hw.1.1
  have h2 := hw.day
  have h8 := hw.2.1.1
  refine j_iload_n (n := 1) dX9_freed_0 rfl rfl ?_
  refine j_iconst (n := 2) (v := nI 1) dX9_freed_1 rfl rfl ?_
  refine j_icmp_ltT (n := 5) (tg := 20) dX9_freed_2 rfl rfl rfl (i_N (by omega)) (fun h101 => ?_) (fun h101 => ?_)
  · refine j_ldc (n := 22) (v := -1000000001) dX9_freed_20 rfl kX9_71 ?_
    exact j_iret dX9_freed_22 rfl rfl (Nat.le_refl _) (Nat.le_refl _) ⟨_, rfl, (by unfold r_freed; rw [if_pos (by omega)]), .inl rfl, M, scx.rf M, rfl⟩
  · refine j_iload_n (n := 6) dX9_freed_5 rfl rfl ?_
    refine j_bipush (n := 8) (v := nI 60) dX9_freed_6 rfl (by decide) ?_
    refine j_icmp_gtT (n := 11) (tg := 20) dX9_freed_8 rfl rfl rfl (i_N (by omega)) (fun h102 => ?_) (fun h102 => ?_)
    · refine j_ldc (n := 22) (v := -1000000001) dX9_freed_20 rfl kX9_71 ?_
      exact j_iret dX9_freed_22 rfl rfl (Nat.le_refl _) (Nat.le_refl _) ⟨_, rfl, (by unfold r_freed; rw [if_pos (by omega)]), .inl rfl, M, scx.rf M, rfl⟩
    · refine j_iload_n (n := 12) dX9_freed_11 rfl rfl ?_
      refine j_if_ltT (n := 15) (tg := 20) dX9_freed_12 rfl rfl (fun h103 => ?_) (fun h103 => ?_)
      · refine j_ldc (n := 22) (v := -1000000001) dX9_freed_20 rfl kX9_71 ?_
        exact j_iret dX9_freed_22 rfl rfl (Nat.le_refl _) (Nat.le_refl _) ⟨_, rfl, (by unfold r_freed; rw [if_pos (by omega)]), .inl rfl, M, scx.rf M, rfl⟩
      · refine j_iload_n (n := 16) dX9_freed_15 rfl rfl ?_
        refine j_iconst (n := 17) (v := nI 1) dX9_freed_16 rfl rfl ?_
        refine j_icmp_leT (n := 20) (tg := 23) dX9_freed_17 rfl rfl rfl (i_N (by omega)) (fun h104 => ?_) (fun h104 => ?_)
        · obtain ⟨m, hm_, rfl⟩ := i_of (x := n) (n := 61) (by omega) (by omega)
          have em : tN (nI m) = m := tN_nI (by omega)
          have im : (nI m).toInt = m := i_N (by omega)
          obtain ⟨u, hu_, rfl⟩ := i_of (x := what) (n := 2) (by omega) (by omega)
          have eu : tN (nI u) = u := tN_nI (by omega)
          have iu : (nI u).toInt = u := i_N (by omega)
          refine j_aload_n (n := 24) dX9_freed_23 rfl rfl ?_
          refine j_getr (n := 27) (k := 0) (b := 17) dX9_freed_24 rfl fX9_10 (hr).c (by decide) ((hr).hi (by decide)) (hr.f (k := 0) rfl (by decide)) ?_
          refine jc_get (n := 30) (k := 3) (v := nI (c 8)) dX9_freed_27 rfl fX9_120 (hr.1.1).c (hr.1.1).lo ((hr.1.1).hi (by omega)) (cm_r (ix_t rfl)) ?_
          refine j_if_neN (n := 33) (tg := 36) dX9_freed_30 rfl rfl (by omega) (fun h105 => ?_) (fun h105 => ?_)
          · refine j_iconst (n := 37) (v := nI 0) dX9_freed_36 rfl rfl ?_
            refine j_istore_n (n := 38) (lv2 := [some (.ref 16), some (.int (nI m)), some (.int (nI u)), some (.int (nI 0)), none, none, none]) dX9_freed_37 rfl rfl (by decide) rfl ?_
            refine j_iconst (n := 39) (v := (-1)) dX9_freed_38 rfl rfl ?_
            refine j_istore (n := 41) (lv2 := [some (.ref 16), some (.int (nI m)), some (.int (nI u)), some (.int (nI 0)), some (.int (-1)), none, none]) dX9_freed_39 rfl rfl (by decide) rfl ?_
            refine j_iconst (n := 42) (v := nI 0) dX9_freed_41 rfl rfl ?_
            refine j_istore (n := 44) (lv2 := [some (.ref 16), some (.int (nI m)), some (.int (nI u)), some (.int (nI 0)), some (.int (-1)), some (.int (nI 0)), none]) dX9_freed_42 rfl rfl (by decide) rfl ?_
            have loop : ∀ (j l : Nat) (M1 : zMem) (X1 : zX), c 8 - l = j → l ≤ c 8 → scx M M1 → (X1 = X ∨ X1 = cpX X 79 17) → zAt G miX9_freed (zRm (d + 7) 0 0) (zQ G (zIr (fun r0 M1 X1 => r0 = r_freed c (nI m) (nI u) ∧ (X1 = X ∨ X1 = cpX X 79 17) ∧ ∃ M2, scx M M2 ∧ M1 = cm M2 17 c)) 0 0) 44 [some (.ref 16), some (.int (nI m)), some (.int (nI u)), some (.int ((bst (nI 0) (fun l => daysP (pu c (50 + 5 * l + 3) 0) m 3) l).1)), some (.int ((bst (nI 0) (fun l => daysP (pu c (50 + 5 * l + 3) 0) m 3) l).2)), some (.int (nI l)), none] [] (cm M1 17 c) X1 (0, 0) := by
              intro j
              induction j using Nat.strongRecOn with
              | ind j ih =>
                intro l M1 X1 hj hk0 hsc hX1
                have hcp : cpX X1 79 17 = cpX X 79 17 := by rcases hX1 with rfl | rfl; rfl; exact cpX_cpX _ (by decide)
                have hx1 : tx M1 X1 17 c := by rcases hX1 with rfl | rfl; exact tx_scx hx hsc; exact tx_cpX_o (tx_scx hx hsc) (by decide) (by decide)
                have hR1 : tR X1 17 := by rcases hX1 with rfl | rfl; exact hR; exact fun k b hb => hR k b (by rw [cpX_o _ _ _ (by decide) (by decide), cpX_o _ _ _ (by decide) (by decide)] at hb; exact hb)
                have hr : kR X1 := by rcases hX1 with rfl | rfl; exact hr; exact kR_cpX hr (by decide)
                refine j_iload (n := 46) dX9_freed_44 rfl rfl ?_
                refine j_aload_n (n := 47) dX9_freed_46 rfl rfl ?_
                refine j_getr (n := 50) (k := 0) (b := 17) dX9_freed_47 rfl fX9_10 (hr).c (by decide) ((hr).hi (by decide)) (hr.f (k := 0) rfl (by decide)) ?_
                refine jc_get (n := 53) (k := 3) (v := nI (c 8)) dX9_freed_50 rfl fX9_120 (hr.1.1).c (hr.1.1).lo ((hr.1.1).hi (by omega)) (cm_r (ix_t rfl)) ?_
                refine j_icmp_geT (n := 56) (tg := 108) dX9_freed_53 rfl rfl (i_N (by omega)) (i_N (by omega)) (fun h106 => ?_) (fun h106 => ?_)
                · refine j_iload_n (n := 109) dX9_freed_108 rfl rfl ?_
                  refine j_if_neN (n := 112) (tg := 116) dX9_freed_109 rfl rfl (by omega) (fun h107 => ?_) (fun h107 => ?_)
                  · refine j_iload (n := 118) dX9_freed_116 rfl rfl ?_
                    exact j_iret dX9_freed_118 rfl rfl (Nat.le_refl _) (Nat.le_refl _) ⟨_, rfl, (by have el : l = c 8 := (by omega); obtain ⟨n8, hn8⟩ : ∃ n8, c 8 = n8 + 1 := ⟨c 8 - 1, by omega⟩; obtain ⟨kb, hkb, ekb⟩ := bst_k (nI 0) (fun l => daysP (pu c (50 + 5 * l + 3) 0) m 3) n8; unfold r_freed; rw [if_neg (by omega), em, hn8, bst_s (-1) (nI 0), ekb, if_neg (show ¬ (nI kb).toInt < 0 by rw [i_N (by omega)]; omega)]; rw [el, hn8, ekb]; first | (rw [if_pos (by omega)]; done) | rw [if_neg (by omega)]), hX1, M1, hsc, rfl⟩
                  · refine j_iload_n (n := 113) dX9_freed_112 rfl rfl ?_
                    refine j_goto (n := 118) dX9_freed_113 rfl ?_
                    exact j_iret dX9_freed_118 rfl rfl (Nat.le_refl _) (Nat.le_refl _) ⟨_, rfl, (by have el : l = c 8 := (by omega); obtain ⟨n8, hn8⟩ : ∃ n8, c 8 = n8 + 1 := ⟨c 8 - 1, by omega⟩; obtain ⟨kb, hkb, ekb⟩ := bst_k (nI 0) (fun l => daysP (pu c (50 + 5 * l + 3) 0) m 3) n8; unfold r_freed; rw [if_neg (by omega), em, hn8, bst_s (-1) (nI 0), ekb, if_neg (show ¬ (nI kb).toInt < 0 by rw [i_N (by omega)]; omega)]; rw [el, hn8, ekb]; first | (rw [if_pos (by omega)]; done) | rw [if_neg (by omega)]), hX1, M1, hsc, rfl⟩
                · refine j_aload_n (n := 57) dX9_freed_56 rfl rfl ?_
                  refine j_getr (n := 60) (k := 2) (b := 79) dX9_freed_57 rfl fX9_19 (hr).c (by decide) ((hr).hi (by decide)) (hr.f (k := 2) rfl (by decide)) ?_
                  refine j_aload_n (n := 61) dX9_freed_60 rfl rfl ?_
                  refine j_getr (n := 64) (k := 0) (b := 17) dX9_freed_61 rfl fX9_10 (hr).c (by decide) ((hr).hi (by decide)) (hr.f (k := 0) rfl (by decide)) ?_
                  refine j_mem (M2 := cm (cm M1 17 c) 79 (rdT (cm M1 17 c) 79)) (cm_rd _ _).symm ?_
                  refine j_cVv (n := 67) dX9_freed_64 rfl sX9_223 (c_becomeAsT (d + 4) G M1 _ 79 17 hr.1.2.2 hr.1.1 (by decide) _ c hwf0.1 hwf0.2.1 hR1) (by omega) (by decide) rfl rfl (Nat.le_of_ble_eq_true rfl) (hr.1.2.2).c (hr.1.2.2).lo ((hr.1.2.2).hi (by omega)) (by decide) (by decide) ?_
                  have hxe0 := tx_cm (tx_cpX (c := rdT (cm M1 17 c) 79) (B := 79) hx1 (by decide) hwf0.2.2.1.1) 17 c (by decide)
                  have hth0 := lv_as (rdT (cm M1 17 c) 79) c
                  generalize asP (rdT (cm M1 17 c) 79) c = e at hxe0 hth0 ⊢
                  have hwe := lvE_wf hth0 hwf0
                  have hr := kR_cpX hr (B := 79) (F := 17) (by decide)
                  refine j_aload_n (n := 68) dX9_freed_67 rfl rfl ?_
                  refine j_getr (n := 71) (k := 2) (b := 79) dX9_freed_68 rfl fX9_19 (hr).c (by decide) ((hr).hi (by decide)) (hr.f (k := 2) rfl (by decide)) ?_
                  refine j_getr (n := 74) (k := 2) (b := 81) dX9_freed_71 rfl fX9_123 (hr.1.2.2).c (hr.1.2.2).lo ((hr.1.2.2).hi (by omega)) (hr.1.2.2).r2 ?_
                  refine j_iload (n := 76) dX9_freed_74 rfl rfl ?_
                  refine jc_aald (n := 77) (t := 3) (L := 10) (i := l) (b := 79 + 21 + l) dX9_freed_76 rfl ((hr.1.2.2).a2).1 (by decide) rfl ((hr.1.2.2).a2).2 (by omega) (by decide) (by have := (hr.1.2.2).lo; omega) ((hr.1.2.2).hi (by omega)) ((hr.1.2.2).e2 (by omega)) ?_
                  refine j_iconst (n := 78) (v := nI 0) dX9_freed_77 rfl rfl ?_
                  refine jc_put (n := 81) (k := 3) (x := nI 0) (M2 := cm (cm M1 17 c) 79 (pu e (50 + 5 * l + 3) 0)) dX9_freed_78 rfl pX9_144 (fun h => by cases h) rfl rfl ((hr.1.2.2).l (by omega)) (by have := (hr.1.2.2).lo; omega) ((hr.1.2.2).hi (by omega)) (cm_w (ix_l (by omega) (by decide) rfl) _) ?_
                  refine j_aload_n (n := 82) dX9_freed_81 rfl rfl ?_
                  refine j_iload_n (n := 83) dX9_freed_82 rfl rfl ?_
                  refine j_cVr (n := 86) dX9_freed_83 rfl sX9_227 (k_entriesThought d G _ _ hr c _ (hxe0.same (pu_ne _ _ (by omega)) (fun i hi => pu_ne _ _ (by omega))) _ (wf_set0 hwe (by rw [hth0.n (by decide)]; omega)) hb m (by omega)) (by omega) (by decide) rfl rfl (Nat.le_of_ble_eq_true rfl) (hr).c (by decide) ((hr).hi (by decide)) (by decide) (by decide) (fun r109 N109 Y109 hh109 => ?_)
                  obtain ⟨e1109, e2109, M_109, hs109, e3109⟩ := hh109
                  rw [e1109, e2109, e3109]
                  have hll := lv_days (lvE_pu (i := 50 + 5 * l + 3) (v := 0) hth0 (by omega) (by omega) rfl) (wf_set0 hwf0 (l := l) (by omega)) m
                  refine j_top (y := nI (daysP (pu c (50 + 5 * l + 3) 0) m 3)) (congrArg nI (hll.n (by decide))) ?_
                  have hwd := wf_days (wf_set0 hwf0 (l := l) (by omega)) m
                  have h3d := hwd.2.2.2.2.1
                  refine j_istore (n := 88) (lv2 := [some (.ref 16), some (.int (nI m)), some (.int (nI u)), some (.int ((bst (nI 0) (fun l => daysP (pu c (50 + 5 * l + 3) 0) m 3) l).1)), some (.int ((bst (nI 0) (fun l => daysP (pu c (50 + 5 * l + 3) 0) m 3) l).2)), some (.int (nI l)), some (.int (nI (daysP (pu c (50 + 5 * l + 3) 0) m 3)))]) dX9_freed_86 rfl rfl (by decide) rfl ?_
                  refine j_iload (n := 90) dX9_freed_88 rfl rfl ?_
                  refine j_iload (n := 92) dX9_freed_90 rfl rfl ?_
                  refine j_icmp_leT (n := 95) (tg := 102) dX9_freed_92 rfl rfl (i_N (by omega)) rfl (fun h110 => ?_) (fun h110 => ?_)
                  · refine j_iinc (n := 105) (y := nI (l + 1)) (lv2 := [some (.ref 16), some (.int (nI m)), some (.int (nI u)), some (.int ((bst (nI 0) (fun l => daysP (pu c (50 + 5 * l + 3) 0) m 3) l).1)), some (.int ((bst (nI 0) (fun l => daysP (pu c (50 + 5 * l + 3) 0) m 3) l).2)), some (.int (nI (l + 1))), some (.int (nI (daysP (pu c (50 + 5 * l + 3) 0) m 3)))]) dX9_freed_102 rfl rfl (by decide) rfl (show nI l + nI 1 = nI (l + 1) by rw [nI_add]) rfl ?_
                    refine j_goto (n := 44) dX9_freed_105 rfl ?_
                    obtain ⟨M2, hsx, eM⟩ := th_end (c := c) (x := daysP (pu e (50 + 5 * l + 3) 0) m) ((scT.rf M1).tr hs109)
                    rw [eM]
                    have e1 : bst (nI 0) (fun l => daysP (pu c (50 + 5 * l + 3) 0) m 3) (l + 1) = ((bst (nI 0) (fun l => daysP (pu c (50 + 5 * l + 3) 0) m 3) l).1, (bst (nI 0) (fun l => daysP (pu c (50 + 5 * l + 3) 0) m 3) l).2) := by first | (exfalso; omega) | (rw [bst, if_pos (by omega)]; done) | (rw [bst, if_neg (by omega)])
                    refine j_lv (lv2 := [some (.ref 16), some (.int (nI m)), some (.int (nI u)), some (.int ((bst (nI 0) (fun l => daysP (pu c (50 + 5 * l + 3) 0) m 3) (l + 1)).1)), some (.int ((bst (nI 0) (fun l => daysP (pu c (50 + 5 * l + 3) 0) m 3) (l + 1)).2)), some (.int (nI (l + 1))), some (.int (nI (daysP (pu c (50 + 5 * l + 3) 0) m 3)))]) (by rw [e1]) ?_
                    refine j_wk (lv2 := [some (.ref 16), some (.int (nI m)), some (.int (nI u)), some (.int ((bst (nI 0) (fun l => daysP (pu c (50 + 5 * l + 3) 0) m 3) (l + 1)).1)), some (.int ((bst (nI 0) (fun l => daysP (pu c (50 + 5 * l + 3) 0) m 3) (l + 1)).2)), some (.int (nI (l + 1))), none]) ⟨rfl, rfl, rfl, rfl, rfl, rfl, trivial⟩ ?_
                    exact ih _ (by omega) (l + 1) M2 _ rfl (by omega) (hsc.tr hsx) (.inr hcp)
                  · refine j_iload (n := 97) dX9_freed_95 rfl rfl ?_
                    refine j_istore_n (n := 98) (lv2 := [some (.ref 16), some (.int (nI m)), some (.int (nI u)), some (.int (nI l)), some (.int ((bst (nI 0) (fun l => daysP (pu c (50 + 5 * l + 3) 0) m 3) l).2)), some (.int (nI l)), some (.int (nI (daysP (pu c (50 + 5 * l + 3) 0) m 3)))]) dX9_freed_97 rfl rfl (by decide) rfl ?_
                    refine j_iload (n := 100) dX9_freed_98 rfl rfl ?_
                    refine j_istore (n := 102) (lv2 := [some (.ref 16), some (.int (nI m)), some (.int (nI u)), some (.int (nI l)), some (.int (nI (daysP (pu c (50 + 5 * l + 3) 0) m 3))), some (.int (nI l)), some (.int (nI (daysP (pu c (50 + 5 * l + 3) 0) m 3)))]) dX9_freed_100 rfl rfl (by decide) rfl ?_
                    refine j_iinc (n := 105) (y := nI (l + 1)) (lv2 := [some (.ref 16), some (.int (nI m)), some (.int (nI u)), some (.int (nI l)), some (.int (nI (daysP (pu c (50 + 5 * l + 3) 0) m 3))), some (.int (nI (l + 1))), some (.int (nI (daysP (pu c (50 + 5 * l + 3) 0) m 3)))]) dX9_freed_102 rfl rfl (by decide) rfl (show nI l + nI 1 = nI (l + 1) by rw [nI_add]) rfl ?_
                    refine j_goto (n := 44) dX9_freed_105 rfl ?_
                    obtain ⟨M2, hsx, eM⟩ := th_end (c := c) (x := daysP (pu e (50 + 5 * l + 3) 0) m) ((scT.rf M1).tr hs109)
                    rw [eM]
                    have e1 : bst (nI 0) (fun l => daysP (pu c (50 + 5 * l + 3) 0) m 3) (l + 1) = (nI l, nI (daysP (pu c (50 + 5 * l + 3) 0) m 3)) := by first | (exfalso; omega) | (rw [bst, if_pos (by omega)]; done) | (rw [bst, if_neg (by omega)])
                    refine j_lv (lv2 := [some (.ref 16), some (.int (nI m)), some (.int (nI u)), some (.int ((bst (nI 0) (fun l => daysP (pu c (50 + 5 * l + 3) 0) m 3) (l + 1)).1)), some (.int ((bst (nI 0) (fun l => daysP (pu c (50 + 5 * l + 3) 0) m 3) (l + 1)).2)), some (.int (nI (l + 1))), some (.int (nI (daysP (pu c (50 + 5 * l + 3) 0) m 3)))]) (by rw [e1]) ?_
                    refine j_wk (lv2 := [some (.ref 16), some (.int (nI m)), some (.int (nI u)), some (.int ((bst (nI 0) (fun l => daysP (pu c (50 + 5 * l + 3) 0) m 3) (l + 1)).1)), some (.int ((bst (nI 0) (fun l => daysP (pu c (50 + 5 * l + 3) 0) m 3) (l + 1)).2)), some (.int (nI (l + 1))), none]) ⟨rfl, rfl, rfl, rfl, rfl, rfl, trivial⟩ ?_
                    exact ih _ (by omega) (l + 1) M2 _ rfl (by omega) (hsc.tr hsx) (.inr hcp)
            refine j_wk (lv2 := [some (.ref 16), some (.int (nI m)), some (.int (nI u)), some (.int ((bst (nI 0) (fun l => daysP (pu c (50 + 5 * l + 3) 0) m 3) 0).1)), some (.int ((bst (nI 0) (fun l => daysP (pu c (50 + 5 * l + 3) 0) m 3) 0).2)), some (.int (nI 0)), none]) ⟨rfl, rfl, rfl, rfl, rfl, rfl, trivial⟩ ?_
            exact loop _ 0 M X rfl (Nat.zero_le _) (scx.rf M) (.inl rfl)
          · refine j_ldc (n := 35) (v := -1000000005) dX9_freed_33 rfl kX9_219 ?_
            exact j_iret dX9_freed_35 rfl rfl (Nat.le_refl _) (Nat.le_refl _) ⟨_, rfl, (by unfold r_freed; rw [if_neg (by omega), show c 8 = 0 by omega]; exact (if_pos (show ((-1 : Int32)).toInt < 0 by decide)).symm), .inl rfl, M, scx.rf M, rfl⟩
        · refine j_ldc (n := 22) (v := -1000000001) dX9_freed_20 rfl kX9_71 ?_
          exact j_iret dX9_freed_22 rfl rfl (Nat.le_refl _) (Nat.le_refl _) ⟨_, rfl, (by unfold r_freed; rw [if_pos (by omega)]), .inl rfl, M, scx.rf M, rfl⟩
theorem k_becomes (d : Nat) (G : zG) (M : zMem) (X : zX) (hr : kR X) (c : Nat → Nat) (hx : tx M X 17 c) (hR : tR X 17) (b : Nat) (hw : wf c b 9999) (hb : b ≤ 800000000) (one n what : Int32) : zCall G miX9_becomes (d + 7) [.ref 16, .int one, .int n, .int what] (zIr (fun r0 M1 X1 => r0 = r_becomes c one n what ∧ (X1 = X ∨ X1 = cpX X 79 17) ∧ ∃ M2, scx M M2 ∧ M1 = cm M2 17 c)) (cm M 17 c) X 0 0 := by
  refine zCall.of (lv := [some (.ref 16), some (.int one), some (.int n), some (.int what), none, none, none, none]) (by decide) (Nat.le_of_ble_eq_true rfl) rfl ?_
  have hwf0 := hw
  have h0 := hw.1.1
  have h2 := hw.day
  have h8 := hw.2.1.1
  refine j_aload_n (n := 1) dX9_becomes_0 rfl rfl ?_
  refine j_iload_n (n := 2) dX9_becomes_1 rfl rfl ?_
  refine j_cV (n := 5) dX9_becomes_2 rfl sX9_87 (k_isOne (d + 6) G _ _ hr _ (by omega) _) (by omega) (by decide) rfl rfl (Nat.le_of_ble_eq_true rfl) (hr).c (by decide) ((hr).hi (by decide)) (by decide) (by decide) ?_
  refine j_if_eqB (n := 8) (tg := 28) dX9_becomes_5 rfl rfl (fun h101 => ?_) (fun h101 => ?_)
  · refine j_ldc (n := 30) (v := -1000000001) dX9_becomes_28 rfl kX9_71 ?_
    exact j_iret dX9_becomes_30 rfl rfl (Nat.le_refl _) (Nat.le_refl _) ⟨_, rfl, (by unfold r_becomes; rw [if_pos (by omega)]), .inl rfl, M, scx.rf M, rfl⟩
  · refine j_iload_n (n := 9) dX9_becomes_8 rfl rfl ?_
    refine j_iconst (n := 10) (v := nI 1) dX9_becomes_9 rfl rfl ?_
    refine j_icmp_ltT (n := 13) (tg := 28) dX9_becomes_10 rfl rfl rfl (i_N (by omega)) (fun h102 => ?_) (fun h102 => ?_)
    · refine j_ldc (n := 30) (v := -1000000001) dX9_becomes_28 rfl kX9_71 ?_
      exact j_iret dX9_becomes_30 rfl rfl (Nat.le_refl _) (Nat.le_refl _) ⟨_, rfl, (by unfold r_becomes; rw [if_pos (by omega)]), .inl rfl, M, scx.rf M, rfl⟩
    · refine j_iload_n (n := 14) dX9_becomes_13 rfl rfl ?_
      refine j_bipush (n := 16) (v := nI 60) dX9_becomes_14 rfl (by decide) ?_
      refine j_icmp_gtT (n := 19) (tg := 28) dX9_becomes_16 rfl rfl rfl (i_N (by omega)) (fun h103 => ?_) (fun h103 => ?_)
      · refine j_ldc (n := 30) (v := -1000000001) dX9_becomes_28 rfl kX9_71 ?_
        exact j_iret dX9_becomes_30 rfl rfl (Nat.le_refl _) (Nat.le_refl _) ⟨_, rfl, (by unfold r_becomes; rw [if_pos (by omega)]), .inl rfl, M, scx.rf M, rfl⟩
      · refine j_iload_n (n := 20) dX9_becomes_19 rfl rfl ?_
        refine j_if_ltT (n := 23) (tg := 28) dX9_becomes_20 rfl rfl (fun h104 => ?_) (fun h104 => ?_)
        · refine j_ldc (n := 30) (v := -1000000001) dX9_becomes_28 rfl kX9_71 ?_
          exact j_iret dX9_becomes_30 rfl rfl (Nat.le_refl _) (Nat.le_refl _) ⟨_, rfl, (by unfold r_becomes; rw [if_pos (by omega)]), .inl rfl, M, scx.rf M, rfl⟩
        · refine j_iload_n (n := 24) dX9_becomes_23 rfl rfl ?_
          refine j_iconst (n := 25) (v := nI 1) dX9_becomes_24 rfl rfl ?_
          refine j_icmp_leT (n := 28) (tg := 31) dX9_becomes_25 rfl rfl rfl (i_N (by omega)) (fun h105 => ?_) (fun h105 => ?_)
          · obtain ⟨k, hk_, rfl⟩ := i_of (x := one) (n := c 0) (by omega) (by omega)
            have ek : tN (nI k) = k := tN_nI (by omega)
            have ik : (nI k).toInt = k := i_N (by omega)
            obtain ⟨m, hm_, rfl⟩ := i_of (x := n) (n := 61) (by omega) (by omega)
            have em : tN (nI m) = m := tN_nI (by omega)
            have im : (nI m).toInt = m := i_N (by omega)
            obtain ⟨u, hu_, rfl⟩ := i_of (x := what) (n := 2) (by omega) (by omega)
            have eu : tN (nI u) = u := tN_nI (by omega)
            have iu : (nI u).toInt = u := i_N (by omega)
            refine j_iconst (n := 32) (v := nI 0) dX9_becomes_31 rfl rfl ?_
            refine j_istore (n := 34) (lv2 := [some (.ref 16), some (.int (nI k)), some (.int (nI m)), some (.int (nI u)), some (.int (nI 0)), none, none, none]) dX9_becomes_32 rfl rfl (by decide) rfl ?_
            refine j_iconst (n := 35) (v := (-1)) dX9_becomes_34 rfl rfl ?_
            refine j_istore (n := 37) (lv2 := [some (.ref 16), some (.int (nI k)), some (.int (nI m)), some (.int (nI u)), some (.int (nI 0)), some (.int (-1)), none, none]) dX9_becomes_35 rfl rfl (by decide) rfl ?_
            refine j_iconst (n := 38) (v := nI 0) dX9_becomes_37 rfl rfl ?_
            refine j_istore (n := 40) (lv2 := [some (.ref 16), some (.int (nI k)), some (.int (nI m)), some (.int (nI u)), some (.int (nI 0)), some (.int (-1)), some (.int (nI 0)), none]) dX9_becomes_38 rfl rfl (by decide) rfl ?_
            have loop : ∀ (j q : Nat) (M1 : zMem) (X1 : zX), 6 - q = j → q ≤ 6 → scx M M1 → (X1 = X ∨ X1 = cpX X 79 17) → zAt G miX9_becomes (zRm (d + 7) 0 0) (zQ G (zIr (fun r0 M1 X1 => r0 = r_becomes c (nI k) (nI m) (nI u) ∧ (X1 = X ∨ X1 = cpX X 79 17) ∧ ∃ M2, scx M M2 ∧ M1 = cm M2 17 c)) 0 0) 40 [some (.ref 16), some (.int (nI k)), some (.int (nI m)), some (.int (nI u)), some (.int ((bst (nI 0) (fun q => daysP (pu c (10 + 5 * k + 0) q) m 3) q).1)), some (.int ((bst (nI 0) (fun q => daysP (pu c (10 + 5 * k + 0) q) m 3) q).2)), some (.int (nI q)), none] [] (cm M1 17 c) X1 (0, 0) := by
              intro j
              induction j using Nat.strongRecOn with
              | ind j ih =>
                intro q M1 X1 hj hk0 hsc hX1
                have hcp : cpX X1 79 17 = cpX X 79 17 := by rcases hX1 with rfl | rfl; rfl; exact cpX_cpX _ (by decide)
                have hx1 : tx M1 X1 17 c := by rcases hX1 with rfl | rfl; exact tx_scx hx hsc; exact tx_cpX_o (tx_scx hx hsc) (by decide) (by decide)
                have hR1 : tR X1 17 := by rcases hX1 with rfl | rfl; exact hR; exact fun k b hb => hR k b (by rw [cpX_o _ _ _ (by decide) (by decide), cpX_o _ _ _ (by decide) (by decide)] at hb; exact hb)
                have hr : kR X1 := by rcases hX1 with rfl | rfl; exact hr; exact kR_cpX hr (by decide)
                refine j_iload (n := 42) dX9_becomes_40 rfl rfl ?_
                refine j_bipush (n := 44) (v := nI 6) dX9_becomes_42 rfl (by decide) ?_
                refine j_icmp_geT (n := 47) (tg := 100) dX9_becomes_44 rfl rfl (i_N (by omega)) (i_N (by omega)) (fun h106 => ?_) (fun h106 => ?_)
                · refine j_iload_n (n := 101) dX9_becomes_100 rfl rfl ?_
                  refine j_if_neN (n := 104) (tg := 109) dX9_becomes_101 rfl rfl (by omega) (fun h107 => ?_) (fun h107 => ?_)
                  · refine j_iload (n := 111) dX9_becomes_109 rfl rfl ?_
                    exact j_iret dX9_becomes_111 rfl rfl (Nat.le_refl _) (Nat.le_refl _) ⟨_, rfl, (by have eq6 : q = 6 := (by omega); subst eq6; unfold r_becomes; rw [if_neg (by omega), em, ek]; first | (rw [if_pos (by omega)]; done) | rw [if_neg (by omega)]), hX1, M1, hsc, rfl⟩
                  · refine j_iload (n := 106) dX9_becomes_104 rfl rfl ?_
                    refine j_goto (n := 111) dX9_becomes_106 rfl ?_
                    exact j_iret dX9_becomes_111 rfl rfl (Nat.le_refl _) (Nat.le_refl _) ⟨_, rfl, (by have eq6 : q = 6 := (by omega); subst eq6; unfold r_becomes; rw [if_neg (by omega), em, ek]; first | (rw [if_pos (by omega)]; done) | rw [if_neg (by omega)]), hX1, M1, hsc, rfl⟩
                · refine j_aload_n (n := 48) dX9_becomes_47 rfl rfl ?_
                  refine j_getr (n := 51) (k := 2) (b := 79) dX9_becomes_48 rfl fX9_19 (hr).c (by decide) ((hr).hi (by decide)) (hr.f (k := 2) rfl (by decide)) ?_
                  refine j_aload_n (n := 52) dX9_becomes_51 rfl rfl ?_
                  refine j_getr (n := 55) (k := 0) (b := 17) dX9_becomes_52 rfl fX9_10 (hr).c (by decide) ((hr).hi (by decide)) (hr.f (k := 0) rfl (by decide)) ?_
                  refine j_mem (M2 := cm (cm M1 17 c) 79 (rdT (cm M1 17 c) 79)) (cm_rd _ _).symm ?_
                  refine j_cVv (n := 58) dX9_becomes_55 rfl sX9_223 (c_becomeAsT (d + 4) G M1 _ 79 17 hr.1.2.2 hr.1.1 (by decide) _ c hwf0.1 hwf0.2.1 hR1) (by omega) (by decide) rfl rfl (Nat.le_of_ble_eq_true rfl) (hr.1.2.2).c (hr.1.2.2).lo ((hr.1.2.2).hi (by omega)) (by decide) (by decide) ?_
                  have hxe0 := tx_cm (tx_cpX (c := rdT (cm M1 17 c) 79) (B := 79) hx1 (by decide) hwf0.2.2.1.1) 17 c (by decide)
                  have hth0 := lv_as (rdT (cm M1 17 c) 79) c
                  generalize asP (rdT (cm M1 17 c) 79) c = e at hxe0 hth0 ⊢
                  have hwe := lvE_wf hth0 hwf0
                  have hr := kR_cpX hr (B := 79) (F := 17) (by decide)
                  refine j_aload_n (n := 59) dX9_becomes_58 rfl rfl ?_
                  refine j_getr (n := 62) (k := 2) (b := 79) dX9_becomes_59 rfl fX9_19 (hr).c (by decide) ((hr).hi (by decide)) (hr.f (k := 2) rfl (by decide)) ?_
                  refine j_getr (n := 65) (k := 0) (b := 80) dX9_becomes_62 rfl fX9_77 (hr.1.2.2).c (hr.1.2.2).lo ((hr.1.2.2).hi (by omega)) (hr.1.2.2).r0 ?_
                  refine j_iload_n (n := 66) dX9_becomes_65 rfl rfl ?_
                  refine jc_aald (n := 67) (t := 2) (L := 8) (i := k) (b := 79 + 5 + 2 * k) dX9_becomes_66 rfl ((hr.1.2.2).a1).1 (by decide) rfl ((hr.1.2.2).a1).2 (by omega) (by decide) (by have := (hr.1.2.2).lo; omega) ((hr.1.2.2).hi (by omega)) ((hr.1.2.2).e1 (by omega)) ?_
                  refine j_iload (n := 69) dX9_becomes_67 rfl rfl ?_
                  refine jc_put (n := 72) (k := 0) (x := nI q) (M2 := cm (cm M1 17 c) 79 (pu e (10 + 5 * k + 0) q)) dX9_becomes_69 rfl pX9_90 (fun h => by cases h) rfl rfl ((hr.1.2.2).p (by omega)).2.2.1 ((hr.1.2.2).p (by omega)).1 ((hr.1.2.2).hi (by omega)) (cm_w (ix_p (by omega) (by decide) rfl) _) ?_
                  refine j_aload_n (n := 73) dX9_becomes_72 rfl rfl ?_
                  refine j_iload_n (n := 74) dX9_becomes_73 rfl rfl ?_
                  refine j_cVr (n := 77) dX9_becomes_74 rfl sX9_227 (k_entriesThought d G _ _ hr c _ (hxe0.same (pu_ne _ _ (by omega)) (fun i hi => pu_ne _ _ (by omega))) _ (wf_kind hwe (by rw [hth0.n (by decide)]; omega) (by omega)) hb m (by omega)) (by omega) (by decide) rfl rfl (Nat.le_of_ble_eq_true rfl) (hr).c (by decide) ((hr).hi (by decide)) (by decide) (by decide) (fun r109 N109 Y109 hh109 => ?_)
                  obtain ⟨e1109, e2109, M_109, hs109, e3109⟩ := hh109
                  rw [e1109, e2109, e3109]
                  have hll := lv_days (lvE_pu (i := 10 + 5 * k + 0) (v := q) hth0 (by omega) (by omega) rfl) (wf_kind hwf0 (k := k) (v := q) (by omega) (by omega)) m
                  refine j_top (y := nI (daysP (pu c (10 + 5 * k + 0) q) m 3)) (congrArg nI (hll.n (by decide))) ?_
                  have hwd := wf_days (wf_kind hwf0 (k := k) (v := q) (by omega) (by omega)) m
                  have h3d := hwd.2.2.2.2.1
                  refine j_istore (n := 79) (lv2 := [some (.ref 16), some (.int (nI k)), some (.int (nI m)), some (.int (nI u)), some (.int ((bst (nI 0) (fun q => daysP (pu c (10 + 5 * k + 0) q) m 3) q).1)), some (.int ((bst (nI 0) (fun q => daysP (pu c (10 + 5 * k + 0) q) m 3) q).2)), some (.int (nI q)), some (.int (nI (daysP (pu c (10 + 5 * k + 0) q) m 3)))]) dX9_becomes_77 rfl rfl (by decide) rfl ?_
                  refine j_iload (n := 81) dX9_becomes_79 rfl rfl ?_
                  refine j_iload (n := 83) dX9_becomes_81 rfl rfl ?_
                  refine j_icmp_leT (n := 86) (tg := 94) dX9_becomes_83 rfl rfl (i_N (by omega)) rfl (fun h110 => ?_) (fun h110 => ?_)
                  · refine j_iinc (n := 97) (y := nI (q + 1)) (lv2 := [some (.ref 16), some (.int (nI k)), some (.int (nI m)), some (.int (nI u)), some (.int ((bst (nI 0) (fun q => daysP (pu c (10 + 5 * k + 0) q) m 3) q).1)), some (.int ((bst (nI 0) (fun q => daysP (pu c (10 + 5 * k + 0) q) m 3) q).2)), some (.int (nI (q + 1))), some (.int (nI (daysP (pu c (10 + 5 * k + 0) q) m 3)))]) dX9_becomes_94 rfl rfl (by decide) rfl (show nI q + nI 1 = nI (q + 1) by rw [nI_add]) rfl ?_
                    refine j_goto (n := 40) dX9_becomes_97 rfl ?_
                    obtain ⟨M2, hsx, eM⟩ := th_end (c := c) (x := daysP (pu e (10 + 5 * k + 0) q) m) ((scT.rf M1).tr hs109)
                    rw [eM]
                    have e1 : bst (nI 0) (fun q => daysP (pu c (10 + 5 * k + 0) q) m 3) (q + 1) = ((bst (nI 0) (fun q => daysP (pu c (10 + 5 * k + 0) q) m 3) q).1, (bst (nI 0) (fun q => daysP (pu c (10 + 5 * k + 0) q) m 3) q).2) := by first | (exfalso; omega) | (rw [bst, if_pos (by omega)]; done) | (rw [bst, if_neg (by omega)])
                    refine j_lv (lv2 := [some (.ref 16), some (.int (nI k)), some (.int (nI m)), some (.int (nI u)), some (.int ((bst (nI 0) (fun q => daysP (pu c (10 + 5 * k + 0) q) m 3) (q + 1)).1)), some (.int ((bst (nI 0) (fun q => daysP (pu c (10 + 5 * k + 0) q) m 3) (q + 1)).2)), some (.int (nI (q + 1))), some (.int (nI (daysP (pu c (10 + 5 * k + 0) q) m 3)))]) (by rw [e1]) ?_
                    refine j_wk (lv2 := [some (.ref 16), some (.int (nI k)), some (.int (nI m)), some (.int (nI u)), some (.int ((bst (nI 0) (fun q => daysP (pu c (10 + 5 * k + 0) q) m 3) (q + 1)).1)), some (.int ((bst (nI 0) (fun q => daysP (pu c (10 + 5 * k + 0) q) m 3) (q + 1)).2)), some (.int (nI (q + 1))), none]) ⟨rfl, rfl, rfl, rfl, rfl, rfl, rfl, trivial⟩ ?_
                    exact ih _ (by omega) (q + 1) M2 _ rfl (by omega) (hsc.tr hsx) (.inr hcp)
                  · refine j_iload (n := 88) dX9_becomes_86 rfl rfl ?_
                    refine j_istore (n := 90) (lv2 := [some (.ref 16), some (.int (nI k)), some (.int (nI m)), some (.int (nI u)), some (.int (nI q)), some (.int ((bst (nI 0) (fun q => daysP (pu c (10 + 5 * k + 0) q) m 3) q).2)), some (.int (nI q)), some (.int (nI (daysP (pu c (10 + 5 * k + 0) q) m 3)))]) dX9_becomes_88 rfl rfl (by decide) rfl ?_
                    refine j_iload (n := 92) dX9_becomes_90 rfl rfl ?_
                    refine j_istore (n := 94) (lv2 := [some (.ref 16), some (.int (nI k)), some (.int (nI m)), some (.int (nI u)), some (.int (nI q)), some (.int (nI (daysP (pu c (10 + 5 * k + 0) q) m 3))), some (.int (nI q)), some (.int (nI (daysP (pu c (10 + 5 * k + 0) q) m 3)))]) dX9_becomes_92 rfl rfl (by decide) rfl ?_
                    refine j_iinc (n := 97) (y := nI (q + 1)) (lv2 := [some (.ref 16), some (.int (nI k)), some (.int (nI m)), some (.int (nI u)), some (.int (nI q)), some (.int (nI (daysP (pu c (10 + 5 * k + 0) q) m 3))), some (.int (nI (q + 1))), some (.int (nI (daysP (pu c (10 + 5 * k + 0) q) m 3)))]) dX9_becomes_94 rfl rfl (by decide) rfl (show nI q + nI 1 = nI (q + 1) by rw [nI_add]) rfl ?_
                    refine j_goto (n := 40) dX9_becomes_97 rfl ?_
                    obtain ⟨M2, hsx, eM⟩ := th_end (c := c) (x := daysP (pu e (10 + 5 * k + 0) q) m) ((scT.rf M1).tr hs109)
                    rw [eM]
                    have e1 : bst (nI 0) (fun q => daysP (pu c (10 + 5 * k + 0) q) m 3) (q + 1) = (nI q, nI (daysP (pu c (10 + 5 * k + 0) q) m 3)) := by first | (exfalso; omega) | (rw [bst, if_pos (by omega)]; done) | (rw [bst, if_neg (by omega)])
                    refine j_lv (lv2 := [some (.ref 16), some (.int (nI k)), some (.int (nI m)), some (.int (nI u)), some (.int ((bst (nI 0) (fun q => daysP (pu c (10 + 5 * k + 0) q) m 3) (q + 1)).1)), some (.int ((bst (nI 0) (fun q => daysP (pu c (10 + 5 * k + 0) q) m 3) (q + 1)).2)), some (.int (nI (q + 1))), some (.int (nI (daysP (pu c (10 + 5 * k + 0) q) m 3)))]) (by rw [e1]) ?_
                    refine j_wk (lv2 := [some (.ref 16), some (.int (nI k)), some (.int (nI m)), some (.int (nI u)), some (.int ((bst (nI 0) (fun q => daysP (pu c (10 + 5 * k + 0) q) m 3) (q + 1)).1)), some (.int ((bst (nI 0) (fun q => daysP (pu c (10 + 5 * k + 0) q) m 3) (q + 1)).2)), some (.int (nI (q + 1))), none]) ⟨rfl, rfl, rfl, rfl, rfl, rfl, rfl, trivial⟩ ?_
                    exact ih _ (by omega) (q + 1) M2 _ rfl (by omega) (hsc.tr hsx) (.inr hcp)
            refine j_wk (lv2 := [some (.ref 16), some (.int (nI k)), some (.int (nI m)), some (.int (nI u)), some (.int ((bst (nI 0) (fun q => daysP (pu c (10 + 5 * k + 0) q) m 3) 0).1)), some (.int ((bst (nI 0) (fun q => daysP (pu c (10 + 5 * k + 0) q) m 3) 0).2)), some (.int (nI 0)), none]) ⟨rfl, rfl, rfl, rfl, rfl, rfl, rfl, trivial⟩ ?_
            exact loop _ 0 M X rfl (Nat.zero_le _) (scx.rf M) (.inl rfl)
          · refine j_ldc (n := 30) (v := -1000000001) dX9_becomes_28 rfl kX9_71 ?_
            exact j_iret dX9_becomes_30 rfl rfl (Nat.le_refl _) (Nat.le_refl _) ⟨_, rfl, (by unfold r_becomes; rw [if_pos (by omega)]), .inl rfl, M, scx.rf M, rfl⟩
theorem keep_w (M : zMem) (c e : Nat → Nat) : zs (cm (cm M 17 c) 48 e) 16 (upd ((cm (cm M 17 c) 48 e) 16) 3 (nI 1)) = cm (cm (zs M 16 (upd (M 16) 3 (nI 1))) 17 c) 48 e := by
  rw [cm_o (ix_n (by decide)), cm_o (ix_n (by decide)), cm_wo (ix_n (by decide)), cm_wo (ix_n (by decide))]
theorem k_keep (d : Nat) (G : zG) (M : zMem) (X : zX) (hr : kR X) (c : Nat → Nat) (hwO : wfO c) (hwl : wfL c) (hR : tR X 17) : zCall G miX9_keep (d + 3) [.ref 16] (zI (nI (c 0)) (cm (cm (zs M 16 (upd (M 16) 3 (nI 1))) 17 c) 48 (asP (rdT (cm M 17 c) 48) c)) (cpX X 48 17)) (cm M 17 c) X 0 0 := by
  refine zCall.of (lv := [some (.ref 16)]) (by decide) (Nat.le_of_ble_eq_true rfl) rfl ?_
  refine j_aload_n (n := 1) dX9_keep_0 rfl rfl ?_
  refine j_getr (n := 4) (k := 1) (b := 48) dX9_keep_1 rfl fX9_16 (hr).c (by decide) ((hr).hi (by decide)) (hr.f (k := 1) rfl (by decide)) ?_
  refine j_aload_n (n := 5) dX9_keep_4 rfl rfl ?_
  refine j_getr (n := 8) (k := 0) (b := 17) dX9_keep_5 rfl fX9_10 (hr).c (by decide) ((hr).hi (by decide)) (hr.f (k := 0) rfl (by decide)) ?_
  refine j_mem (M2 := cm (cm M 17 c) 48 (rdT (cm M 17 c) 48)) (cm_rd _ _).symm ?_
  refine j_cVv (n := 11) dX9_keep_8 rfl sX9_223 (c_becomeAsT d G M _ 48 17 hr.1.2.1 hr.1.1 (by decide) _ c hwO hwl hR) (by omega) (by decide) rfl rfl (Nat.le_of_ble_eq_true rfl) (hr.1.2.1).c (hr.1.2.1).lo ((hr.1.2.1).hi (by omega)) (by decide) (by decide) ?_
  have hr := kR_cpX hr (B := 48) (F := 17) (by decide)
  refine j_aload_n (n := 12) dX9_keep_11 rfl rfl ?_
  refine j_iconst (n := 13) (v := nI 1) dX9_keep_12 rfl rfl ?_
  refine jc_put (n := 16) (k := 3) (x := nI 1) (M2 := cm (cm (zs M 16 (upd (M 16) 3 (nI 1))) 17 c) 48 (asP (rdT (cm M 17 c) 48) c)) dX9_keep_13 rfl pX9_338 (fun h => by cases h) rfl rfl (hr).c (by decide) ((hr).hi (by decide)) (keep_w _ _ _) ?_
  refine j_aload_n (n := 17) dX9_keep_16 rfl rfl ?_
  refine j_getr (n := 20) (k := 0) (b := 17) dX9_keep_17 rfl fX9_10 (hr).c (by decide) ((hr).hi (by decide)) (hr.f (k := 0) rfl (by decide)) ?_
  refine jc_get (n := 23) (k := 1) (v := nI (c 0)) dX9_keep_20 rfl fX9_72 (hr.1.1).c (hr.1.1).lo ((hr.1.1).hi (by omega)) ((cm_k (ix_far (by decide) (ix_t rfl))).trans (cm_r (ix_t rfl))) ?_
  exact j_ri dX9_keep_23 rfl (Nat.le_refl _) (Nat.le_refl _) rfl rfl rfl
def r_backC (k : Nat) (f : Nat → Nat) : Int32 := if k = 0 then cNO else nI (f 0)
theorem k_back (d : Nat) (G : zG) (M : zMem) (X : zX) (hr : kR X) (c f : Nat → Nat) (b D : Nat) (hwi : ¬ tN (M 16 3) = 0 → wf f b D) (hR : tR X 48) (hb1 : tN (M 16 3) ≤ 1) : zCall G miX9_back (d + 3) [.ref 16] (zIr (fun r0 M1 X1 => (tN (M 16 3) = 0 ∧ r0 = r_backC (tN (M 16 3)) f ∧ M1 = cm (cm M 48 f) 17 c ∧ X1 = X) ∨ (¬ tN (M 16 3) = 0 ∧ r0 = r_backC (tN (M 16 3)) f ∧ M1 = cm (cm M 48 f) 17 (asP c f) ∧ X1 = cpX X 17 48))) (cm (cm M 48 f) 17 c) X 0 0 := by
  refine zCall.of (lv := [some (.ref 16)]) (by decide) (Nat.le_of_ble_eq_true rfl) rfl ?_
  refine j_aload_n (n := 1) dX9_back_0 rfl rfl ?_
  refine jc_get (n := 4) (k := 3) (v := nI (tN (M 16 3))) dX9_back_1 rfl fX9_338 (hr).c (by decide) ((hr).hi (by decide)) ((congrFun (cm_o (ix_n (by omega))) _).trans ((congrFun (cm_o (ix_n (by omega))) _).trans ((show _ = M 16 3 from rfl).trans (nI_tN _).symm))) ?_
  refine j_if_neN (n := 7) (tg := 10) dX9_back_4 rfl rfl (by omega) (fun h101 => ?_) (fun h101 => ?_)
  · have h9 : ¬ tN (M 16 3) = 0 := by omega
    refine j_aload_n (n := 11) dX9_back_10 rfl rfl ?_
    refine j_getr (n := 14) (k := 0) (b := 17) dX9_back_11 rfl fX9_10 (hr).c (by decide) ((hr).hi (by decide)) (hr.f (k := 0) rfl (by decide)) ?_
    refine j_aload_n (n := 15) dX9_back_14 rfl rfl ?_
    refine j_getr (n := 18) (k := 1) (b := 48) dX9_back_15 rfl fX9_16 (hr).c (by decide) ((hr).hi (by decide)) (hr.f (k := 1) rfl (by decide)) ?_
    refine j_cVv (n := 21) dX9_back_18 rfl sX9_223 (c_becomeAsT d G M _ 17 48 hr.1.1 hr.1.2.1 (by decide) c f (hwi h9).1 (hwi h9).2.1 hR) (by omega) (by decide) rfl rfl (Nat.le_of_ble_eq_true rfl) (hr.1.1).c (hr.1.1).lo ((hr.1.1).hi (by omega)) (by decide) (by decide) ?_
    have hr := kR_cpX hr (B := 17) (F := 48) (by decide)
    refine j_aload_n (n := 22) dX9_back_21 rfl rfl ?_
    refine j_getr (n := 25) (k := 0) (b := 17) dX9_back_22 rfl fX9_10 (hr).c (by decide) ((hr).hi (by decide)) (hr.f (k := 0) rfl (by decide)) ?_
    refine jc_get (n := 28) (k := 1) (v := nI ((asP c f) 0)) dX9_back_25 rfl fX9_72 (hr.1.1).c (hr.1.1).lo ((hr.1.1).hi (by omega)) (cm_r (ix_t rfl)) ?_
    exact j_iret dX9_back_28 rfl rfl (Nat.le_refl _) (Nat.le_refl _) ⟨_, rfl, .inr ⟨h9, by unfold r_backC; rw [if_neg h9]; rfl, rfl, rfl⟩⟩
  · refine j_ldc (n := 9) (v := -1000000002) dX9_back_7 rfl kX9_158 ?_
    exact j_iret dX9_back_9 rfl rfl (Nat.le_refl _) (Nat.le_refl _) ⟨_, rfl, .inl ⟨by omega, by unfold r_backC; rw [if_pos (by omega)], rfl, rfl⟩⟩
