-- MODEL B: by program (wip/whole/gen/b2.py)
theorem c_comes (d : Nat) (G : zG) (M : zMem) (X : zX) (hk : kM X) (p : Nat → Nat) (hn : p 0 ≤ 8) (kd rm a b e : Nat) : zCall G miX10_comes (d + 1) [.ref 160, .int (nI kd), .int (nI rm), .int (nI a), .int (nI b), .int (nI e)] (zV (mm M (comesP p kd rm a b e)) X) (mm M p) X 0 0 := by
  refine zCall.of (lv := [some (.ref 160), some (.int (nI kd)), some (.int (nI rm)), some (.int (nI a)), some (.int (nI b)), some (.int (nI e)), none]) (by decide) (Nat.le_of_ble_eq_true rfl) rfl ?_
  refine j_aload_n (n := 1) dX10_comes_0 rfl rfl ?_
  refine jm_get (n := 4) (k := 0) (b := 161) dX10_comes_1 rfl fX10_7 rfl (by decide) hk ?_
  refine j_iconst (n := 5) (v := nI 0) dX10_comes_4 rfl rfl ?_
  refine jm_ald (n := 6) (L := 3100) (a := 161) (i := 0) (v := nI (p 0)) dX10_comes_5 rfl hk rfl (by omega) rfl ?_
  refine j_istore (n := 8) (lv2 := [some (.ref 160), some (.int (nI kd)), some (.int (nI rm)), some (.int (nI a)), some (.int (nI b)), some (.int (nI e)), some (.int (nI (p 0)))]) dX10_comes_6 rfl rfl (by decide) rfl ?_
  refine j_aload_n (n := 9) dX10_comes_8 rfl rfl ?_
  refine jm_get (n := 12) (k := 0) (b := 161) dX10_comes_9 rfl fX10_7 rfl (by decide) hk ?_
  refine j_iconst (n := 13) (v := nI 0) dX10_comes_12 rfl rfl ?_
  refine j_dup2 (n := 14) dX10_comes_13 rfl rfl rfl ?_
  refine jm_ald (n := 15) (L := 3100) (a := 161) (i := 0) (v := nI (p 0)) dX10_comes_14 rfl hk rfl (by omega) rfl ?_
  refine j_iconst (n := 16) (v := nI 1) dX10_comes_15 rfl rfl ?_
  refine j_iaddN (n := 17) (c := p 0 + 1) dX10_comes_16 rfl rfl ?_
  refine jm_ast (n := 18) (L := 3100) (a := 161) (i := 0) (x := nI (p 0 + 1)) (M2 := mm M (pu p 0 (p 0 + 1))) dX10_comes_17 rfl hk rfl (by omega) (mm_w _ _ _ _) ?_
  refine j_aload_n (n := 19) dX10_comes_18 rfl rfl ?_
  refine j_iload (n := 21) dX10_comes_19 rfl rfl ?_
  refine j_iconst (n := 22) (v := nI 0) dX10_comes_21 rfl rfl ?_
  refine j_iload_n (n := 23) dX10_comes_22 rfl rfl ?_
  refine j_cVv (n := 26) dX10_comes_23 rfl sX10_80 (c_gives d G _ _ hk _ (p 0) 0 kd (by omega)) (by omega) (by decide) rfl rfl (Nat.le_of_ble_eq_true rfl) (hk).2.1 (by decide) (kM_lt hk) (by decide) (by decide) ?_
  refine j_aload_n (n := 27) dX10_comes_26 rfl rfl ?_
  refine j_iload (n := 29) dX10_comes_27 rfl rfl ?_
  refine j_iconst (n := 30) (v := nI 1) dX10_comes_29 rfl rfl ?_
  refine j_iload_n (n := 31) dX10_comes_30 rfl rfl ?_
  refine j_cVv (n := 34) dX10_comes_31 rfl sX10_80 (c_gives d G _ _ hk _ (p 0) 1 rm (by omega)) (by omega) (by decide) rfl rfl (Nat.le_of_ble_eq_true rfl) (hk).2.1 (by decide) (kM_lt hk) (by decide) (by decide) ?_
  refine j_aload_n (n := 35) dX10_comes_34 rfl rfl ?_
  refine j_iload (n := 37) dX10_comes_35 rfl rfl ?_
  refine j_iconst (n := 38) (v := nI 2) dX10_comes_37 rfl rfl ?_
  refine j_iload_n (n := 39) dX10_comes_38 rfl rfl ?_
  refine j_cVv (n := 42) dX10_comes_39 rfl sX10_80 (c_gives d G _ _ hk _ (p 0) 2 a (by omega)) (by omega) (by decide) rfl rfl (Nat.le_of_ble_eq_true rfl) (hk).2.1 (by decide) (kM_lt hk) (by decide) (by decide) ?_
  refine j_aload_n (n := 43) dX10_comes_42 rfl rfl ?_
  refine j_iload (n := 45) dX10_comes_43 rfl rfl ?_
  refine j_iconst (n := 46) (v := nI 3) dX10_comes_45 rfl rfl ?_
  refine j_iload (n := 48) dX10_comes_46 rfl rfl ?_
  refine j_cVv (n := 51) dX10_comes_48 rfl sX10_80 (c_gives d G _ _ hk _ (p 0) 3 b (by omega)) (by omega) (by decide) rfl rfl (Nat.le_of_ble_eq_true rfl) (hk).2.1 (by decide) (kM_lt hk) (by decide) (by decide) ?_
  refine j_aload_n (n := 52) dX10_comes_51 rfl rfl ?_
  refine j_iload (n := 54) dX10_comes_52 rfl rfl ?_
  refine j_iconst (n := 55) (v := nI 4) dX10_comes_54 rfl rfl ?_
  refine j_iload (n := 57) dX10_comes_55 rfl rfl ?_
  refine j_cVv (n := 60) dX10_comes_57 rfl sX10_80 (c_gives d G _ _ hk _ (p 0) 4 e (by omega)) (by omega) (by decide) rfl rfl (Nat.le_of_ble_eq_true rfl) (hk).2.1 (by decide) (kM_lt hk) (by decide) (by decide) ?_
  exact j_rv dX10_comes_60 rfl (Nat.le_refl _) (Nat.le_refl _) rfl rfl
theorem c_regrets (d : Nat) (G : zG) (M : zMem) (X : zX) (hk : kM X) (p : Nat → Nat) (k : Nat) (hk1 : k ≤ 8) : zCall G miX10_regrets (d + 1) [.ref 160, .int (nI k)] (zI (nI (regsP p k)) (mm M p) X) (mm M p) X 0 0 := by
  refine zCall.of (lv := [some (.ref 160), some (.int (nI k))]) (by decide) (Nat.le_of_ble_eq_true rfl) rfl ?_
  refine j_aload_n (n := 1) dX10_regrets_0 rfl rfl ?_
  refine j_iload_n (n := 2) dX10_regrets_1 rfl rfl ?_
  refine j_iconst (n := 3) (v := nI 2) dX10_regrets_2 rfl rfl ?_
  refine j_cV (n := 6) dX10_regrets_3 rfl sX10_114 (c_of d G _ _ hk _ k 2 (by omega)) (by omega) (by decide) rfl rfl (Nat.le_of_ble_eq_true rfl) (hk).2.1 (by decide) (kM_lt hk) (by decide) (by decide) ?_
  refine j_aload_n (n := 7) dX10_regrets_6 rfl rfl ?_
  refine j_iload_n (n := 8) dX10_regrets_7 rfl rfl ?_
  refine j_iconst (n := 9) (v := nI 3) dX10_regrets_8 rfl rfl ?_
  refine j_cV (n := 12) dX10_regrets_9 rfl sX10_114 (c_of d G _ _ hk _ k 3 (by omega)) (by omega) (by decide) rfl rfl (Nat.le_of_ble_eq_true rfl) (hk).2.1 (by decide) (kM_lt hk) (by decide) (by decide) ?_
  refine j_iaddN (n := 13) (c := p (10 + 5 * k + 2) + (p (10 + 5 * k + 3))) dX10_regrets_12 rfl (by omega) ?_
  refine j_aload_n (n := 14) dX10_regrets_13 rfl rfl ?_
  refine j_iload_n (n := 15) dX10_regrets_14 rfl rfl ?_
  refine j_iconst (n := 16) (v := nI 4) dX10_regrets_15 rfl rfl ?_
  refine j_cV (n := 19) dX10_regrets_16 rfl sX10_114 (c_of d G _ _ hk _ k 4 (by omega)) (by omega) (by decide) rfl rfl (Nat.le_of_ble_eq_true rfl) (hk).2.1 (by decide) (kM_lt hk) (by decide) (by decide) ?_
  refine j_iaddN (n := 20) (c := p (10 + 5 * k + 2) + (p (10 + 5 * k + 3)) + (p (10 + 5 * k + 4))) dX10_regrets_19 rfl (by omega) ?_
  exact j_ri dX10_regrets_20 rfl (Nat.le_refl _) (Nat.le_refl _) rfl rfl rfl
theorem c_worth (d : Nat) (G : zG) (M : zMem) (X : zX) (hk : kM X) (p : Nat → Nat) (hw : wfO p) (k : Nat) (hk1 : k < p 0) : zCall G miX10_worth (d + 2) [.ref 160, .int (nI k)] (zI (worthN (p (10 + 5 * k + 0)) (regsP p k)) (mm M p) X) (mm M p) X 0 0 := by
  refine zCall.of (lv := [some (.ref 160), some (.int (nI k)), none]) (by decide) (Nat.le_of_ble_eq_true rfl) rfl ?_
  have hw0 := hw.1
  have ho := hw.2 k hk1
  have hr : regsP p k ≤ 297 := by unfold regsP; omega
  refine j_aload_n (n := 1) dX10_worth_0 rfl rfl ?_
  refine j_iload_n (n := 2) dX10_worth_1 rfl rfl ?_
  refine j_cV (n := 5) dX10_worth_2 rfl sX10_117 (c_regrets d G _ _ hk _ k (by omega)) (by omega) (by decide) rfl rfl (Nat.le_of_ble_eq_true rfl) (hk).2.1 (by decide) (kM_lt hk) (by decide) (by decide) ?_
  refine j_istore_n (n := 6) (lv2 := [some (.ref 160), some (.int (nI k)), some (.int (nI (regsP p k)))]) dX10_worth_5 rfl rfl (by decide) rfl ?_
  refine j_aload_n (n := 7) dX10_worth_6 rfl rfl ?_
  refine j_iload_n (n := 8) dX10_worth_7 rfl rfl ?_
  refine j_iconst (n := 9) (v := nI 0) dX10_worth_8 rfl rfl ?_
  refine j_cV (n := 12) dX10_worth_9 rfl sX10_114 (c_of (d + 1) G _ _ hk _ k 0 (by omega)) (by omega) (by decide) rfl rfl (Nat.le_of_ble_eq_true rfl) (hk).2.1 (by decide) (kM_lt hk) (by decide) (by decide) ?_
  have hs1 : (p (10 + 5 * k + 0)) = 1 ∨ (p (10 + 5 * k + 0)) = 2 ∨ (p (10 + 5 * k + 0)) = 3 ∨ (p (10 + 5 * k + 0)) = 4 ∨ (p (10 + 5 * k + 0)) = 5 ∨ (p (10 + 5 * k + 0) < 1 ∨ 5 < p (10 + 5 * k + 0)) := by omega
  rcases hs1 with hs1 | hs1 | hs1 | hs1 | hs1 | hs1
  · refine j_tabIn (i := 0) (off := 36) (tg := 48) dX10_worth_12 (by rw [i_N (by omega)]; omega) (by decide) rfl rfl ?_
    refine j_iload_n (n := 49) dX10_worth_48 rfl rfl ?_
    refine j_iconst (n := 50) (v := nI 4) dX10_worth_49 rfl rfl ?_
    refine j_iaddN (n := 51) (c := regsP p k + 4) dX10_worth_50 rfl rfl ?_
    exact j_ri dX10_worth_51 rfl (Nat.le_refl _) (Nat.le_refl _) (by unfold worthN; repeat (first | rw [if_pos (by omega)] | rw [if_neg (by omega)])) rfl rfl
  · refine j_tabIn (i := 1) (off := 46) (tg := 58) dX10_worth_12 (by rw [i_N (by omega)]; omega) (by decide) rfl rfl ?_
    refine j_sipush (n := 61) (v := nI 300) dX10_worth_58 rfl (by decide) ?_
    refine j_iload_n (n := 62) dX10_worth_61 rfl rfl ?_
    refine j_isub (n := 63) dX10_worth_62 rfl ?_
    exact j_ri dX10_worth_63 rfl (Nat.le_refl _) (Nat.le_refl _) (by unfold worthN; repeat (first | rw [if_pos (by omega)] | rw [if_neg (by omega)])) rfl rfl
  · refine j_tabIn (i := 2) (off := 40) (tg := 52) dX10_worth_12 (by rw [i_N (by omega)]; omega) (by decide) rfl rfl ?_
    refine j_iconst (n := 53) (v := nI 2) dX10_worth_52 rfl rfl ?_
    refine j_iload_n (n := 54) dX10_worth_53 rfl rfl ?_
    refine j_iconst (n := 55) (v := nI 4) dX10_worth_54 rfl rfl ?_
    refine j_iaddN (n := 56) (c := regsP p k + 4) dX10_worth_55 rfl rfl ?_
    refine j_imulN (n := 57) (c := 2 * (regsP p k + 4)) dX10_worth_56 rfl rfl ?_
    exact j_ri dX10_worth_57 rfl (Nat.le_refl _) (Nat.le_refl _) (by unfold worthN; repeat (first | rw [if_pos (by omega)] | rw [if_neg (by omega)])) rfl rfl
  · refine j_tabIn (i := 3) (off := 52) (tg := 64) dX10_worth_12 (by rw [i_N (by omega)]; omega) (by decide) rfl rfl ?_
    refine j_sipush (n := 67) (v := nI 295) dX10_worth_64 rfl (by decide) ?_
    refine j_iload_n (n := 68) dX10_worth_67 rfl rfl ?_
    refine j_isub (n := 69) dX10_worth_68 rfl ?_
    exact j_ri dX10_worth_69 rfl (Nat.le_refl _) (Nat.le_refl _) (by unfold worthN; repeat (first | rw [if_pos (by omega)] | rw [if_neg (by omega)])) rfl rfl
  · refine j_tabIn (i := 4) (off := 58) (tg := 70) dX10_worth_12 (by rw [i_N (by omega)]; omega) (by decide) rfl rfl ?_
    refine j_bipush (n := 72) (v := nI 6) dX10_worth_70 rfl (by decide) ?_
    exact j_ri dX10_worth_72 rfl (Nat.le_refl _) (Nat.le_refl _) (by unfold worthN; repeat (first | rw [if_pos (by omega)] | rw [if_neg (by omega)])) rfl rfl
  · refine j_tabOut (tg := 73) dX10_worth_12 (by rw [i_N (by omega)]; omega) rfl ?_
    refine j_iload_n (n := 74) dX10_worth_73 rfl rfl ?_
    exact j_ri dX10_worth_74 rfl (Nat.le_refl _) (Nat.le_refl _) (by unfold worthN; repeat (first | rw [if_pos (by omega)] | rw [if_neg (by omega)])) rfl rfl
def r_one (p : Nat → Nat) (kind room a b e : Int32) : Int32 := if ¬ ((0 ≤ kind.toInt ∧ kind.toInt ≤ 5) ∧ (0 ≤ room.toInt ∧ room.toInt ≤ 7) ∧ (0 ≤ a.toInt ∧ a.toInt ≤ 99) ∧ (0 ≤ b.toInt ∧ b.toInt ≤ 99) ∧ (0 ≤ e.toInt ∧ e.toInt ≤ 99)) then cBAD else if p 0 = 8 then cFULL else nI (p 0)
def q_one (p : Nat → Nat) (kind room a b e : Int32) : Nat → Nat := if ¬ ((0 ≤ kind.toInt ∧ kind.toInt ≤ 5) ∧ (0 ≤ room.toInt ∧ room.toInt ≤ 7) ∧ (0 ≤ a.toInt ∧ a.toInt ≤ 99) ∧ (0 ≤ b.toInt ∧ b.toInt ≤ 99) ∧ (0 ≤ e.toInt ∧ e.toInt ≤ 99)) then p else if p 0 = 8 then p else comesP p (tN kind) (tN room) (tN a) (tN b) (tN e)
theorem comesP_0 (p : Nat → Nat) (kd rm a b e : Nat) : comesP p kd rm a b e 0 = p 0 + 1 := by
  simp only [comesP, pu]
  repeat (first | rw [if_neg (by omega)] | rw [if_pos rfl])
  rfl
theorem c_one (d : Nat) (G : zG) (M : zMem) (X : zX) (hk : kM X) (p : Nat → Nat) (hn : p 0 ≤ 8) (kind room a b e : Int32) : zCall G miX10_one (d + 2) [.ref 160, .int kind, .int room, .int a, .int b, .int e] (zI (r_one p kind room a b e) (mm M (q_one p kind room a b e)) X) (mm M p) X 0 0 := by
  refine zCall.of (lv := [some (.ref 160), some (.int kind), some (.int room), some (.int a), some (.int b), some (.int e)]) (by decide) (Nat.le_of_ble_eq_true rfl) rfl ?_
  refine j_iload_n (n := 1) dX10_one_0 rfl rfl ?_
  refine j_i2l (n := 2) dX10_one_1 rfl ?_
  refine j_lconst (n := 3) (v := lN 0) dX10_one_2 rfl rfl ?_
  refine j_ldc2 (n := 6) (v := lN 5) dX10_one_3 rfl kX10_84 ?_
  refine j_cS (n := 9) dX10_one_6 rfl sX10_71 (c_isInI (x := kind.toInt) (a := 0) (b := 5) (d + 1) G _ _ _ _ _ (l_toInt _) rfl rfl) (by omega) (by decide) rfl rfl (Nat.le_of_ble_eq_true rfl) (by decide) (by decide) ?_
  refine j_if_eqB (n := 12) (tg := 42) dX10_one_9 rfl rfl (fun h1 => ?_) (fun h1 => ?_)
  · refine j_ldc (n := 44) (v := -1000000001) dX10_one_42 rfl kX10_93 ?_
    exact j_ri dX10_one_44 rfl (Nat.le_refl _) (Nat.le_refl _) (by unfold r_one; repeat (first | rw [if_pos (by omega)] | rw [if_neg (by omega)])) (by unfold q_one; repeat (first | rw [if_pos (by omega)] | rw [if_neg (by omega)])) rfl
  · refine j_iload_n (n := 13) dX10_one_12 rfl rfl ?_
    refine j_cS (n := 16) dX10_one_13 rfl sX10_86 (c_isRoom d G _ _ _) (by omega) (by decide) rfl rfl (Nat.le_of_ble_eq_true rfl) (by decide) (by decide) ?_
    refine j_if_eqB (n := 19) (tg := 42) dX10_one_16 rfl rfl (fun h2 => ?_) (fun h2 => ?_)
    · refine j_ldc (n := 44) (v := -1000000001) dX10_one_42 rfl kX10_93 ?_
      exact j_ri dX10_one_44 rfl (Nat.le_refl _) (Nat.le_refl _) (by unfold r_one; repeat (first | rw [if_pos (by omega)] | rw [if_neg (by omega)])) (by unfold q_one; repeat (first | rw [if_pos (by omega)] | rw [if_neg (by omega)])) rfl
    · refine j_iload_n (n := 20) dX10_one_19 rfl rfl ?_
      refine j_cS (n := 23) dX10_one_20 rfl sX10_90 (c_isMost d G _ _ _) (by omega) (by decide) rfl rfl (Nat.le_of_ble_eq_true rfl) (by decide) (by decide) ?_
      refine j_if_eqB (n := 26) (tg := 42) dX10_one_23 rfl rfl (fun h3 => ?_) (fun h3 => ?_)
      · refine j_ldc (n := 44) (v := -1000000001) dX10_one_42 rfl kX10_93 ?_
        exact j_ri dX10_one_44 rfl (Nat.le_refl _) (Nat.le_refl _) (by unfold r_one; repeat (first | rw [if_pos (by omega)] | rw [if_neg (by omega)])) (by unfold q_one; repeat (first | rw [if_pos (by omega)] | rw [if_neg (by omega)])) rfl
      · refine j_iload (n := 28) dX10_one_26 rfl rfl ?_
        refine j_cS (n := 31) dX10_one_28 rfl sX10_90 (c_isMost d G _ _ _) (by omega) (by decide) rfl rfl (Nat.le_of_ble_eq_true rfl) (by decide) (by decide) ?_
        refine j_if_eqB (n := 34) (tg := 42) dX10_one_31 rfl rfl (fun h4 => ?_) (fun h4 => ?_)
        · refine j_ldc (n := 44) (v := -1000000001) dX10_one_42 rfl kX10_93 ?_
          exact j_ri dX10_one_44 rfl (Nat.le_refl _) (Nat.le_refl _) (by unfold r_one; repeat (first | rw [if_pos (by omega)] | rw [if_neg (by omega)])) (by unfold q_one; repeat (first | rw [if_pos (by omega)] | rw [if_neg (by omega)])) rfl
        · refine j_iload (n := 36) dX10_one_34 rfl rfl ?_
          refine j_cS (n := 39) dX10_one_36 rfl sX10_90 (c_isMost d G _ _ _) (by omega) (by decide) rfl rfl (Nat.le_of_ble_eq_true rfl) (by decide) (by decide) ?_
          refine j_if_neB (n := 42) (tg := 45) dX10_one_39 rfl rfl (fun h5 => ?_) (fun h5 => ?_)
          · refine j_aload_n (n := 46) dX10_one_45 rfl rfl ?_
            refine jm_get (n := 49) (k := 0) (b := 161) dX10_one_46 rfl fX10_7 rfl (by decide) hk ?_
            refine j_iconst (n := 50) (v := nI 0) dX10_one_49 rfl rfl ?_
            refine jm_ald (n := 51) (L := 3100) (a := 161) (i := 0) (v := nI (p 0)) dX10_one_50 rfl hk rfl (by omega) rfl ?_
            refine j_bipush (n := 53) (v := nI 8) dX10_one_51 rfl (by decide) ?_
            refine j_icmp_neT (n := 56) (tg := 59) dX10_one_53 rfl rfl (i_N (by omega)) (i_N (by omega)) (fun h6 => ?_) (fun h6 => ?_)
            · obtain ⟨kd, hkd, rfl⟩ := i_of (x := kind) (n := 6) (by omega) (by omega)
              obtain ⟨rm, hrm, rfl⟩ := i_of (x := room) (n := 8) (by omega) (by omega)
              obtain ⟨ra, hra, rfl⟩ := i_of (x := a) (n := 100) (by omega) (by omega)
              obtain ⟨rb, hrb, rfl⟩ := i_of (x := b) (n := 100) (by omega) (by omega)
              obtain ⟨re, hre, rfl⟩ := i_of (x := e) (n := 100) (by omega) (by omega)
              refine j_aload_n (n := 60) dX10_one_59 rfl rfl ?_
              refine j_iload_n (n := 61) dX10_one_60 rfl rfl ?_
              refine j_iload_n (n := 62) dX10_one_61 rfl rfl ?_
              refine j_iload_n (n := 63) dX10_one_62 rfl rfl ?_
              refine j_iload (n := 65) dX10_one_63 rfl rfl ?_
              refine j_iload (n := 67) dX10_one_65 rfl rfl ?_
              refine j_cVv (n := 70) dX10_one_67 rfl sX10_95 (c_comes d G _ _ hk _ (by omega) kd rm ra rb re) (by omega) (by decide) rfl rfl (Nat.le_of_ble_eq_true rfl) (hk).2.1 (by decide) (kM_lt hk) (by decide) (by decide) ?_
              refine j_aload_n (n := 71) dX10_one_70 rfl rfl ?_
              refine jm_get (n := 74) (k := 0) (b := 161) dX10_one_71 rfl fX10_7 rfl (by decide) hk ?_
              refine j_iconst (n := 75) (v := nI 0) dX10_one_74 rfl rfl ?_
              refine jm_ald (n := 76) (L := 3100) (a := 161) (i := 0) (v := nI (p 0 + 1)) dX10_one_75 rfl hk rfl (by omega) (show nI (comesP p kd rm ra rb re 0) = _ by rw [comesP_0]) ?_
              refine j_iconst (n := 77) (v := nI 1) dX10_one_76 rfl rfl ?_
              refine j_isubN (n := 78) (c := p 0) dX10_one_77 rfl (by omega) (by omega) ?_
              exact j_ri dX10_one_78 rfl (Nat.le_refl _) (Nat.le_refl _) (by unfold r_one; repeat (first | rw [if_pos (by omega)] | rw [if_neg (by omega)])) (by unfold q_one; rw [if_neg (by omega), if_neg (by omega), tN_nI (by omega), tN_nI (by omega), tN_nI (by omega), tN_nI (by omega), tN_nI (by omega)]) rfl
            · refine j_ldc (n := 58) (v := -1000000003) dX10_one_56 rfl kX10_94 ?_
              exact j_ri dX10_one_58 rfl (Nat.le_refl _) (Nat.le_refl _) (by unfold r_one; repeat (first | rw [if_pos (by omega)] | rw [if_neg (by omega)])) (by unfold q_one; repeat (first | rw [if_pos (by omega)] | rw [if_neg (by omega)])) rfl
          · refine j_ldc (n := 44) (v := -1000000001) dX10_one_42 rfl kX10_93 ?_
            exact j_ri dX10_one_44 rfl (Nat.le_refl _) (Nat.le_refl _) (by unfold r_one; repeat (first | rw [if_pos (by omega)] | rw [if_neg (by omega)])) (by unfold q_one; repeat (first | rw [if_pos (by omega)] | rw [if_neg (by omega)])) rfl
def r_told (p : Nat → Nat) (one what : Int32) : Int32 := if ¬ ((0 ≤ one.toInt ∧ one.toInt ≤ (p 0 : Int) - 1) ∧ (0 ≤ what.toInt ∧ what.toInt ≤ 8)) then cBAD else if what.toInt < 5 then nI (p (10 + 5 * tN one + tN what)) else if what.toInt = 8 then worthN (p (10 + 5 * tN one + 0)) (regsP p (tN one)) else nI (feelsN (p (10 + 5 * tN one + 0)) (p (10 + 5 * tN one + (tN what - 3))))
theorem c_told (d : Nat) (G : zG) (M : zMem) (X : zX) (hk : kM X) (p : Nat → Nat) (hw : wfO p) (one what : Int32) : zCall G miX10_told (d + 3) [.ref 160, .int one, .int what] (zI (r_told p one what) (mm M p) X) (mm M p) X 0 0 := by
  refine zCall.of (lv := [some (.ref 160), some (.int one), some (.int what)]) (by decide) (Nat.le_of_ble_eq_true rfl) rfl ?_
  have hw0 := hw.1
  refine j_aload_n (n := 1) dX10_told_0 rfl rfl ?_
  refine j_iload_n (n := 2) dX10_told_1 rfl rfl ?_
  refine j_cV (n := 5) dX10_told_2 rfl sX10_120 (c_isOne (d + 1) G _ _ hk _ (by omega) _) (by omega) (by decide) rfl rfl (Nat.le_of_ble_eq_true rfl) (hk).2.1 (by decide) (kM_lt hk) (by decide) (by decide) ?_
  refine j_if_eqB (n := 8) (tg := 20) dX10_told_5 rfl rfl (fun h1 => ?_) (fun h1 => ?_)
  · refine j_ldc (n := 22) (v := -1000000001) dX10_told_20 rfl kX10_93 ?_
    exact j_ri dX10_told_22 rfl (Nat.le_refl _) (Nat.le_refl _) (by unfold r_told; first | (rw [if_pos (by omega)]; done) | (rw [ek]; repeat (first | rw [if_pos (by omega)] | rw [if_neg (by omega)]); try rw [ew])) rfl rfl
  · refine j_iload_n (n := 9) dX10_told_8 rfl rfl ?_
    refine j_i2l (n := 10) dX10_told_9 rfl ?_
    refine j_lconst (n := 11) (v := lN 0) dX10_told_10 rfl rfl ?_
    refine j_ldc2 (n := 14) (v := lN 8) dX10_told_11 rfl kX10_123 ?_
    refine j_cS (n := 17) dX10_told_14 rfl sX10_71 (c_isInI (x := what.toInt) (a := 0) (b := 8) (d + 2) G _ _ _ _ _ (l_toInt _) rfl rfl) (by omega) (by decide) rfl rfl (Nat.le_of_ble_eq_true rfl) (by decide) (by decide) ?_
    refine j_if_neB (n := 20) (tg := 23) dX10_told_17 rfl rfl (fun h2 => ?_) (fun h2 => ?_)
    · obtain ⟨k, hk1, rfl⟩ := i_of (x := one) (n := p 0) (by omega) (by omega)
      obtain ⟨w, hw1, rfl⟩ := i_of (x := what) (n := 9) (by omega) (by omega)
      have ho := hw.2 k hk1
      have ek : tN (nI k) = k := tN_nI (by omega)
      have ew : tN (nI w) = w := tN_nI (by omega)
      have iw : (nI w).toInt = w := i_N (by omega)
      have ik : (nI k).toInt = k := i_N (by omega)
      refine j_iload_n (n := 24) dX10_told_23 rfl rfl ?_
      refine j_iconst (n := 25) (v := nI 5) dX10_told_24 rfl rfl ?_
      refine j_icmp_geT (n := 28) (tg := 37) dX10_told_25 rfl rfl (i_N (by omega)) (i_N (by omega)) (fun h3 => ?_) (fun h3 => ?_)
      · refine j_iload_n (n := 38) dX10_told_37 rfl rfl ?_
        refine j_bipush (n := 40) (v := nI 8) dX10_told_38 rfl (by decide) ?_
        refine j_icmp_neT (n := 43) (tg := 51) dX10_told_40 rfl rfl (i_N (by omega)) (i_N (by omega)) (fun h4 => ?_) (fun h4 => ?_)
        · refine j_aload_n (n := 52) dX10_told_51 rfl rfl ?_
          refine j_iload_n (n := 53) dX10_told_52 rfl rfl ?_
          refine j_iconst (n := 54) (v := nI 0) dX10_told_53 rfl rfl ?_
          refine j_cV (n := 57) dX10_told_54 rfl sX10_114 (c_of (d + 2) G _ _ hk _ k 0 (by omega)) (by omega) (by decide) rfl rfl (Nat.le_of_ble_eq_true rfl) (hk).2.1 (by decide) (kM_lt hk) (by decide) (by decide) ?_
          refine j_aload_n (n := 58) dX10_told_57 rfl rfl ?_
          refine j_iload_n (n := 59) dX10_told_58 rfl rfl ?_
          refine j_iconst (n := 60) (v := nI 2) dX10_told_59 rfl rfl ?_
          refine j_iload_n (n := 61) dX10_told_60 rfl rfl ?_
          refine j_iaddN (n := 62) (c := 2 + w) dX10_told_61 rfl rfl ?_
          refine j_iconst (n := 63) (v := nI 5) dX10_told_62 rfl rfl ?_
          refine j_isubN (n := 64) (c := w - 3) dX10_told_63 rfl (by omega) (by omega) ?_
          have hj : p (10 + 5 * k + (w - 3)) ≤ 99 := by have := hw.reg hk1 (j := w - 5) (by omega); rwa [show 2 + (w - 5) = w - 3 by omega] at this
          refine j_cV (n := 67) dX10_told_64 rfl sX10_114 (c_of (d + 2) G _ _ hk _ k (w - 3) (by omega)) (by omega) (by decide) rfl rfl (Nat.le_of_ble_eq_true rfl) (hk).2.1 (by decide) (kM_lt hk) (by decide) (by decide) ?_
          refine j_cS (n := 70) dX10_told_67 rfl sX10_128 (c_feels (d + 2) G _ _ (p (10 + 5 * k + 0)) (p (10 + 5 * k + (w - 3))) (by omega) (by omega)) (by omega) (by decide) rfl rfl (Nat.le_of_ble_eq_true rfl) (by decide) (by decide) ?_
          exact j_ri dX10_told_70 rfl (Nat.le_refl _) (Nat.le_refl _) (by unfold r_told; first | (rw [if_pos (by omega)]; done) | (rw [ek]; repeat (first | rw [if_pos (by omega)] | rw [if_neg (by omega)]); try rw [ew])) rfl rfl
        · refine j_aload_n (n := 44) dX10_told_43 rfl rfl ?_
          refine j_iload_n (n := 45) dX10_told_44 rfl rfl ?_
          refine j_cV (n := 48) dX10_told_45 rfl sX10_125 (c_worth d G _ _ hk _ hw k (by omega)) (by omega) (by decide) rfl rfl (Nat.le_of_ble_eq_true rfl) (hk).2.1 (by decide) (kM_lt hk) (by decide) (by decide) ?_
          refine j_goto (n := 70) dX10_told_48 rfl ?_
          exact j_ri dX10_told_70 rfl (Nat.le_refl _) (Nat.le_refl _) (by unfold r_told; first | (rw [if_pos (by omega)]; done) | (rw [ek]; repeat (first | rw [if_pos (by omega)] | rw [if_neg (by omega)]); try rw [ew])) rfl rfl
      · refine j_aload_n (n := 29) dX10_told_28 rfl rfl ?_
        refine j_iload_n (n := 30) dX10_told_29 rfl rfl ?_
        refine j_iload_n (n := 31) dX10_told_30 rfl rfl ?_
        refine j_cV (n := 34) dX10_told_31 rfl sX10_114 (c_of (d + 2) G _ _ hk _ k w (by omega)) (by omega) (by decide) rfl rfl (Nat.le_of_ble_eq_true rfl) (hk).2.1 (by decide) (kM_lt hk) (by decide) (by decide) ?_
        refine j_goto (n := 70) dX10_told_34 rfl ?_
        exact j_ri dX10_told_70 rfl (Nat.le_refl _) (Nat.le_refl _) (by unfold r_told; first | (rw [if_pos (by omega)]; done) | (rw [ek]; repeat (first | rw [if_pos (by omega)] | rw [if_neg (by omega)]); try rw [ew])) rfl rfl
    · refine j_ldc (n := 22) (v := -1000000001) dX10_told_20 rfl kX10_93 ?_
      exact j_ri dX10_told_22 rfl (Nat.le_refl _) (Nat.le_refl _) (by unfold r_told; first | (rw [if_pos (by omega)]; done) | (rw [ek]; repeat (first | rw [if_pos (by omega)] | rw [if_neg (by omega)]); try rw [ew])) rfl rfl
