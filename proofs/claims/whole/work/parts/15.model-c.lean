-- MODEL C: by program (wip/whole/gen/b3.py)
def r_as (p : Nat → Nat) (one kind : Int32) : Int32 := if ¬ ((0 ≤ one.toInt ∧ one.toInt ≤ (p 0 : Int) - 1) ∧ (0 ≤ kind.toInt ∧ kind.toInt ≤ 5)) then cBAD else if (p (10 + 5 * tN one + 0) = tN kind ∨ tN kind = 0 ∨ (tN kind = 1 ∧ p (10 + 5 * tN one + 0) = 3) ∨ (tN kind = 2 ∧ p (10 + 5 * tN one + 0) = 4)) then nI (p (10 + 5 * tN one + 1)) else cKIND
theorem c_as (d : Nat) (G : zG) (M : zMem) (X : zX) (hk : kM X) (p : Nat → Nat) (hw : wfO p) (one kind : Int32) : zCall G miX10_as (d + 2) [.ref 160, .int one, .int kind] (zI (r_as p one kind) (mm M p) X) (mm M p) X 0 0 := by
  refine zCall.of (lv := [some (.ref 160), some (.int one), some (.int kind)]) (by decide) (Nat.le_of_ble_eq_true rfl) rfl ?_
  have hw0 := hw.1
  refine j_aload_n (n := 1) dX10_as_0 rfl rfl ?_
  refine j_iload_n (n := 2) dX10_as_1 rfl rfl ?_
  refine j_cV (n := 5) dX10_as_2 rfl sX10_120 (c_isOne d G _ _ hk _ (by omega) _) (by omega) (by decide) rfl rfl (Nat.le_of_ble_eq_true rfl) (hk).2.1 (by decide) (kM_lt hk) (by decide) (by decide) ?_
  refine j_if_eqB (n := 8) (tg := 20) dX10_as_5 rfl rfl (fun h1 => ?_) (fun h1 => ?_)
  · refine j_ldc (n := 22) (v := -1000000001) dX10_as_20 rfl kX10_93 ?_
    exact j_ri dX10_as_22 rfl (Nat.le_refl _) (Nat.le_refl _) (by unfold r_as; (try simp only [ek, ekd]); repeat (first | rw [if_pos (by omega)] | rw [if_neg (by omega)])) rfl rfl
  · refine j_iload_n (n := 9) dX10_as_8 rfl rfl ?_
    refine j_i2l (n := 10) dX10_as_9 rfl ?_
    refine j_lconst (n := 11) (v := lN 0) dX10_as_10 rfl rfl ?_
    refine j_ldc2 (n := 14) (v := lN 5) dX10_as_11 rfl kX10_84 ?_
    refine j_cS (n := 17) dX10_as_14 rfl sX10_71 (c_isInI (x := kind.toInt) (a := 0) (b := 5) (d + 1) G _ _ _ _ _ (l_toInt _) rfl rfl) (by omega) (by decide) rfl rfl (Nat.le_of_ble_eq_true rfl) (by decide) (by decide) ?_
    refine j_if_neB (n := 20) (tg := 23) dX10_as_17 rfl rfl (fun h2 => ?_) (fun h2 => ?_)
    · obtain ⟨k, hk1, rfl⟩ := i_of (x := one) (n := p 0) (by omega) (by omega)
      have ek : tN (nI k) = k := tN_nI (by omega)
      obtain ⟨kd, hkd, rfl⟩ := i_of (x := kind) (n := 6) (by omega) (by omega)
      have ekd : tN (nI kd) = kd := tN_nI (by omega)
      have ikd : (nI kd).toInt = kd := i_N (by omega)
      have ho := hw.2 k hk1
      refine j_aload_n (n := 24) dX10_as_23 rfl rfl ?_
      refine j_iload_n (n := 25) dX10_as_24 rfl rfl ?_
      refine j_iconst (n := 26) (v := nI 0) dX10_as_25 rfl rfl ?_
      refine j_cV (n := 29) dX10_as_26 rfl sX10_114 (c_of (d + 1) G _ _ hk _ k 0 (by omega)) (by omega) (by decide) rfl rfl (Nat.le_of_ble_eq_true rfl) (hk).2.1 (by decide) (kM_lt hk) (by decide) (by decide) ?_
      refine j_iload_n (n := 30) dX10_as_29 rfl rfl ?_
      refine j_cS (n := 33) dX10_as_30 rfl sX10_131 (c_isOf (d + 1) G _ _ (p (10 + 5 * k + 0)) kd (by omega) (by omega)) (by omega) (by decide) rfl rfl (Nat.le_of_ble_eq_true rfl) (by decide) (by decide) ?_
      refine j_if_eqB (n := 36) (tg := 45) dX10_as_33 rfl rfl (fun h3 => ?_) (fun h3 => ?_)
      · refine j_ldc (n := 47) (v := -1000000012) dX10_as_45 rfl kX10_135 ?_
        exact j_ri dX10_as_47 rfl (Nat.le_refl _) (Nat.le_refl _) (by unfold r_as; (try simp only [ek, ekd]); repeat (first | rw [if_pos (by omega)] | rw [if_neg (by omega)])) rfl rfl
      · refine j_aload_n (n := 37) dX10_as_36 rfl rfl ?_
        refine j_iload_n (n := 38) dX10_as_37 rfl rfl ?_
        refine j_iconst (n := 39) (v := nI 1) dX10_as_38 rfl rfl ?_
        refine j_cV (n := 42) dX10_as_39 rfl sX10_114 (c_of (d + 1) G _ _ hk _ k 1 (by omega)) (by omega) (by decide) rfl rfl (Nat.le_of_ble_eq_true rfl) (hk).2.1 (by decide) (kM_lt hk) (by decide) (by decide) ?_
        refine j_goto (n := 47) dX10_as_42 rfl ?_
        exact j_ri dX10_as_47 rfl (Nat.le_refl _) (Nat.le_refl _) (by unfold r_as; (try simp only [ek, ekd]); repeat (first | rw [if_pos (by omega)] | rw [if_neg (by omega)])) rfl rfl
    · refine j_ldc (n := 22) (v := -1000000001) dX10_as_20 rfl kX10_93 ?_
      exact j_ri dX10_as_22 rfl (Nat.le_refl _) (Nat.le_refl _) (by unfold r_as; (try simp only [ek, ekd]); repeat (first | rw [if_pos (by omega)] | rw [if_neg (by omega)])) rfl rfl
def r_turns (p : Nat → Nat) (one kind : Int32) : Int32 := if (0 ≤ one.toInt ∧ one.toInt ≤ (p 0 : Int) - 1) ∧ (0 ≤ kind.toInt ∧ kind.toInt ≤ 5) then nI (p (10 + 5 * tN one)) else cBAD
def q_turns (p : Nat → Nat) (one kind : Int32) : Nat → Nat := if (0 ≤ one.toInt ∧ one.toInt ≤ (p 0 : Int) - 1) ∧ (0 ≤ kind.toInt ∧ kind.toInt ≤ 5) then pu p (10 + 5 * tN one) (tN kind) else p
theorem c_turns (d : Nat) (G : zG) (M : zMem) (X : zX) (hk : kM X) (p : Nat → Nat) (hn : p 0 ≤ 8) (one kind : Int32) : zCall G miX10_turns (d + 2) [.ref 160, .int one, .int kind] (zI (r_turns p one kind) (mm M (q_turns p one kind)) X) (mm M p) X 0 0 := by
  refine zCall.of (lv := [some (.ref 160), some (.int one), some (.int kind)]) (by decide) (Nat.le_of_ble_eq_true rfl) rfl ?_
  refine j_aload_n (n := 1) dX10_turns_0 rfl rfl ?_
  refine j_iload_n (n := 2) dX10_turns_1 rfl rfl ?_
  refine j_cV (n := 5) dX10_turns_2 rfl sX10_120 (c_isOne d G _ _ hk _ (by omega) _) (by omega) (by decide) rfl rfl (Nat.le_of_ble_eq_true rfl) (hk).2.1 (by decide) (kM_lt hk) (by decide) (by decide) ?_
  refine j_if_eqB (n := 8) (tg := 34) dX10_turns_5 rfl rfl (fun h1 => ?_) (fun h1 => ?_)
  · refine j_ldc (n := 36) (v := -1000000001) dX10_turns_34 rfl kX10_93 ?_
    exact j_ri dX10_turns_36 rfl (Nat.le_refl _) (Nat.le_refl _) (by unfold r_turns; (try simp only [ek, ekd]); repeat (first | rw [if_pos (by omega)] | rw [if_neg (by omega)])) (by unfold q_turns; (try simp only [ek, ekd]); repeat (first | rw [if_pos (by omega)] | rw [if_neg (by omega)])) rfl
  · refine j_iload_n (n := 9) dX10_turns_8 rfl rfl ?_
    refine j_i2l (n := 10) dX10_turns_9 rfl ?_
    refine j_lconst (n := 11) (v := lN 0) dX10_turns_10 rfl rfl ?_
    refine j_ldc2 (n := 14) (v := lN 5) dX10_turns_11 rfl kX10_84 ?_
    refine j_cS (n := 17) dX10_turns_14 rfl sX10_71 (c_isInI (x := kind.toInt) (a := 0) (b := 5) (d + 1) G _ _ _ _ _ (l_toInt _) rfl rfl) (by omega) (by decide) rfl rfl (Nat.le_of_ble_eq_true rfl) (by decide) (by decide) ?_
    refine j_if_eqB (n := 20) (tg := 34) dX10_turns_17 rfl rfl (fun h2 => ?_) (fun h2 => ?_)
    · refine j_ldc (n := 36) (v := -1000000001) dX10_turns_34 rfl kX10_93 ?_
      exact j_ri dX10_turns_36 rfl (Nat.le_refl _) (Nat.le_refl _) (by unfold r_turns; (try simp only [ek, ekd]); repeat (first | rw [if_pos (by omega)] | rw [if_neg (by omega)])) (by unfold q_turns; (try simp only [ek, ekd]); repeat (first | rw [if_pos (by omega)] | rw [if_neg (by omega)])) rfl
    · obtain ⟨k, hk1, rfl⟩ := i_of (x := one) (n := p 0) (by omega) (by omega)
      have ek : tN (nI k) = k := tN_nI (by omega)
      have ik : (nI k).toInt = k := i_N (by omega)
      obtain ⟨kd, hkd, rfl⟩ := i_of (x := kind) (n := 6) (by omega) (by omega)
      have ekd : tN (nI kd) = kd := tN_nI (by omega)
      have ikd : (nI kd).toInt = kd := i_N (by omega)
      refine j_aload_n (n := 21) dX10_turns_20 rfl rfl ?_
      refine j_bipush (n := 23) (v := nI 10) dX10_turns_21 rfl (by decide) ?_
      refine j_iconst (n := 24) (v := nI 5) dX10_turns_23 rfl rfl ?_
      refine j_iload_n (n := 25) dX10_turns_24 rfl rfl ?_
      refine j_imulN (n := 26) (c := 5 * k) dX10_turns_25 rfl rfl ?_
      refine j_iaddN (n := 27) (c := 10 + 5 * k) dX10_turns_26 rfl rfl ?_
      refine j_iload_n (n := 28) dX10_turns_27 rfl rfl ?_
      refine j_cV (n := 31) dX10_turns_28 rfl sX10_136 (c_changes (d + 1) G _ _ hk _ (10 + 5 * k) kd (by omega)) (by omega) (by decide) rfl rfl (Nat.le_of_ble_eq_true rfl) (hk).2.1 (by decide) (kM_lt hk) (by decide) (by decide) ?_
      refine j_goto (n := 36) dX10_turns_31 rfl ?_
      exact j_ri dX10_turns_36 rfl (Nat.le_refl _) (Nat.le_refl _) (by unfold r_turns; (try simp only [ek, ekd]); repeat (first | rw [if_pos (by omega)] | rw [if_neg (by omega)])) (by unfold q_turns; (try simp only [ek, ekd]); repeat (first | rw [if_pos (by omega)] | rw [if_neg (by omega)])) rfl
def r_set (p : Nat → Nat) (one what v : Int32) : Int32 := if (0 ≤ one.toInt ∧ one.toInt ≤ (p 0 : Int) - 1) ∧ (1 ≤ what.toInt ∧ what.toInt ≤ 4) ∧ (0 ≤ v.toInt ∧ v.toInt ≤ 99) ∧ (what.toInt = 1 → v.toInt ≤ 7) then nI (p (10 + 5 * tN one + tN what)) else cBAD
def q_set (p : Nat → Nat) (one what v : Int32) : Nat → Nat := if (0 ≤ one.toInt ∧ one.toInt ≤ (p 0 : Int) - 1) ∧ (1 ≤ what.toInt ∧ what.toInt ≤ 4) ∧ (0 ≤ v.toInt ∧ v.toInt ≤ 99) ∧ (what.toInt = 1 → v.toInt ≤ 7) then pu p (10 + 5 * tN one + tN what) (tN v) else p
theorem c_set (d : Nat) (G : zG) (M : zMem) (X : zX) (hk : kM X) (p : Nat → Nat) (hn : p 0 ≤ 8) (one what v : Int32) : zCall G miX10_set (d + 2) [.ref 160, .int one, .int what, .int v] (zI (r_set p one what v) (mm M (q_set p one what v)) X) (mm M p) X 0 0 := by
  refine zCall.of (lv := [some (.ref 160), some (.int one), some (.int what), some (.int v)]) (by decide) (Nat.le_of_ble_eq_true rfl) rfl ?_
  refine j_aload_n (n := 1) dX10_set_0 rfl rfl ?_
  refine j_iload_n (n := 2) dX10_set_1 rfl rfl ?_
  refine j_cV (n := 5) dX10_set_2 rfl sX10_120 (c_isOne d G _ _ hk _ (by omega) _) (by omega) (by decide) rfl rfl (Nat.le_of_ble_eq_true rfl) (hk).2.1 (by decide) (kM_lt hk) (by decide) (by decide) ?_
  refine j_if_eqB (n := 8) (tg := 43) dX10_set_5 rfl rfl (fun h1 => ?_) (fun h1 => ?_)
  · refine j_ldc (n := 45) (v := -1000000001) dX10_set_43 rfl kX10_93 ?_
    exact j_ri dX10_set_45 rfl (Nat.le_refl _) (Nat.le_refl _) (by unfold r_set; (try simp only [ek, ew, ex]); repeat (first | rw [if_pos (by omega)] | rw [if_neg (by omega)])) (by unfold q_set; (try simp only [ek, ew, ex]); repeat (first | rw [if_pos (by omega)] | rw [if_neg (by omega)])) rfl
  · refine j_iload_n (n := 9) dX10_set_8 rfl rfl ?_
    refine j_i2l (n := 10) dX10_set_9 rfl ?_
    refine j_lconst (n := 11) (v := lN 1) dX10_set_10 rfl rfl ?_
    refine j_ldc2 (n := 14) (v := lN 4) dX10_set_11 rfl kX10_139 ?_
    refine j_cS (n := 17) dX10_set_14 rfl sX10_71 (c_isInI (x := what.toInt) (a := 1) (b := 4) (d + 1) G _ _ _ _ _ (l_toInt _) rfl rfl) (by omega) (by decide) rfl rfl (Nat.le_of_ble_eq_true rfl) (by decide) (by decide) ?_
    refine j_if_eqB (n := 20) (tg := 43) dX10_set_17 rfl rfl (fun h2 => ?_) (fun h2 => ?_)
    · refine j_ldc (n := 45) (v := -1000000001) dX10_set_43 rfl kX10_93 ?_
      exact j_ri dX10_set_45 rfl (Nat.le_refl _) (Nat.le_refl _) (by unfold r_set; (try simp only [ek, ew, ex]); repeat (first | rw [if_pos (by omega)] | rw [if_neg (by omega)])) (by unfold q_set; (try simp only [ek, ew, ex]); repeat (first | rw [if_pos (by omega)] | rw [if_neg (by omega)])) rfl
    · obtain ⟨k, hk1, rfl⟩ := i_of (x := one) (n := p 0) (by omega) (by omega)
      have ek : tN (nI k) = k := tN_nI (by omega)
      have ik : (nI k).toInt = k := i_N (by omega)
      obtain ⟨w, hw, rfl⟩ := i_of (x := what) (n := 5) (by omega) (by omega)
      have ew : tN (nI w) = w := tN_nI (by omega)
      have iw : (nI w).toInt = w := i_N (by omega)
      refine j_iload_n (n := 21) dX10_set_20 rfl rfl ?_
      refine j_i2l (n := 22) dX10_set_21 rfl ?_
      refine j_lconst (n := 23) (v := lN 0) dX10_set_22 rfl rfl ?_
      refine j_iload_n (n := 24) dX10_set_23 rfl rfl ?_
      refine j_iconst (n := 25) (v := nI 1) dX10_set_24 rfl rfl ?_
      refine j_icmp_neT (n := 28) (tg := 34) dX10_set_25 rfl rfl (i_N (by omega)) (i_N (by omega)) (fun h3 => ?_) (fun h3 => ?_)
      · refine j_ldc2 (n := 37) (v := lN 99) dX10_set_34 rfl kX10_78 ?_
        refine j_cS (n := 40) dX10_set_37 rfl sX10_71 (c_isInI (x := v.toInt) (a := 0) (b := 99) (d + 1) G _ _ _ _ _ (l_toInt _) rfl rfl) (by omega) (by decide) rfl rfl (Nat.le_of_ble_eq_true rfl) (by decide) (by decide) ?_
        refine j_if_neB (n := 43) (tg := 46) dX10_set_40 rfl rfl (fun h4 => ?_) (fun h4 => ?_)
        · obtain ⟨x, hx, rfl⟩ := i_of (x := v) (n := 100) (by omega) (by omega)
          have ex : tN (nI x) = x := tN_nI (by omega)
          have ix : (nI x).toInt = x := i_N (by omega)
          refine j_aload_n (n := 47) dX10_set_46 rfl rfl ?_
          refine j_bipush (n := 49) (v := nI 10) dX10_set_47 rfl (by decide) ?_
          refine j_iconst (n := 50) (v := nI 5) dX10_set_49 rfl rfl ?_
          refine j_iload_n (n := 51) dX10_set_50 rfl rfl ?_
          refine j_imulN (n := 52) (c := 5 * k) dX10_set_51 rfl rfl ?_
          refine j_iaddN (n := 53) (c := 10 + 5 * k) dX10_set_52 rfl rfl ?_
          refine j_iload_n (n := 54) dX10_set_53 rfl rfl ?_
          refine j_iaddN (n := 55) (c := 10 + 5 * k + w) dX10_set_54 rfl rfl ?_
          refine j_iload_n (n := 56) dX10_set_55 rfl rfl ?_
          refine j_cV (n := 59) dX10_set_56 rfl sX10_136 (c_changes (d + 1) G _ _ hk _ (10 + 5 * k + w) x (by omega)) (by omega) (by decide) rfl rfl (Nat.le_of_ble_eq_true rfl) (hk).2.1 (by decide) (kM_lt hk) (by decide) (by decide) ?_
          exact j_ri dX10_set_59 rfl (Nat.le_refl _) (Nat.le_refl _) (by unfold r_set; (try simp only [ek, ew, ex]); repeat (first | rw [if_pos (by omega)] | rw [if_neg (by omega)])) (by unfold q_set; (try simp only [ek, ew, ex]); repeat (first | rw [if_pos (by omega)] | rw [if_neg (by omega)])) rfl
        · refine j_ldc (n := 45) (v := -1000000001) dX10_set_43 rfl kX10_93 ?_
          exact j_ri dX10_set_45 rfl (Nat.le_refl _) (Nat.le_refl _) (by unfold r_set; (try simp only [ek, ew, ex]); repeat (first | rw [if_pos (by omega)] | rw [if_neg (by omega)])) (by unfold q_set; (try simp only [ek, ew, ex]); repeat (first | rw [if_pos (by omega)] | rw [if_neg (by omega)])) rfl
      · refine j_ldc2 (n := 31) (v := lN 7) dX10_set_28 rfl kX10_76 ?_
        refine j_goto (n := 37) dX10_set_31 rfl ?_
        refine j_cS (n := 40) dX10_set_37 rfl sX10_71 (c_isInI (x := v.toInt) (a := 0) (b := 7) (d + 1) G _ _ _ _ _ (l_toInt _) rfl rfl) (by omega) (by decide) rfl rfl (Nat.le_of_ble_eq_true rfl) (by decide) (by decide) ?_
        refine j_if_neB (n := 43) (tg := 46) dX10_set_40 rfl rfl (fun h5 => ?_) (fun h5 => ?_)
        · obtain ⟨x, hx, rfl⟩ := i_of (x := v) (n := 100) (by omega) (by omega)
          have ex : tN (nI x) = x := tN_nI (by omega)
          have ix : (nI x).toInt = x := i_N (by omega)
          refine j_aload_n (n := 47) dX10_set_46 rfl rfl ?_
          refine j_bipush (n := 49) (v := nI 10) dX10_set_47 rfl (by decide) ?_
          refine j_iconst (n := 50) (v := nI 5) dX10_set_49 rfl rfl ?_
          refine j_iload_n (n := 51) dX10_set_50 rfl rfl ?_
          refine j_imulN (n := 52) (c := 5 * k) dX10_set_51 rfl rfl ?_
          refine j_iaddN (n := 53) (c := 10 + 5 * k) dX10_set_52 rfl rfl ?_
          refine j_iload_n (n := 54) dX10_set_53 rfl rfl ?_
          refine j_iaddN (n := 55) (c := 10 + 5 * k + w) dX10_set_54 rfl rfl ?_
          refine j_iload_n (n := 56) dX10_set_55 rfl rfl ?_
          refine j_cV (n := 59) dX10_set_56 rfl sX10_136 (c_changes (d + 1) G _ _ hk _ (10 + 5 * k + w) x (by omega)) (by omega) (by decide) rfl rfl (Nat.le_of_ble_eq_true rfl) (hk).2.1 (by decide) (kM_lt hk) (by decide) (by decide) ?_
          exact j_ri dX10_set_59 rfl (Nat.le_refl _) (Nat.le_refl _) (by unfold r_set; (try simp only [ek, ew, ex]); repeat (first | rw [if_pos (by omega)] | rw [if_neg (by omega)])) (by unfold q_set; (try simp only [ek, ew, ex]); repeat (first | rw [if_pos (by omega)] | rw [if_neg (by omega)])) rfl
        · refine j_ldc (n := 45) (v := -1000000001) dX10_set_43 rfl kX10_93 ?_
          exact j_ri dX10_set_45 rfl (Nat.le_refl _) (Nat.le_refl _) (by unfold r_set; (try simp only [ek, ew, ex]); repeat (first | rw [if_pos (by omega)] | rw [if_neg (by omega)])) (by unfold q_set; (try simp only [ek, ew, ex]); repeat (first | rw [if_pos (by omega)] | rw [if_neg (by omega)])) rfl
theorem c_isLockSo (d : Nat) (G : zG) (M : zMem) (X : zX) (a b c e : Int32) : zCall G miX10_isLockSo (d + 2) [.int a, .int b, .int c, .int e] (zI (zB ((0 ≤ a.toInt ∧ a.toInt ≤ 7) ∧ (0 ≤ b.toInt ∧ b.toInt ≤ 7) ∧ (0 ≤ c.toInt ∧ c.toInt ≤ 2) ∧ (0 ≤ e.toInt ∧ e.toInt ≤ 99))) M X) M X 0 0 := by
  refine zCall.of (lv := [some (.int a), some (.int b), some (.int c), some (.int e)]) (by decide) (Nat.le_of_ble_eq_true rfl) rfl ?_
  refine j_iload_n (n := 1) dX10_isLockSo_0 rfl rfl ?_
  refine j_cS (n := 4) dX10_isLockSo_1 rfl sX10_86 (c_isRoom d G _ _ _) (by omega) (by decide) rfl rfl (Nat.le_of_ble_eq_true rfl) (by decide) (by decide) ?_
  refine j_if_eqB (n := 7) (tg := 37) dX10_isLockSo_4 rfl rfl (fun h1 => ?_) (fun h1 => ?_)
  · refine j_iconst (n := 38) (v := nI 0) dX10_isLockSo_37 rfl rfl ?_
    exact j_rb dX10_isLockSo_38 rfl rfl (Nat.le_refl _) (Nat.le_refl _) (by first | exact (zB_t (by omega)).symm | exact (zB_f (by omega)).symm) rfl rfl
  · refine j_iload_n (n := 8) dX10_isLockSo_7 rfl rfl ?_
    refine j_cS (n := 11) dX10_isLockSo_8 rfl sX10_86 (c_isRoom d G _ _ _) (by omega) (by decide) rfl rfl (Nat.le_of_ble_eq_true rfl) (by decide) (by decide) ?_
    refine j_if_eqB (n := 14) (tg := 37) dX10_isLockSo_11 rfl rfl (fun h2 => ?_) (fun h2 => ?_)
    · refine j_iconst (n := 38) (v := nI 0) dX10_isLockSo_37 rfl rfl ?_
      exact j_rb dX10_isLockSo_38 rfl rfl (Nat.le_refl _) (Nat.le_refl _) (by first | exact (zB_t (by omega)).symm | exact (zB_f (by omega)).symm) rfl rfl
    · refine j_iload_n (n := 15) dX10_isLockSo_14 rfl rfl ?_
      refine j_i2l (n := 16) dX10_isLockSo_15 rfl ?_
      refine j_lconst (n := 17) (v := lN 0) dX10_isLockSo_16 rfl rfl ?_
      refine j_ldc2 (n := 20) (v := lN 2) dX10_isLockSo_17 rfl kX10_141 ?_
      refine j_cS (n := 23) dX10_isLockSo_20 rfl sX10_71 (c_isInI (x := c.toInt) (a := 0) (b := 2) (d + 1) G _ _ _ _ _ (l_toInt _) rfl rfl) (by omega) (by decide) rfl rfl (Nat.le_of_ble_eq_true rfl) (by decide) (by decide) ?_
      refine j_if_eqB (n := 26) (tg := 37) dX10_isLockSo_23 rfl rfl (fun h3 => ?_) (fun h3 => ?_)
      · refine j_iconst (n := 38) (v := nI 0) dX10_isLockSo_37 rfl rfl ?_
        exact j_rb dX10_isLockSo_38 rfl rfl (Nat.le_refl _) (Nat.le_refl _) (by first | exact (zB_t (by omega)).symm | exact (zB_f (by omega)).symm) rfl rfl
      · refine j_iload_n (n := 27) dX10_isLockSo_26 rfl rfl ?_
        refine j_cS (n := 30) dX10_isLockSo_27 rfl sX10_90 (c_isMost d G _ _ _) (by omega) (by decide) rfl rfl (Nat.le_of_ble_eq_true rfl) (by decide) (by decide) ?_
        refine j_if_eqB (n := 33) (tg := 37) dX10_isLockSo_30 rfl rfl (fun h4 => ?_) (fun h4 => ?_)
        · refine j_iconst (n := 38) (v := nI 0) dX10_isLockSo_37 rfl rfl ?_
          exact j_rb dX10_isLockSo_38 rfl rfl (Nat.le_refl _) (Nat.le_refl _) (by first | exact (zB_t (by omega)).symm | exact (zB_f (by omega)).symm) rfl rfl
        · refine j_iconst (n := 34) (v := nI 1) dX10_isLockSo_33 rfl rfl ?_
          refine j_goto (n := 38) dX10_isLockSo_34 rfl ?_
          exact j_rb dX10_isLockSo_38 rfl rfl (Nat.le_refl _) (Nat.le_refl _) (by first | exact (zB_t (by omega)).symm | exact (zB_f (by omega)).symm) rfl rfl
def lockP (p : Nat → Nat) (a b c e : Nat) : Nat → Nat := pu (pu (pu (pu (pu (pu p (50 + 5 * p 8 + 0) a) (50 + 5 * p 8 + 1) b) (50 + 5 * p 8 + 2) c) (50 + 5 * p 8 + 3) e) (50 + 5 * p 8 + 4) 0) 8 (p 8 + 1)
def r_lock (p : Nat → Nat) (a b c e : Int32) : Int32 := if ¬ ((0 ≤ a.toInt ∧ a.toInt ≤ 7) ∧ (0 ≤ b.toInt ∧ b.toInt ≤ 7) ∧ (0 ≤ c.toInt ∧ c.toInt ≤ 2) ∧ (0 ≤ e.toInt ∧ e.toInt ≤ 99)) then cBAD else if p 8 = 10 then cFULL else nI (p 8)
def q_lock (p : Nat → Nat) (a b c e : Int32) : Nat → Nat := if ¬ ((0 ≤ a.toInt ∧ a.toInt ≤ 7) ∧ (0 ≤ b.toInt ∧ b.toInt ≤ 7) ∧ (0 ≤ c.toInt ∧ c.toInt ≤ 2) ∧ (0 ≤ e.toInt ∧ e.toInt ≤ 99)) then p else if p 8 = 10 then p else lockP p (tN a) (tN b) (tN c) (tN e)
theorem c_lock (d : Nat) (G : zG) (M : zMem) (X : zX) (hk : kM X) (p : Nat → Nat) (hn : p 8 ≤ 10) (a b c e : Int32) : zCall G miX10_lock (d + 3) [.ref 160, .int a, .int b, .int c, .int e] (zI (r_lock p a b c e) (mm M (q_lock p a b c e)) X) (mm M p) X 0 0 := by
  refine zCall.of (lv := [some (.ref 160), some (.int a), some (.int b), some (.int c), some (.int e), none]) (by decide) (Nat.le_of_ble_eq_true rfl) rfl ?_
  refine j_iload_n (n := 1) dX10_lock_0 rfl rfl ?_
  refine j_iload_n (n := 2) dX10_lock_1 rfl rfl ?_
  refine j_iload_n (n := 3) dX10_lock_2 rfl rfl ?_
  refine j_iload (n := 5) dX10_lock_3 rfl rfl ?_
  refine j_cS (n := 8) dX10_lock_5 rfl sX10_143 (c_isLockSo d G _ _ _ _ _ _) (by omega) (by decide) rfl rfl (Nat.le_of_ble_eq_true rfl) (by decide) (by decide) ?_
  refine j_if_neB (n := 11) (tg := 14) dX10_lock_8 rfl rfl (fun h1 => ?_) (fun h1 => ?_)
  · refine j_aload_n (n := 15) dX10_lock_14 rfl rfl ?_
    refine jm_get (n := 18) (k := 0) (b := 161) dX10_lock_15 rfl fX10_7 rfl (by decide) hk ?_
    refine j_bipush (n := 20) (v := nI 8) dX10_lock_18 rfl (by decide) ?_
    refine jm_ald (n := 21) (L := 3100) (a := 161) (i := 8) (v := nI (p 8)) dX10_lock_20 rfl hk rfl (by omega) rfl ?_
    refine j_bipush (n := 23) (v := nI 10) dX10_lock_21 rfl (by decide) ?_
    refine j_icmp_neT (n := 26) (tg := 29) dX10_lock_23 rfl rfl (i_N (by omega)) (i_N (by omega)) (fun h2 => ?_) (fun h2 => ?_)
    · obtain ⟨a0, ha0, rfl⟩ := i_of (x := a) (n := 8) (by omega) (by omega)
      have ea0 : tN (nI a0) = a0 := tN_nI (by omega)
      have ia0 : (nI a0).toInt = a0 := i_N (by omega)
      obtain ⟨b0, hb0, rfl⟩ := i_of (x := b) (n := 8) (by omega) (by omega)
      have eb0 : tN (nI b0) = b0 := tN_nI (by omega)
      have ib0 : (nI b0).toInt = b0 := i_N (by omega)
      obtain ⟨c0, hc0, rfl⟩ := i_of (x := c) (n := 3) (by omega) (by omega)
      have ec0 : tN (nI c0) = c0 := tN_nI (by omega)
      have ic0 : (nI c0).toInt = c0 := i_N (by omega)
      obtain ⟨e0, he0, rfl⟩ := i_of (x := e) (n := 100) (by omega) (by omega)
      have ee0 : tN (nI e0) = e0 := tN_nI (by omega)
      have ie0 : (nI e0).toInt = e0 := i_N (by omega)
      refine j_bipush (n := 31) (v := nI 50) dX10_lock_29 rfl (by decide) ?_
      refine j_iconst (n := 32) (v := nI 5) dX10_lock_31 rfl rfl ?_
      refine j_aload_n (n := 33) dX10_lock_32 rfl rfl ?_
      refine jm_get (n := 36) (k := 0) (b := 161) dX10_lock_33 rfl fX10_7 rfl (by decide) hk ?_
      refine j_bipush (n := 38) (v := nI 8) dX10_lock_36 rfl (by decide) ?_
      refine jm_ald (n := 39) (L := 3100) (a := 161) (i := 8) (v := nI (p 8)) dX10_lock_38 rfl hk rfl (by omega) rfl ?_
      refine j_imulN (n := 40) (c := 5 * (p 8)) dX10_lock_39 rfl rfl ?_
      refine j_iaddN (n := 41) (c := 50 + 5 * (p 8)) dX10_lock_40 rfl rfl ?_
      refine j_istore (n := 43) (lv2 := [some (.ref 160), some (.int (nI a0)), some (.int (nI b0)), some (.int (nI c0)), some (.int (nI e0)), some (.int (nI (50 + 5 * (p 8))))]) dX10_lock_41 rfl rfl (by decide) rfl ?_
      refine j_aload_n (n := 44) dX10_lock_43 rfl rfl ?_
      refine jm_get (n := 47) (k := 0) (b := 161) dX10_lock_44 rfl fX10_7 rfl (by decide) hk ?_
      refine j_iload (n := 49) dX10_lock_47 rfl rfl ?_
      refine j_iconst (n := 50) (v := nI 0) dX10_lock_49 rfl rfl ?_
      refine j_iaddN (n := 51) (c := 50 + 5 * (p 8)) dX10_lock_50 rfl (by omega) ?_
      refine j_iload_n (n := 52) dX10_lock_51 rfl rfl ?_
      refine jm_ast (n := 53) (L := 3100) (a := 161) (i := 50 + 5 * (p 8)) (x := nI a0) (M2 := mm M (pu p (50 + 5 * (p 8)) a0)) dX10_lock_52 rfl hk rfl (by omega) (mm_w _ _ _ _) ?_
      refine j_aload_n (n := 54) dX10_lock_53 rfl rfl ?_
      refine jm_get (n := 57) (k := 0) (b := 161) dX10_lock_54 rfl fX10_7 rfl (by decide) hk ?_
      refine j_iload (n := 59) dX10_lock_57 rfl rfl ?_
      refine j_iconst (n := 60) (v := nI 1) dX10_lock_59 rfl rfl ?_
      refine j_iaddN (n := 61) (c := 50 + 5 * (p 8) + 1) dX10_lock_60 rfl rfl ?_
      refine j_iload_n (n := 62) dX10_lock_61 rfl rfl ?_
      refine jm_ast (n := 63) (L := 3100) (a := 161) (i := 50 + 5 * (p 8) + 1) (x := nI b0) (M2 := mm M (pu (pu p (50 + 5 * (p 8)) a0) (50 + 5 * (p 8) + 1) b0)) dX10_lock_62 rfl hk rfl (by omega) (mm_w _ _ _ _) ?_
      refine j_aload_n (n := 64) dX10_lock_63 rfl rfl ?_
      refine jm_get (n := 67) (k := 0) (b := 161) dX10_lock_64 rfl fX10_7 rfl (by decide) hk ?_
      refine j_iload (n := 69) dX10_lock_67 rfl rfl ?_
      refine j_iconst (n := 70) (v := nI 2) dX10_lock_69 rfl rfl ?_
      refine j_iaddN (n := 71) (c := 50 + 5 * (p 8) + 2) dX10_lock_70 rfl rfl ?_
      refine j_iload_n (n := 72) dX10_lock_71 rfl rfl ?_
      refine jm_ast (n := 73) (L := 3100) (a := 161) (i := 50 + 5 * (p 8) + 2) (x := nI c0) (M2 := mm M (pu (pu (pu p (50 + 5 * (p 8)) a0) (50 + 5 * (p 8) + 1) b0) (50 + 5 * (p 8) + 2) c0)) dX10_lock_72 rfl hk rfl (by omega) (mm_w _ _ _ _) ?_
      refine j_aload_n (n := 74) dX10_lock_73 rfl rfl ?_
      refine jm_get (n := 77) (k := 0) (b := 161) dX10_lock_74 rfl fX10_7 rfl (by decide) hk ?_
      refine j_iload (n := 79) dX10_lock_77 rfl rfl ?_
      refine j_iconst (n := 80) (v := nI 3) dX10_lock_79 rfl rfl ?_
      refine j_iaddN (n := 81) (c := 50 + 5 * (p 8) + 3) dX10_lock_80 rfl rfl ?_
      refine j_iload (n := 83) dX10_lock_81 rfl rfl ?_
      refine jm_ast (n := 84) (L := 3100) (a := 161) (i := 50 + 5 * (p 8) + 3) (x := nI e0) (M2 := mm M (pu (pu (pu (pu p (50 + 5 * (p 8)) a0) (50 + 5 * (p 8) + 1) b0) (50 + 5 * (p 8) + 2) c0) (50 + 5 * (p 8) + 3) e0)) dX10_lock_83 rfl hk rfl (by omega) (mm_w _ _ _ _) ?_
      refine j_aload_n (n := 85) dX10_lock_84 rfl rfl ?_
      refine jm_get (n := 88) (k := 0) (b := 161) dX10_lock_85 rfl fX10_7 rfl (by decide) hk ?_
      refine j_iload (n := 90) dX10_lock_88 rfl rfl ?_
      refine j_iconst (n := 91) (v := nI 4) dX10_lock_90 rfl rfl ?_
      refine j_iaddN (n := 92) (c := 50 + 5 * (p 8) + 4) dX10_lock_91 rfl rfl ?_
      refine j_iconst (n := 93) (v := nI 0) dX10_lock_92 rfl rfl ?_
      refine jm_ast (n := 94) (L := 3100) (a := 161) (i := 50 + 5 * (p 8) + 4) (x := nI 0) (M2 := mm M (pu (pu (pu (pu (pu p (50 + 5 * (p 8)) a0) (50 + 5 * (p 8) + 1) b0) (50 + 5 * (p 8) + 2) c0) (50 + 5 * (p 8) + 3) e0) (50 + 5 * (p 8) + 4) 0)) dX10_lock_93 rfl hk rfl (by omega) (mm_w _ _ _ _) ?_
      refine j_aload_n (n := 95) dX10_lock_94 rfl rfl ?_
      refine jm_get (n := 98) (k := 0) (b := 161) dX10_lock_95 rfl fX10_7 rfl (by decide) hk ?_
      refine j_bipush (n := 100) (v := nI 8) dX10_lock_98 rfl (by decide) ?_
      refine j_dup2 (n := 101) dX10_lock_100 rfl rfl rfl ?_
      refine jm_ald (n := 102) (L := 3100) (a := 161) (i := 8) (v := nI (p 8)) dX10_lock_101 rfl hk rfl (by omega) (by simp only [mm, zs, if_pos, nIf, pu]; repeat (first | rw [if_neg (by omega)] | rw [if_pos rfl])) ?_
      refine j_iconst (n := 103) (v := nI 1) dX10_lock_102 rfl rfl ?_
      refine j_iaddN (n := 104) (c := p 8 + 1) dX10_lock_103 rfl rfl ?_
      refine jm_ast (n := 105) (L := 3100) (a := 161) (i := 8) (x := nI (p 8 + 1)) (M2 := mm M (pu (pu (pu (pu (pu (pu p (50 + 5 * (p 8)) a0) (50 + 5 * (p 8) + 1) b0) (50 + 5 * (p 8) + 2) c0) (50 + 5 * (p 8) + 3) e0) (50 + 5 * (p 8) + 4) 0) 8 (p 8 + 1))) dX10_lock_104 rfl hk rfl (by omega) (mm_w _ _ _ _) ?_
      refine j_aload_n (n := 106) dX10_lock_105 rfl rfl ?_
      refine jm_get (n := 109) (k := 0) (b := 161) dX10_lock_106 rfl fX10_7 rfl (by decide) hk ?_
      refine j_bipush (n := 111) (v := nI 8) dX10_lock_109 rfl (by decide) ?_
      refine jm_ald (n := 112) (L := 3100) (a := 161) (i := 8) (v := nI (p 8 + 1)) dX10_lock_111 rfl hk rfl (by omega) (by simp only [mm, zs, if_pos, nIf, pu]) ?_
      refine j_iconst (n := 113) (v := nI 1) dX10_lock_112 rfl rfl ?_
      refine j_isubN (n := 114) (c := p 8) dX10_lock_113 rfl (by omega) (by omega) ?_
      exact j_ri dX10_lock_114 rfl (Nat.le_refl _) (Nat.le_refl _) (by unfold r_lock; repeat (first | rw [if_pos (by omega)] | rw [if_neg (by omega)])) (by unfold q_lock; (try simp only [ea0, eb0, ec0, ee0]); repeat (first | rw [if_pos (by omega)] | rw [if_neg (by omega)]); try rfl) rfl
    · refine j_ldc (n := 28) (v := -1000000003) dX10_lock_26 rfl kX10_94 ?_
      exact j_ri dX10_lock_28 rfl (Nat.le_refl _) (Nat.le_refl _) (by unfold r_lock; repeat (first | rw [if_pos (by omega)] | rw [if_neg (by omega)])) (by unfold q_lock; (try simp only [ea0, eb0, ec0, ee0]); repeat (first | rw [if_pos (by omega)] | rw [if_neg (by omega)]); try rfl) rfl
  · refine j_ldc (n := 13) (v := -1000000001) dX10_lock_11 rfl kX10_93 ?_
    exact j_ri dX10_lock_13 rfl (Nat.le_refl _) (Nat.le_refl _) (by unfold r_lock; repeat (first | rw [if_pos (by omega)] | rw [if_neg (by omega)])) (by unfold q_lock; (try simp only [ea0, eb0, ec0, ee0]); repeat (first | rw [if_pos (by omega)] | rw [if_neg (by omega)]); try rfl) rfl
theorem opensP_dec (p : Nat → Nat) (l k : Nat) : opensP p l k ↔ (p (50 + 5 * l + 4) = 0 ∧ p (50 + 5 * l + 3) ≤ feelsN (p (10 + 5 * k + 0)) (p (10 + 5 * k + (2 + p (50 + 5 * l + 2))))) := Iff.rfl
theorem feelsN_le {k r : Nat} (hr : r ≤ 99) : feelsN k r ≤ 216 := by
  unfold feelsN
  repeat (first | (split; omega) | split)
  all_goals omega
theorem c_isOpen (d : Nat) (G : zG) (M : zMem) (X : zX) (hk : kM X) (p : Nat → Nat) (hw : wfO p) (hwl : wfL p) (l k : Nat) (hl1 : l < p 8) (hk1 : k < p 0) : zCall G miX10_isOpen (d + 1) [.ref 160, .int (nI l), .int (nI k)] (zI (zB (p (50 + 5 * l + 4) = 0 ∧ p (50 + 5 * l + 3) ≤ feelsN (p (10 + 5 * k + 0)) (p (10 + 5 * k + (2 + p (50 + 5 * l + 2)))))) (mm M p) X) (mm M p) X 0 0 := by
  refine zCall.of (lv := [some (.ref 160), some (.int (nI l)), some (.int (nI k))]) (by decide) (Nat.le_of_ble_eq_true rfl) rfl ?_
  have hw0 := hw.1
  have hw1 := hwl.1
  have ho := hw.2 k hk1
  have hl := hwl.2 l hl1
  have hr := hw.reg hk1 (j := p (50 + 5 * l + 2)) (by omega)
  have hf := feelsN_le (k := p (10 + 5 * k + 0)) hr
  refine j_aload_n (n := 1) dX10_isOpen_0 rfl rfl ?_
  refine j_iload_n (n := 2) dX10_isOpen_1 rfl rfl ?_
  refine j_iconst (n := 3) (v := nI 4) dX10_isOpen_2 rfl rfl ?_
  refine j_cV (n := 6) dX10_isOpen_3 rfl sX10_147 (c_lockOf d G _ _ hk _ l 4 (by omega)) (by omega) (by decide) rfl rfl (Nat.le_of_ble_eq_true rfl) (hk).2.1 (by decide) (kM_lt hk) (by decide) (by decide) ?_
  refine j_if_neN (n := 9) (tg := 44) dX10_isOpen_6 rfl rfl (by omega) (fun h1 => ?_) (fun h1 => ?_)
  · refine j_iconst (n := 45) (v := nI 0) dX10_isOpen_44 rfl rfl ?_
    exact j_rb dX10_isOpen_45 rfl rfl (Nat.le_refl _) (Nat.le_refl _) (by first | exact (zB_t (by omega)).symm | exact (zB_f (by omega)).symm) rfl rfl
  · refine j_aload_n (n := 10) dX10_isOpen_9 rfl rfl ?_
    refine j_iload_n (n := 11) dX10_isOpen_10 rfl rfl ?_
    refine j_iconst (n := 12) (v := nI 0) dX10_isOpen_11 rfl rfl ?_
    refine j_cV (n := 15) dX10_isOpen_12 rfl sX10_114 (c_of d G _ _ hk _ k 0 (by omega)) (by omega) (by decide) rfl rfl (Nat.le_of_ble_eq_true rfl) (hk).2.1 (by decide) (kM_lt hk) (by decide) (by decide) ?_
    refine j_aload_n (n := 16) dX10_isOpen_15 rfl rfl ?_
    refine j_iload_n (n := 17) dX10_isOpen_16 rfl rfl ?_
    refine j_iconst (n := 18) (v := nI 2) dX10_isOpen_17 rfl rfl ?_
    refine j_aload_n (n := 19) dX10_isOpen_18 rfl rfl ?_
    refine j_iload_n (n := 20) dX10_isOpen_19 rfl rfl ?_
    refine j_iconst (n := 21) (v := nI 2) dX10_isOpen_20 rfl rfl ?_
    refine j_cV (n := 24) dX10_isOpen_21 rfl sX10_147 (c_lockOf d G _ _ hk _ l 2 (by omega)) (by omega) (by decide) rfl rfl (Nat.le_of_ble_eq_true rfl) (hk).2.1 (by decide) (kM_lt hk) (by decide) (by decide) ?_
    refine j_iaddN (n := 25) (c := 2 + (p (50 + 5 * l + 2))) dX10_isOpen_24 rfl (by omega) ?_
    refine j_cV (n := 28) dX10_isOpen_25 rfl sX10_114 (c_of d G _ _ hk _ k (2 + (p (50 + 5 * l + 2))) (by omega)) (by omega) (by decide) rfl rfl (Nat.le_of_ble_eq_true rfl) (hk).2.1 (by decide) (kM_lt hk) (by decide) (by decide) ?_
    refine j_cS (n := 31) dX10_isOpen_28 rfl sX10_128 (c_feels d G _ _ (p (10 + 5 * k + 0)) (p (10 + 5 * k + (2 + (p (50 + 5 * l + 2))))) (by omega) (by omega)) (by omega) (by decide) rfl rfl (Nat.le_of_ble_eq_true rfl) (by decide) (by decide) ?_
    refine j_aload_n (n := 32) dX10_isOpen_31 rfl rfl ?_
    refine j_iload_n (n := 33) dX10_isOpen_32 rfl rfl ?_
    refine j_iconst (n := 34) (v := nI 3) dX10_isOpen_33 rfl rfl ?_
    refine j_cV (n := 37) dX10_isOpen_34 rfl sX10_147 (c_lockOf d G _ _ hk _ l 3 (by omega)) (by omega) (by decide) rfl rfl (Nat.le_of_ble_eq_true rfl) (hk).2.1 (by decide) (kM_lt hk) (by decide) (by decide) ?_
    refine j_icmp_ltT (n := 40) (tg := 44) dX10_isOpen_37 rfl rfl (i_N (by omega)) (i_N (by omega)) (fun h2 => ?_) (fun h2 => ?_)
    · refine j_iconst (n := 45) (v := nI 0) dX10_isOpen_44 rfl rfl ?_
      exact j_rb dX10_isOpen_45 rfl rfl (Nat.le_refl _) (Nat.le_refl _) (by first | exact (zB_t (by omega)).symm | exact (zB_f (by omega)).symm) rfl rfl
    · refine j_iconst (n := 41) (v := nI 1) dX10_isOpen_40 rfl rfl ?_
      refine j_goto (n := 45) dX10_isOpen_41 rfl ?_
      exact j_rb dX10_isOpen_45 rfl rfl (Nat.le_refl _) (Nat.le_refl _) (by first | exact (zB_t (by omega)).symm | exact (zB_f (by omega)).symm) rfl rfl
def r_at (p : Nat → Nat) (room : Int32) : Int32 := if ¬ (0 ≤ room.toInt ∧ room.toInt ≤ 7) then cBAD else setOf (fun k => p (10 + 5 * k + 1) = tN room) (p 0)
theorem c_at (d : Nat) (G : zG) (M : zMem) (X : zX) (hk : kM X) (p : Nat → Nat) (hw : wfO p) (room : Int32) : zCall G miX10_at (d + 2) [.ref 160, .int room] (zI (r_at p room) (mm M p) X) (mm M p) X 0 0 := by
  refine zCall.of (lv := [some (.ref 160), some (.int room), none, none]) (by decide) (Nat.le_of_ble_eq_true rfl) rfl ?_
  have hw0 := hw.1
  refine j_iload_n (n := 1) dX10_at_0 rfl rfl ?_
  refine j_cS (n := 4) dX10_at_1 rfl sX10_86 (c_isRoom d G _ _ _) (by omega) (by decide) rfl rfl (Nat.le_of_ble_eq_true rfl) (by decide) (by decide) ?_
  refine j_if_neB (n := 7) (tg := 10) dX10_at_4 rfl rfl (fun h1 => ?_) (fun h1 => ?_)
  · obtain ⟨r, hr, rfl⟩ := i_of (x := room) (n := 8) (by omega) (by omega)
    have er : tN (nI r) = r := tN_nI (by omega)
    have ir : (nI r).toInt = r := i_N (by omega)
    refine j_iconst (n := 11) (v := nI 0) dX10_at_10 rfl rfl ?_
    refine j_istore_n (n := 12) (lv2 := [some (.ref 160), some (.int (nI r)), some (.int (nI 0)), none]) dX10_at_11 rfl rfl (by decide) rfl ?_
    refine j_iconst (n := 13) (v := nI 0) dX10_at_12 rfl rfl ?_
    refine j_istore_n (n := 14) (lv2 := [some (.ref 160), some (.int (nI r)), some (.int (nI 0)), some (.int (nI 0))]) dX10_at_13 rfl rfl (by decide) rfl ?_
    have loop : ∀ (j : Nat) (k : Nat), p 0 - k = j → (k ≤ p 0) → zAt G miX10_at (zRm (d + 2) 0 0) (zQ G (zI (r_at p (nI r)) (mm M p) X) 0 0) 14 [some (.ref 160), some (.int (nI r)), some (.int (setOf (fun k => p (10 + 5 * k + 1) = r) k)), some (.int (nI k))] [] (mm M p) X (0, 0) := by
      intro j
      induction j using Nat.strongRecOn with
      | ind j ih =>
        intro k hj hk0
        refine j_iload_n (n := 15) dX10_at_14 rfl rfl ?_
        refine j_aload_n (n := 16) dX10_at_15 rfl rfl ?_
        refine jm_get (n := 19) (k := 0) (b := 161) dX10_at_16 rfl fX10_7 rfl (by decide) hk ?_
        refine j_iconst (n := 20) (v := nI 0) dX10_at_19 rfl rfl ?_
        refine jm_ald (n := 21) (L := 3100) (a := 161) (i := 0) (v := nI (p 0)) dX10_at_20 rfl hk rfl (by omega) rfl ?_
        refine j_icmp_geT (n := 24) (tg := 50) dX10_at_21 rfl rfl (i_N (by omega)) (i_N (by omega)) (fun h2 => ?_) (fun h2 => ?_)
        · refine j_iload_n (n := 51) dX10_at_50 rfl rfl ?_
          exact j_ri dX10_at_51 rfl (Nat.le_refl _) (Nat.le_refl _) (by unfold r_at; rw [if_neg (by omega), er, show k = p 0 by omega]) rfl rfl
        · have ho := hw.2 k (by omega)
          refine j_iload_n (n := 25) dX10_at_24 rfl rfl ?_
          refine j_aload_n (n := 26) dX10_at_25 rfl rfl ?_
          refine j_iload_n (n := 27) dX10_at_26 rfl rfl ?_
          refine j_iconst (n := 28) (v := nI 1) dX10_at_27 rfl rfl ?_
          refine j_cV (n := 31) dX10_at_28 rfl sX10_114 (c_of (d + 1) G _ _ hk _ k 1 (by omega)) (by omega) (by decide) rfl rfl (Nat.le_of_ble_eq_true rfl) (hk).2.1 (by decide) (kM_lt hk) (by decide) (by decide) ?_
          refine j_iload_n (n := 32) dX10_at_31 rfl rfl ?_
          refine j_icmp_neT (n := 35) (tg := 41) dX10_at_32 rfl rfl (i_N (by omega)) (i_N (by omega)) (fun h3 => ?_) (fun h3 => ?_)
          · refine j_iconst (n := 42) (v := nI 0) dX10_at_41 rfl rfl ?_
            refine j_ior (n := 43) dX10_at_42 rfl ?_
            refine j_istore_n (n := 44) (lv2 := [some (.ref 160), some (.int (nI r)), some (.int ((setOf (fun k => p (10 + 5 * k + 1) = r) k) ||| (nI 0))), some (.int (nI k))]) dX10_at_43 rfl rfl (by decide) rfl ?_
            refine j_iinc (n := 47) (y := nI (k + 1)) (lv2 := [some (.ref 160), some (.int (nI r)), some (.int ((setOf (fun k => p (10 + 5 * k + 1) = r) k) ||| (nI 0))), some (.int (nI (k + 1)))]) dX10_at_44 rfl rfl (by decide) rfl (show nI k + nI 1 = nI (k + 1) by rw [nI_add]) rfl ?_
            refine j_goto (n := 14) dX10_at_47 rfl ?_
            have e1 : (setOf (fun k => p (10 + 5 * k + 1) = r) k) ||| (nI 0) = setOf (fun k => p (10 + 5 * k + 1) = r) (k + 1) := by first | (rw [setOf, if_pos (by omega)]; done) | (rw [setOf, if_neg (by omega)])
            rw [e1]
            exact ih _ (by omega) (k + 1) rfl (by omega)
          · refine j_iconst (n := 36) (v := nI 1) dX10_at_35 rfl rfl ?_
            refine j_iload_n (n := 37) dX10_at_36 rfl rfl ?_
            refine j_ishl (n := 38) dX10_at_37 rfl ?_
            refine j_goto (n := 42) dX10_at_38 rfl ?_
            refine j_ior (n := 43) dX10_at_42 rfl ?_
            refine j_istore_n (n := 44) (lv2 := [some (.ref 160), some (.int (nI r)), some (.int ((setOf (fun k => p (10 + 5 * k + 1) = r) k) ||| ((nI 1) <<< ((nI k) &&& 31)))), some (.int (nI k))]) dX10_at_43 rfl rfl (by decide) rfl ?_
            refine j_iinc (n := 47) (y := nI (k + 1)) (lv2 := [some (.ref 160), some (.int (nI r)), some (.int ((setOf (fun k => p (10 + 5 * k + 1) = r) k) ||| ((nI 1) <<< ((nI k) &&& 31)))), some (.int (nI (k + 1)))]) dX10_at_44 rfl rfl (by decide) rfl (show nI k + nI 1 = nI (k + 1) by rw [nI_add]) rfl ?_
            refine j_goto (n := 14) dX10_at_47 rfl ?_
            have e1 : (setOf (fun k => p (10 + 5 * k + 1) = r) k) ||| ((nI 1) <<< ((nI k) &&& 31)) = setOf (fun k => p (10 + 5 * k + 1) = r) (k + 1) := by first | (rw [setOf, if_pos (by omega)]; done) | (rw [setOf, if_neg (by omega)])
            rw [e1]
            exact ih _ (by omega) (k + 1) rfl (by omega)
    exact loop _ 0 rfl (Nat.zero_le _)
  · refine j_ldc (n := 9) (v := -1000000001) dX10_at_7 rfl kX10_93 ?_
    exact j_ri dX10_at_9 rfl (Nat.le_refl _) (Nat.le_refl _) (by unfold r_at; (try simp only [er]); repeat (first | rw [if_pos (by omega)] | rw [if_neg (by omega)])) rfl rfl
def r_about (p : Nat → Nat) (lock what : Int32) : Int32 := if ¬ ((0 ≤ lock.toInt ∧ lock.toInt ≤ (p 8 : Int) - 1) ∧ (0 ≤ what.toInt ∧ what.toInt ≤ 5)) then cBAD else if what.toInt < 5 then nI (p (50 + 5 * tN lock + tN what)) else setOf (fun k => p (50 + 5 * tN lock + 4) = 0 ∧ p (50 + 5 * tN lock + 3) ≤ feelsN (p (10 + 5 * k + 0)) (p (10 + 5 * k + (2 + p (50 + 5 * tN lock + 2))))) (p 0)
theorem c_about (d : Nat) (G : zG) (M : zMem) (X : zX) (hk : kM X) (p : Nat → Nat) (hw : wfO p) (hwl : wfL p) (lock what : Int32) : zCall G miX10_about (d + 2) [.ref 160, .int lock, .int what] (zI (r_about p lock what) (mm M p) X) (mm M p) X 0 0 := by
  refine zCall.of (lv := [some (.ref 160), some (.int lock), some (.int what), none, none]) (by decide) (Nat.le_of_ble_eq_true rfl) rfl ?_
  have hw0 := hw.1
  have hw1 := hwl.1
  refine j_aload_n (n := 1) dX10_about_0 rfl rfl ?_
  refine j_iload_n (n := 2) dX10_about_1 rfl rfl ?_
  refine j_cV (n := 5) dX10_about_2 rfl sX10_150 (c_isLock d G _ _ hk _ (by omega) _) (by omega) (by decide) rfl rfl (Nat.le_of_ble_eq_true rfl) (hk).2.1 (by decide) (kM_lt hk) (by decide) (by decide) ?_
  refine j_if_eqB (n := 8) (tg := 20) dX10_about_5 rfl rfl (fun h1 => ?_) (fun h1 => ?_)
  · refine j_ldc (n := 22) (v := -1000000001) dX10_about_20 rfl kX10_93 ?_
    exact j_ri dX10_about_22 rfl (Nat.le_refl _) (Nat.le_refl _) (by unfold r_about; (try simp only [el, eu]); repeat (first | rw [if_pos (by omega)] | rw [if_neg (by omega)])) rfl rfl
  · refine j_iload_n (n := 9) dX10_about_8 rfl rfl ?_
    refine j_i2l (n := 10) dX10_about_9 rfl ?_
    refine j_lconst (n := 11) (v := lN 0) dX10_about_10 rfl rfl ?_
    refine j_ldc2 (n := 14) (v := lN 5) dX10_about_11 rfl kX10_84 ?_
    refine j_cS (n := 17) dX10_about_14 rfl sX10_71 (c_isInI (x := what.toInt) (a := 0) (b := 5) (d + 1) G _ _ _ _ _ (l_toInt _) rfl rfl) (by omega) (by decide) rfl rfl (Nat.le_of_ble_eq_true rfl) (by decide) (by decide) ?_
    refine j_if_neB (n := 20) (tg := 23) dX10_about_17 rfl rfl (fun h2 => ?_) (fun h2 => ?_)
    · obtain ⟨l, hl1, rfl⟩ := i_of (x := lock) (n := p 8) (by omega) (by omega)
      have el : tN (nI l) = l := tN_nI (by omega)
      have il : (nI l).toInt = l := i_N (by omega)
      obtain ⟨u, hu, rfl⟩ := i_of (x := what) (n := 6) (by omega) (by omega)
      have eu : tN (nI u) = u := tN_nI (by omega)
      have iu : (nI u).toInt = u := i_N (by omega)
      refine j_iload_n (n := 24) dX10_about_23 rfl rfl ?_
      refine j_iconst (n := 25) (v := nI 5) dX10_about_24 rfl rfl ?_
      refine j_icmp_geT (n := 28) (tg := 35) dX10_about_25 rfl rfl (i_N (by omega)) (i_N (by omega)) (fun h3 => ?_) (fun h3 => ?_)
      · refine j_iconst (n := 36) (v := nI 0) dX10_about_35 rfl rfl ?_
        refine j_istore_n (n := 37) (lv2 := [some (.ref 160), some (.int (nI l)), some (.int (nI u)), some (.int (nI 0)), none]) dX10_about_36 rfl rfl (by decide) rfl ?_
        refine j_iconst (n := 38) (v := nI 0) dX10_about_37 rfl rfl ?_
        refine j_istore (n := 40) (lv2 := [some (.ref 160), some (.int (nI l)), some (.int (nI u)), some (.int (nI 0)), some (.int (nI 0))]) dX10_about_38 rfl rfl (by decide) rfl ?_
        have loop : ∀ (j : Nat) (k : Nat), p 0 - k = j → (k ≤ p 0) → zAt G miX10_about (zRm (d + 2) 0 0) (zQ G (zI (r_about p (nI l) (nI u)) (mm M p) X) 0 0) 40 [some (.ref 160), some (.int (nI l)), some (.int (nI u)), some (.int (setOf (fun k => p (50 + 5 * l + 4) = 0 ∧ p (50 + 5 * l + 3) ≤ feelsN (p (10 + 5 * k + 0)) (p (10 + 5 * k + (2 + p (50 + 5 * l + 2))))) k)), some (.int (nI k))] [] (mm M p) X (0, 0) := by
          intro j
          induction j using Nat.strongRecOn with
          | ind j ih =>
            intro k hj hk0
            refine j_iload (n := 42) dX10_about_40 rfl rfl ?_
            refine j_aload_n (n := 43) dX10_about_42 rfl rfl ?_
            refine jm_get (n := 46) (k := 0) (b := 161) dX10_about_43 rfl fX10_7 rfl (by decide) hk ?_
            refine j_iconst (n := 47) (v := nI 0) dX10_about_46 rfl rfl ?_
            refine jm_ald (n := 48) (L := 3100) (a := 161) (i := 0) (v := nI (p 0)) dX10_about_47 rfl hk rfl (by omega) rfl ?_
            refine j_icmp_geT (n := 51) (tg := 78) dX10_about_48 rfl rfl (i_N (by omega)) (i_N (by omega)) (fun h4 => ?_) (fun h4 => ?_)
            · refine j_iload_n (n := 79) dX10_about_78 rfl rfl ?_
              exact j_ri dX10_about_79 rfl (Nat.le_refl _) (Nat.le_refl _) (by unfold r_about; rw [if_neg (by omega), if_neg (by omega), el, show k = p 0 by omega]) rfl rfl
            · refine j_iload_n (n := 52) dX10_about_51 rfl rfl ?_
              refine j_aload_n (n := 53) dX10_about_52 rfl rfl ?_
              refine j_iload_n (n := 54) dX10_about_53 rfl rfl ?_
              refine j_iload (n := 56) dX10_about_54 rfl rfl ?_
              refine j_cV (n := 59) dX10_about_56 rfl sX10_153 (c_isOpen d G _ _ hk _ hw hwl l k (by omega) (by omega)) (by omega) (by decide) rfl rfl (Nat.le_of_ble_eq_true rfl) (hk).2.1 (by decide) (kM_lt hk) (by decide) (by decide) ?_
              refine j_if_eqB (n := 62) (tg := 69) dX10_about_59 rfl rfl (fun h5 => ?_) (fun h5 => ?_)
              · refine j_iconst (n := 70) (v := nI 0) dX10_about_69 rfl rfl ?_
                refine j_ior (n := 71) dX10_about_70 rfl ?_
                refine j_istore_n (n := 72) (lv2 := [some (.ref 160), some (.int (nI l)), some (.int (nI u)), some (.int ((setOf (fun k => p (50 + 5 * l + 4) = 0 ∧ p (50 + 5 * l + 3) ≤ feelsN (p (10 + 5 * k + 0)) (p (10 + 5 * k + (2 + p (50 + 5 * l + 2))))) k) ||| (nI 0))), some (.int (nI k))]) dX10_about_71 rfl rfl (by decide) rfl ?_
                refine j_iinc (n := 75) (y := nI (k + 1)) (lv2 := [some (.ref 160), some (.int (nI l)), some (.int (nI u)), some (.int ((setOf (fun k => p (50 + 5 * l + 4) = 0 ∧ p (50 + 5 * l + 3) ≤ feelsN (p (10 + 5 * k + 0)) (p (10 + 5 * k + (2 + p (50 + 5 * l + 2))))) k) ||| (nI 0))), some (.int (nI (k + 1)))]) dX10_about_72 rfl rfl (by decide) rfl (show nI k + nI 1 = nI (k + 1) by rw [nI_add]) rfl ?_
                refine j_goto (n := 40) dX10_about_75 rfl ?_
                have e1 : (setOf (fun k => p (50 + 5 * l + 4) = 0 ∧ p (50 + 5 * l + 3) ≤ feelsN (p (10 + 5 * k + 0)) (p (10 + 5 * k + (2 + p (50 + 5 * l + 2))))) k) ||| (nI 0) = setOf (fun k => p (50 + 5 * l + 4) = 0 ∧ p (50 + 5 * l + 3) ≤ feelsN (p (10 + 5 * k + 0)) (p (10 + 5 * k + (2 + p (50 + 5 * l + 2))))) (k + 1) := by first | (rw [setOf, if_pos (by assumption)]; done) | (rw [setOf, if_neg (by assumption)])
                rw [e1]
                exact ih _ (by omega) (k + 1) rfl (by omega)
              · refine j_iconst (n := 63) (v := nI 1) dX10_about_62 rfl rfl ?_
                refine j_iload (n := 65) dX10_about_63 rfl rfl ?_
                refine j_ishl (n := 66) dX10_about_65 rfl ?_
                refine j_goto (n := 70) dX10_about_66 rfl ?_
                refine j_ior (n := 71) dX10_about_70 rfl ?_
                refine j_istore_n (n := 72) (lv2 := [some (.ref 160), some (.int (nI l)), some (.int (nI u)), some (.int ((setOf (fun k => p (50 + 5 * l + 4) = 0 ∧ p (50 + 5 * l + 3) ≤ feelsN (p (10 + 5 * k + 0)) (p (10 + 5 * k + (2 + p (50 + 5 * l + 2))))) k) ||| ((nI 1) <<< ((nI k) &&& 31)))), some (.int (nI k))]) dX10_about_71 rfl rfl (by decide) rfl ?_
                refine j_iinc (n := 75) (y := nI (k + 1)) (lv2 := [some (.ref 160), some (.int (nI l)), some (.int (nI u)), some (.int ((setOf (fun k => p (50 + 5 * l + 4) = 0 ∧ p (50 + 5 * l + 3) ≤ feelsN (p (10 + 5 * k + 0)) (p (10 + 5 * k + (2 + p (50 + 5 * l + 2))))) k) ||| ((nI 1) <<< ((nI k) &&& 31)))), some (.int (nI (k + 1)))]) dX10_about_72 rfl rfl (by decide) rfl (show nI k + nI 1 = nI (k + 1) by rw [nI_add]) rfl ?_
                refine j_goto (n := 40) dX10_about_75 rfl ?_
                have e1 : (setOf (fun k => p (50 + 5 * l + 4) = 0 ∧ p (50 + 5 * l + 3) ≤ feelsN (p (10 + 5 * k + 0)) (p (10 + 5 * k + (2 + p (50 + 5 * l + 2))))) k) ||| ((nI 1) <<< ((nI k) &&& 31)) = setOf (fun k => p (50 + 5 * l + 4) = 0 ∧ p (50 + 5 * l + 3) ≤ feelsN (p (10 + 5 * k + 0)) (p (10 + 5 * k + (2 + p (50 + 5 * l + 2))))) (k + 1) := by first | (rw [setOf, if_pos (by assumption)]; done) | (rw [setOf, if_neg (by assumption)])
                rw [e1]
                exact ih _ (by omega) (k + 1) rfl (by omega)
        exact loop _ 0 rfl (Nat.zero_le _)
      · refine j_aload_n (n := 29) dX10_about_28 rfl rfl ?_
        refine j_iload_n (n := 30) dX10_about_29 rfl rfl ?_
        refine j_iload_n (n := 31) dX10_about_30 rfl rfl ?_
        refine j_cV (n := 34) dX10_about_31 rfl sX10_147 (c_lockOf (d + 1) G _ _ hk _ l u (by omega)) (by omega) (by decide) rfl rfl (Nat.le_of_ble_eq_true rfl) (hk).2.1 (by decide) (kM_lt hk) (by decide) (by decide) ?_
        exact j_ri dX10_about_34 rfl (Nat.le_refl _) (Nat.le_refl _) (by unfold r_about; (try simp only [el, eu]); repeat (first | rw [if_pos (by omega)] | rw [if_neg (by omega)])) rfl rfl
    · refine j_ldc (n := 22) (v := -1000000001) dX10_about_20 rfl kX10_93 ?_
      exact j_ri dX10_about_22 rfl (Nat.le_refl _) (Nat.le_refl _) (by unfold r_about; (try simp only [el, eu]); repeat (first | rw [if_pos (by omega)] | rw [if_neg (by omega)])) rfl rfl
def r_sets (p : Nat → Nat) (lock what v : Int32) : Int32 := if (0 ≤ lock.toInt ∧ lock.toInt ≤ (p 8 : Int) - 1) ∧ (0 ≤ what.toInt ∧ what.toInt ≤ 3) ∧ (0 ≤ v.toInt ∧ v.toInt ≤ 99) ∧ (what.toInt < 2 → v.toInt ≤ 7) ∧ (what.toInt = 2 → v.toInt ≤ 2) then nI (p (50 + 5 * tN lock + tN what)) else cBAD
def q_sets (p : Nat → Nat) (lock what v : Int32) : Nat → Nat := if (0 ≤ lock.toInt ∧ lock.toInt ≤ (p 8 : Int) - 1) ∧ (0 ≤ what.toInt ∧ what.toInt ≤ 3) ∧ (0 ≤ v.toInt ∧ v.toInt ≤ 99) ∧ (what.toInt < 2 → v.toInt ≤ 7) ∧ (what.toInt = 2 → v.toInt ≤ 2) then pu p (50 + 5 * tN lock + tN what) (tN v) else p
theorem c_sets (d : Nat) (G : zG) (M : zMem) (X : zX) (hk : kM X) (p : Nat → Nat) (hn : p 8 ≤ 10) (lock what v : Int32) : zCall G miX10_sets (d + 2) [.ref 160, .int lock, .int what, .int v] (zI (r_sets p lock what v) (mm M (q_sets p lock what v)) X) (mm M p) X 0 0 := by
  refine zCall.of (lv := [some (.ref 160), some (.int lock), some (.int what), some (.int v)]) (by decide) (Nat.le_of_ble_eq_true rfl) rfl ?_
  refine j_aload_n (n := 1) dX10_sets_0 rfl rfl ?_
  refine j_iload_n (n := 2) dX10_sets_1 rfl rfl ?_
  refine j_cV (n := 5) dX10_sets_2 rfl sX10_150 (c_isLock d G _ _ hk _ (by omega) _) (by omega) (by decide) rfl rfl (Nat.le_of_ble_eq_true rfl) (hk).2.1 (by decide) (kM_lt hk) (by decide) (by decide) ?_
  refine j_if_eqB (n := 8) (tg := 54) dX10_sets_5 rfl rfl (fun h1 => ?_) (fun h1 => ?_)
  · refine j_ldc (n := 56) (v := -1000000001) dX10_sets_54 rfl kX10_93 ?_
    exact j_ri dX10_sets_56 rfl (Nat.le_refl _) (Nat.le_refl _) (by unfold r_sets; (try simp only [el, ew, ex]); repeat (first | rw [if_pos (by omega)] | rw [if_neg (by omega)])) (by unfold q_sets; (try simp only [el, ew, ex]); repeat (first | rw [if_pos (by omega)] | rw [if_neg (by omega)])) rfl
  · refine j_iload_n (n := 9) dX10_sets_8 rfl rfl ?_
    refine j_i2l (n := 10) dX10_sets_9 rfl ?_
    refine j_lconst (n := 11) (v := lN 0) dX10_sets_10 rfl rfl ?_
    refine j_ldc2 (n := 14) (v := lN 3) dX10_sets_11 rfl kX10_156 ?_
    refine j_cS (n := 17) dX10_sets_14 rfl sX10_71 (c_isInI (x := what.toInt) (a := 0) (b := 3) (d + 1) G _ _ _ _ _ (l_toInt _) rfl rfl) (by omega) (by decide) rfl rfl (Nat.le_of_ble_eq_true rfl) (by decide) (by decide) ?_
    refine j_if_eqB (n := 20) (tg := 54) dX10_sets_17 rfl rfl (fun h2 => ?_) (fun h2 => ?_)
    · refine j_ldc (n := 56) (v := -1000000001) dX10_sets_54 rfl kX10_93 ?_
      exact j_ri dX10_sets_56 rfl (Nat.le_refl _) (Nat.le_refl _) (by unfold r_sets; (try simp only [el, ew, ex]); repeat (first | rw [if_pos (by omega)] | rw [if_neg (by omega)])) (by unfold q_sets; (try simp only [el, ew, ex]); repeat (first | rw [if_pos (by omega)] | rw [if_neg (by omega)])) rfl
    · obtain ⟨l, hl1, rfl⟩ := i_of (x := lock) (n := p 8) (by omega) (by omega)
      have el : tN (nI l) = l := tN_nI (by omega)
      have il : (nI l).toInt = l := i_N (by omega)
      obtain ⟨w, hw, rfl⟩ := i_of (x := what) (n := 4) (by omega) (by omega)
      have ew : tN (nI w) = w := tN_nI (by omega)
      have iw : (nI w).toInt = w := i_N (by omega)
      refine j_iload_n (n := 21) dX10_sets_20 rfl rfl ?_
      refine j_i2l (n := 22) dX10_sets_21 rfl ?_
      refine j_lconst (n := 23) (v := lN 0) dX10_sets_22 rfl rfl ?_
      refine j_iload_n (n := 24) dX10_sets_23 rfl rfl ?_
      refine j_iconst (n := 25) (v := nI 2) dX10_sets_24 rfl rfl ?_
      refine j_icmp_geT (n := 28) (tg := 34) dX10_sets_25 rfl rfl (i_N (by omega)) (i_N (by omega)) (fun h3 => ?_) (fun h3 => ?_)
      · refine j_iload_n (n := 35) dX10_sets_34 rfl rfl ?_
        refine j_iconst (n := 36) (v := nI 2) dX10_sets_35 rfl rfl ?_
        refine j_icmp_neT (n := 39) (tg := 45) dX10_sets_36 rfl rfl (i_N (by omega)) (i_N (by omega)) (fun h4 => ?_) (fun h4 => ?_)
        · refine j_ldc2 (n := 48) (v := lN 99) dX10_sets_45 rfl kX10_78 ?_
          refine j_cS (n := 51) dX10_sets_48 rfl sX10_71 (c_isInI (x := v.toInt) (a := 0) (b := 99) (d + 1) G _ _ _ _ _ (l_toInt _) rfl rfl) (by omega) (by decide) rfl rfl (Nat.le_of_ble_eq_true rfl) (by decide) (by decide) ?_
          refine j_if_neB (n := 54) (tg := 57) dX10_sets_51 rfl rfl (fun h5 => ?_) (fun h5 => ?_)
          · obtain ⟨x, hx, rfl⟩ := i_of (x := v) (n := 100) (by omega) (by omega)
            have ex : tN (nI x) = x := tN_nI (by omega)
            have ix : (nI x).toInt = x := i_N (by omega)
            refine j_aload_n (n := 58) dX10_sets_57 rfl rfl ?_
            refine j_bipush (n := 60) (v := nI 50) dX10_sets_58 rfl (by decide) ?_
            refine j_iconst (n := 61) (v := nI 5) dX10_sets_60 rfl rfl ?_
            refine j_iload_n (n := 62) dX10_sets_61 rfl rfl ?_
            refine j_imulN (n := 63) (c := 5 * l) dX10_sets_62 rfl rfl ?_
            refine j_iaddN (n := 64) (c := 50 + 5 * l) dX10_sets_63 rfl rfl ?_
            refine j_iload_n (n := 65) dX10_sets_64 rfl rfl ?_
            refine j_iaddN (n := 66) (c := 50 + 5 * l + w) dX10_sets_65 rfl rfl ?_
            refine j_iload_n (n := 67) dX10_sets_66 rfl rfl ?_
            refine j_cV (n := 70) dX10_sets_67 rfl sX10_136 (c_changes (d + 1) G _ _ hk _ (50 + 5 * l + w) x (by omega)) (by omega) (by decide) rfl rfl (Nat.le_of_ble_eq_true rfl) (hk).2.1 (by decide) (kM_lt hk) (by decide) (by decide) ?_
            exact j_ri dX10_sets_70 rfl (Nat.le_refl _) (Nat.le_refl _) (by unfold r_sets; (try simp only [el, ew, ex]); repeat (first | rw [if_pos (by omega)] | rw [if_neg (by omega)])) (by unfold q_sets; (try simp only [el, ew, ex]); repeat (first | rw [if_pos (by omega)] | rw [if_neg (by omega)])) rfl
          · refine j_ldc (n := 56) (v := -1000000001) dX10_sets_54 rfl kX10_93 ?_
            exact j_ri dX10_sets_56 rfl (Nat.le_refl _) (Nat.le_refl _) (by unfold r_sets; (try simp only [el, ew, ex]); repeat (first | rw [if_pos (by omega)] | rw [if_neg (by omega)])) (by unfold q_sets; (try simp only [el, ew, ex]); repeat (first | rw [if_pos (by omega)] | rw [if_neg (by omega)])) rfl
        · refine j_ldc2 (n := 42) (v := lN 2) dX10_sets_39 rfl kX10_141 ?_
          refine j_goto (n := 48) dX10_sets_42 rfl ?_
          refine j_cS (n := 51) dX10_sets_48 rfl sX10_71 (c_isInI (x := v.toInt) (a := 0) (b := 2) (d + 1) G _ _ _ _ _ (l_toInt _) rfl rfl) (by omega) (by decide) rfl rfl (Nat.le_of_ble_eq_true rfl) (by decide) (by decide) ?_
          refine j_if_neB (n := 54) (tg := 57) dX10_sets_51 rfl rfl (fun h6 => ?_) (fun h6 => ?_)
          · obtain ⟨x, hx, rfl⟩ := i_of (x := v) (n := 100) (by omega) (by omega)
            have ex : tN (nI x) = x := tN_nI (by omega)
            have ix : (nI x).toInt = x := i_N (by omega)
            refine j_aload_n (n := 58) dX10_sets_57 rfl rfl ?_
            refine j_bipush (n := 60) (v := nI 50) dX10_sets_58 rfl (by decide) ?_
            refine j_iconst (n := 61) (v := nI 5) dX10_sets_60 rfl rfl ?_
            refine j_iload_n (n := 62) dX10_sets_61 rfl rfl ?_
            refine j_imulN (n := 63) (c := 5 * l) dX10_sets_62 rfl rfl ?_
            refine j_iaddN (n := 64) (c := 50 + 5 * l) dX10_sets_63 rfl rfl ?_
            refine j_iload_n (n := 65) dX10_sets_64 rfl rfl ?_
            refine j_iaddN (n := 66) (c := 50 + 5 * l + w) dX10_sets_65 rfl rfl ?_
            refine j_iload_n (n := 67) dX10_sets_66 rfl rfl ?_
            refine j_cV (n := 70) dX10_sets_67 rfl sX10_136 (c_changes (d + 1) G _ _ hk _ (50 + 5 * l + w) x (by omega)) (by omega) (by decide) rfl rfl (Nat.le_of_ble_eq_true rfl) (hk).2.1 (by decide) (kM_lt hk) (by decide) (by decide) ?_
            exact j_ri dX10_sets_70 rfl (Nat.le_refl _) (Nat.le_refl _) (by unfold r_sets; (try simp only [el, ew, ex]); repeat (first | rw [if_pos (by omega)] | rw [if_neg (by omega)])) (by unfold q_sets; (try simp only [el, ew, ex]); repeat (first | rw [if_pos (by omega)] | rw [if_neg (by omega)])) rfl
          · refine j_ldc (n := 56) (v := -1000000001) dX10_sets_54 rfl kX10_93 ?_
            exact j_ri dX10_sets_56 rfl (Nat.le_refl _) (Nat.le_refl _) (by unfold r_sets; (try simp only [el, ew, ex]); repeat (first | rw [if_pos (by omega)] | rw [if_neg (by omega)])) (by unfold q_sets; (try simp only [el, ew, ex]); repeat (first | rw [if_pos (by omega)] | rw [if_neg (by omega)])) rfl
      · refine j_ldc2 (n := 31) (v := lN 7) dX10_sets_28 rfl kX10_76 ?_
        refine j_goto (n := 48) dX10_sets_31 rfl ?_
        refine j_cS (n := 51) dX10_sets_48 rfl sX10_71 (c_isInI (x := v.toInt) (a := 0) (b := 7) (d + 1) G _ _ _ _ _ (l_toInt _) rfl rfl) (by omega) (by decide) rfl rfl (Nat.le_of_ble_eq_true rfl) (by decide) (by decide) ?_
        refine j_if_neB (n := 54) (tg := 57) dX10_sets_51 rfl rfl (fun h7 => ?_) (fun h7 => ?_)
        · obtain ⟨x, hx, rfl⟩ := i_of (x := v) (n := 100) (by omega) (by omega)
          have ex : tN (nI x) = x := tN_nI (by omega)
          have ix : (nI x).toInt = x := i_N (by omega)
          refine j_aload_n (n := 58) dX10_sets_57 rfl rfl ?_
          refine j_bipush (n := 60) (v := nI 50) dX10_sets_58 rfl (by decide) ?_
          refine j_iconst (n := 61) (v := nI 5) dX10_sets_60 rfl rfl ?_
          refine j_iload_n (n := 62) dX10_sets_61 rfl rfl ?_
          refine j_imulN (n := 63) (c := 5 * l) dX10_sets_62 rfl rfl ?_
          refine j_iaddN (n := 64) (c := 50 + 5 * l) dX10_sets_63 rfl rfl ?_
          refine j_iload_n (n := 65) dX10_sets_64 rfl rfl ?_
          refine j_iaddN (n := 66) (c := 50 + 5 * l + w) dX10_sets_65 rfl rfl ?_
          refine j_iload_n (n := 67) dX10_sets_66 rfl rfl ?_
          refine j_cV (n := 70) dX10_sets_67 rfl sX10_136 (c_changes (d + 1) G _ _ hk _ (50 + 5 * l + w) x (by omega)) (by omega) (by decide) rfl rfl (Nat.le_of_ble_eq_true rfl) (hk).2.1 (by decide) (kM_lt hk) (by decide) (by decide) ?_
          exact j_ri dX10_sets_70 rfl (Nat.le_refl _) (Nat.le_refl _) (by unfold r_sets; (try simp only [el, ew, ex]); repeat (first | rw [if_pos (by omega)] | rw [if_neg (by omega)])) (by unfold q_sets; (try simp only [el, ew, ex]); repeat (first | rw [if_pos (by omega)] | rw [if_neg (by omega)])) rfl
        · refine j_ldc (n := 56) (v := -1000000001) dX10_sets_54 rfl kX10_93 ?_
          exact j_ri dX10_sets_56 rfl (Nat.le_refl _) (Nat.le_refl _) (by unfold r_sets; (try simp only [el, ew, ex]); repeat (first | rw [if_pos (by omega)] | rw [if_neg (by omega)])) (by unfold q_sets; (try simp only [el, ew, ex]); repeat (first | rw [if_pos (by omega)] | rw [if_neg (by omega)])) rfl
def r_mends (p : Nat → Nat) (lock : Int32) : Int32 := if ¬ (0 ≤ lock.toInt ∧ lock.toInt ≤ (p 8 : Int) - 1) then cBAD else if p (50 + 5 * tN lock + 4) = 1 then nI 1 else cNO
def q_mends (p : Nat → Nat) (lock : Int32) : Nat → Nat := if ¬ (0 ≤ lock.toInt ∧ lock.toInt ≤ (p 8 : Int) - 1) then p else pu p (50 + 5 * tN lock + 4) 0
theorem c_mends (d : Nat) (G : zG) (M : zMem) (X : zX) (hk : kM X) (p : Nat → Nat) (hwl : wfL p) (lock : Int32) : zCall G miX10_mends (d + 2) [.ref 160, .int lock] (zI (r_mends p lock) (mm M (q_mends p lock)) X) (mm M p) X 0 0 := by
  refine zCall.of (lv := [some (.ref 160), some (.int lock)]) (by decide) (Nat.le_of_ble_eq_true rfl) rfl ?_
  have hw1 := hwl.1
  refine j_aload_n (n := 1) dX10_mends_0 rfl rfl ?_
  refine j_iload_n (n := 2) dX10_mends_1 rfl rfl ?_
  refine j_cV (n := 5) dX10_mends_2 rfl sX10_150 (c_isLock d G _ _ hk _ (by omega) _) (by omega) (by decide) rfl rfl (Nat.le_of_ble_eq_true rfl) (hk).2.1 (by decide) (kM_lt hk) (by decide) (by decide) ?_
  refine j_if_neB (n := 8) (tg := 11) dX10_mends_5 rfl rfl (fun h1 => ?_) (fun h1 => ?_)
  · obtain ⟨l, hl1, rfl⟩ := i_of (x := lock) (n := p 8) (by omega) (by omega)
    have el : tN (nI l) = l := tN_nI (by omega)
    have il : (nI l).toInt = l := i_N (by omega)
    have hl := hwl.2 l hl1
    refine j_aload_n (n := 12) dX10_mends_11 rfl rfl ?_
    refine j_bipush (n := 14) (v := nI 50) dX10_mends_12 rfl (by decide) ?_
    refine j_iconst (n := 15) (v := nI 5) dX10_mends_14 rfl rfl ?_
    refine j_iload_n (n := 16) dX10_mends_15 rfl rfl ?_
    refine j_imulN (n := 17) (c := 5 * l) dX10_mends_16 rfl rfl ?_
    refine j_iaddN (n := 18) (c := 50 + 5 * l) dX10_mends_17 rfl rfl ?_
    refine j_iconst (n := 19) (v := nI 4) dX10_mends_18 rfl rfl ?_
    refine j_iaddN (n := 20) (c := 50 + 5 * l + 4) dX10_mends_19 rfl rfl ?_
    refine j_iconst (n := 21) (v := nI 0) dX10_mends_20 rfl rfl ?_
    refine j_cV (n := 24) dX10_mends_21 rfl sX10_136 (c_changes (d + 1) G _ _ hk _ (50 + 5 * l + 4) 0 (by omega)) (by omega) (by decide) rfl rfl (Nat.le_of_ble_eq_true rfl) (hk).2.1 (by decide) (kM_lt hk) (by decide) (by decide) ?_
    refine j_iconst (n := 25) (v := nI 1) dX10_mends_24 rfl rfl ?_
    refine j_icmp_neT (n := 28) (tg := 32) dX10_mends_25 rfl rfl (i_N (by omega)) (i_N (by omega)) (fun h2 => ?_) (fun h2 => ?_)
    · refine j_ldc (n := 34) (v := -1000000002) dX10_mends_32 rfl kX10_158 ?_
      exact j_ri dX10_mends_34 rfl (Nat.le_refl _) (Nat.le_refl _) (by unfold r_mends; (try simp only [el]); repeat (first | rw [if_pos (by omega)] | rw [if_neg (by omega)])) (by unfold q_mends; (try simp only [el]); repeat (first | rw [if_pos (by omega)] | rw [if_neg (by omega)])) rfl
    · refine j_iconst (n := 29) (v := nI 1) dX10_mends_28 rfl rfl ?_
      refine j_goto (n := 34) dX10_mends_29 rfl ?_
      exact j_ri dX10_mends_34 rfl (Nat.le_refl _) (Nat.le_refl _) (by unfold r_mends; (try simp only [el]); repeat (first | rw [if_pos (by omega)] | rw [if_neg (by omega)])) (by unfold q_mends; (try simp only [el]); repeat (first | rw [if_pos (by omega)] | rw [if_neg (by omega)])) rfl
  · refine j_ldc (n := 10) (v := -1000000001) dX10_mends_8 rfl kX10_93 ?_
    exact j_ri dX10_mends_10 rfl (Nat.le_refl _) (Nat.le_refl _) (by unfold r_mends; (try simp only [el]); repeat (first | rw [if_pos (by omega)] | rw [if_neg (by omega)])) (by unfold q_mends; (try simp only [el]); repeat (first | rw [if_pos (by omega)] | rw [if_neg (by omega)])) rfl
def r_rule (p : Nat → Nat) (what v : Int32) : Int32 := if (0 ≤ what.toInt ∧ what.toInt ≤ 1) ∧ (0 ≤ v.toInt ∧ v.toInt ≤ 100) then nI (p (6 + tN what)) else cBAD
def q_rule (p : Nat → Nat) (what v : Int32) : Nat → Nat := if (0 ≤ what.toInt ∧ what.toInt ≤ 1) ∧ (0 ≤ v.toInt ∧ v.toInt ≤ 100) then pu p (6 + tN what) (tN v) else p
theorem c_rule (d : Nat) (G : zG) (M : zMem) (X : zX) (hk : kM X) (p : Nat → Nat) (what v : Int32) : zCall G miX10_rule (d + 1) [.ref 160, .int what, .int v] (zI (r_rule p what v) (mm M (q_rule p what v)) X) (mm M p) X 0 0 := by
  refine zCall.of (lv := [some (.ref 160), some (.int what), some (.int v)]) (by decide) (Nat.le_of_ble_eq_true rfl) rfl ?_
  refine j_iload_n (n := 1) dX10_rule_0 rfl rfl ?_
  refine j_i2l (n := 2) dX10_rule_1 rfl ?_
  refine j_lconst (n := 3) (v := lN 0) dX10_rule_2 rfl rfl ?_
  refine j_lconst (n := 4) (v := lN 1) dX10_rule_3 rfl rfl ?_
  refine j_cS (n := 7) dX10_rule_4 rfl sX10_71 (c_isInI (x := what.toInt) (a := 0) (b := 1) d G _ _ _ _ _ (l_toInt _) rfl rfl) (by omega) (by decide) rfl rfl (Nat.le_of_ble_eq_true rfl) (by decide) (by decide) ?_
  refine j_if_eqB (n := 10) (tg := 34) dX10_rule_7 rfl rfl (fun h1 => ?_) (fun h1 => ?_)
  · refine j_ldc (n := 36) (v := -1000000001) dX10_rule_34 rfl kX10_93 ?_
    exact j_ri dX10_rule_36 rfl (Nat.le_refl _) (Nat.le_refl _) (by unfold r_rule; (try simp only [ew, ex]); repeat (first | rw [if_pos (by omega)] | rw [if_neg (by omega)])) (by unfold q_rule; (try simp only [ew, ex]); repeat (first | rw [if_pos (by omega)] | rw [if_neg (by omega)])) rfl
  · refine j_iload_n (n := 11) dX10_rule_10 rfl rfl ?_
    refine j_i2l (n := 12) dX10_rule_11 rfl ?_
    refine j_lconst (n := 13) (v := lN 0) dX10_rule_12 rfl rfl ?_
    refine j_ldc2 (n := 16) (v := lN 100) dX10_rule_13 rfl kX10_159 ?_
    refine j_cS (n := 19) dX10_rule_16 rfl sX10_71 (c_isInI (x := v.toInt) (a := 0) (b := 100) d G _ _ _ _ _ (l_toInt _) rfl rfl) (by omega) (by decide) rfl rfl (Nat.le_of_ble_eq_true rfl) (by decide) (by decide) ?_
    refine j_if_eqB (n := 22) (tg := 34) dX10_rule_19 rfl rfl (fun h2 => ?_) (fun h2 => ?_)
    · refine j_ldc (n := 36) (v := -1000000001) dX10_rule_34 rfl kX10_93 ?_
      exact j_ri dX10_rule_36 rfl (Nat.le_refl _) (Nat.le_refl _) (by unfold r_rule; (try simp only [ew, ex]); repeat (first | rw [if_pos (by omega)] | rw [if_neg (by omega)])) (by unfold q_rule; (try simp only [ew, ex]); repeat (first | rw [if_pos (by omega)] | rw [if_neg (by omega)])) rfl
    · obtain ⟨w, hw, rfl⟩ := i_of (x := what) (n := 2) (by omega) (by omega)
      have ew : tN (nI w) = w := tN_nI (by omega)
      have iw : (nI w).toInt = w := i_N (by omega)
      obtain ⟨x, hx, rfl⟩ := i_of (x := v) (n := 101) (by omega) (by omega)
      have ex : tN (nI x) = x := tN_nI (by omega)
      have ix : (nI x).toInt = x := i_N (by omega)
      refine j_aload_n (n := 23) dX10_rule_22 rfl rfl ?_
      refine j_bipush (n := 25) (v := nI 6) dX10_rule_23 rfl (by decide) ?_
      refine j_iload_n (n := 26) dX10_rule_25 rfl rfl ?_
      refine j_iaddN (n := 27) (c := 6 + w) dX10_rule_26 rfl rfl ?_
      refine j_iload_n (n := 28) dX10_rule_27 rfl rfl ?_
      refine j_cV (n := 31) dX10_rule_28 rfl sX10_136 (c_changes d G _ _ hk _ (6 + w) x (by omega)) (by omega) (by decide) rfl rfl (Nat.le_of_ble_eq_true rfl) (hk).2.1 (by decide) (kM_lt hk) (by decide) (by decide) ?_
      refine j_goto (n := 36) dX10_rule_31 rfl ?_
      exact j_ri dX10_rule_36 rfl (Nat.le_refl _) (Nat.le_refl _) (by unfold r_rule; (try simp only [ew, ex]); repeat (first | rw [if_pos (by omega)] | rw [if_neg (by omega)])) (by unfold q_rule; (try simp only [ew, ex]); repeat (first | rw [if_pos (by omega)] | rw [if_neg (by omega)])) rfl
theorem c_seed (d : Nat) (G : zG) (M : zMem) (X : zX) (hk : kM X) (p : Nat → Nat) (v : Int32) : zCall G miX10_seed (d + 1) [.ref 160, .int v] (zI (nI (p 9)) (mm M (pu p 9 (tN v))) X) (mm M p) X 0 0 := by
  refine zCall.of (lv := [some (.ref 160), some (.int v)]) (by decide) (Nat.le_of_ble_eq_true rfl) rfl ?_
  refine j_aload_n (n := 1) dX10_seed_0 rfl rfl ?_
  refine j_bipush (n := 3) (v := nI 9) dX10_seed_1 rfl (by decide) ?_
  refine j_iload_n (n := 4) dX10_seed_3 rfl rfl ?_
  refine j_top (nI_tN v).symm ?_
  refine j_cV (n := 7) dX10_seed_4 rfl sX10_136 (c_changes d G _ _ hk _ 9 (tN v) (by omega)) (by omega) (by decide) rfl rfl (Nat.le_of_ble_eq_true rfl) (hk).2.1 (by decide) (kM_lt hk) (by decide) (by decide) ?_
  exact j_ri dX10_seed_7 rfl (Nat.le_refl _) (Nat.le_refl _) rfl rfl rfl
