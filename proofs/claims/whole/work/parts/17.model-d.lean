-- MODEL D: by program (wip/whole/gen/b4.py)
theorem c_counts (d : Nat) (G : zG) (M : zMem) (X : zX) (hk : kM X) (p : Nat → Nat) (hw : wfT p) (key : Nat) (hkey : key ≤ 2) : zCall G miX10_counts (d + 1) [.ref 160, .int (nI key)] (zI (cntV (cnt p key (p 1))) (mm M p) X) (mm M p) X 0 0 := by
  refine zCall.of (lv := [some (.ref 160), some (.int (nI key)), none, none]) (by decide) (Nat.le_of_ble_eq_true rfl) rfl ?_
  have hw0 := hw.1
  refine j_iconst (n := 1) (v := (-1)) dX10_counts_0 rfl rfl ?_
  refine j_istore_n (n := 2) (lv2 := [some (.ref 160), some (.int (nI key)), some (.int (-1)), none]) dX10_counts_1 rfl rfl (by decide) rfl ?_
  refine j_iconst (n := 3) (v := nI 0) dX10_counts_2 rfl rfl ?_
  refine j_istore_n (n := 4) (lv2 := [some (.ref 160), some (.int (nI key)), some (.int (-1)), some (.int (nI 0))]) dX10_counts_3 rfl rfl (by decide) rfl ?_
  have loop : ∀ (j : Nat) (k : Nat), p 1 - k = j → (k ≤ p 1) → zAt G miX10_counts (zRm (d + 1) 0 0) (zQ G (zI (cntV (cnt p key (p 1))) (mm M p) X) 0 0) 4 [some (.ref 160), some (.int (nI key)), some (.int (cntV (cnt p key k))), some (.int (nI k))] [] (mm M p) X (0, 0) := by
    intro j
    induction j using Nat.strongRecOn with
    | ind j ih =>
      intro k hj hk0
      refine j_iload_n (n := 5) dX10_counts_4 rfl rfl ?_
      refine j_aload_n (n := 6) dX10_counts_5 rfl rfl ?_
      refine jm_get (n := 9) (k := 0) (b := 161) dX10_counts_6 rfl fX10_7 rfl (by decide) hk ?_
      refine j_iconst (n := 10) (v := nI 1) dX10_counts_9 rfl rfl ?_
      refine jm_ald (n := 11) (L := 3100) (a := 161) (i := 1) (v := nI (p 1)) dX10_counts_10 rfl hk rfl (by omega) rfl ?_
      refine j_icmp_geT (n := 14) (tg := 40) dX10_counts_11 rfl rfl (i_N (by omega)) (i_N (by omega)) (fun h1 => ?_) (fun h1 => ?_)
      · refine j_iload_n (n := 41) dX10_counts_40 rfl rfl ?_
        exact j_ri dX10_counts_41 rfl (Nat.le_refl _) (Nat.le_refl _) (by rw [show k = p 1 by omega]) rfl rfl
      · refine j_aload_n (n := 15) dX10_counts_14 rfl rfl ?_
        refine jm_get (n := 18) (k := 0) (b := 161) dX10_counts_15 rfl fX10_7 rfl (by decide) hk ?_
        refine j_aload_n (n := 19) dX10_counts_18 rfl rfl ?_
        refine j_iload_n (n := 20) dX10_counts_19 rfl rfl ?_
        refine j_cV (n := 23) dX10_counts_20 rfl sX10_292 (c_textAt d G _ _ k) (by omega) (by decide) rfl rfl (Nat.le_of_ble_eq_true rfl) (hk).2.1 (by decide) (kM_lt hk) (by decide) (by decide) ?_
        refine jm_ald (n := 24) (L := 3100) (a := 161) (i := 100 + 200 * k) (v := nI (p (100 + 200 * k))) dX10_counts_23 rfl hk rfl (by omega) rfl ?_
        have hx := (hw.2 k (by omega)).1
        refine j_iload_n (n := 25) dX10_counts_24 rfl rfl ?_
        refine j_icmp_neT (n := 28) (tg := 32) dX10_counts_25 rfl rfl (i_N (by omega)) (i_N (by omega)) (fun h2 => ?_) (fun h2 => ?_)
        · refine j_iload_n (n := 33) dX10_counts_32 rfl rfl ?_
          refine j_istore_n (n := 34) (lv2 := [some (.ref 160), some (.int (nI key)), some (.int (cntV (cnt p key k))), some (.int (nI k))]) dX10_counts_33 rfl rfl (by decide) rfl ?_
          refine j_iinc (n := 37) (y := nI (k + 1)) (lv2 := [some (.ref 160), some (.int (nI key)), some (.int (cntV (cnt p key k))), some (.int (nI (k + 1)))]) dX10_counts_34 rfl rfl (by decide) rfl (show nI k + nI 1 = nI (k + 1) by rw [nI_add]) rfl ?_
          refine j_goto (n := 4) dX10_counts_37 rfl ?_
          have e1 : cntV (cnt p key k) = cntV (cnt p key (k + 1)) := by first | (rw [cnt, if_pos (by omega)]; rfl) | (rw [cnt, if_neg (by omega)])
          rw [e1]
          exact ih _ (by omega) (k + 1) rfl (by omega)
        · refine j_iload_n (n := 29) dX10_counts_28 rfl rfl ?_
          refine j_goto (n := 33) dX10_counts_29 rfl ?_
          refine j_istore_n (n := 34) (lv2 := [some (.ref 160), some (.int (nI key)), some (.int (nI k)), some (.int (nI k))]) dX10_counts_33 rfl rfl (by decide) rfl ?_
          refine j_iinc (n := 37) (y := nI (k + 1)) (lv2 := [some (.ref 160), some (.int (nI key)), some (.int (nI k)), some (.int (nI (k + 1)))]) dX10_counts_34 rfl rfl (by decide) rfl (show nI k + nI 1 = nI (k + 1) by rw [nI_add]) rfl ?_
          refine j_goto (n := 4) dX10_counts_37 rfl ?_
          have e1 : nI k = cntV (cnt p key (k + 1)) := by first | (rw [cnt, if_pos (by omega)]; rfl) | (rw [cnt, if_neg (by omega)])
          rw [e1]
          exact ih _ (by omega) (k + 1) rfl (by omega)
  exact loop _ 0 rfl (Nat.zero_le _)
def r_why (p : Nat → Nat) (key : Int32) : Int32 := if (0 ≤ key.toInt ∧ key.toInt ≤ 2) then (if (cntV (cnt p (tN key) (p 1))).toInt < 0 then cNONE else cntV (cnt p (tN key) (p 1))) else cBAD
theorem c_why (d : Nat) (G : zG) (M : zMem) (X : zX) (hk : kM X) (p : Nat → Nat) (hw : wfT p) (key : Int32) : zCall G miX10_why (d + 2) [.ref 160, .int key] (zI (r_why p key) (mm M p) X) (mm M p) X 0 0 := by
  refine zCall.of (lv := [some (.ref 160), some (.int key)]) (by decide) (Nat.le_of_ble_eq_true rfl) rfl ?_
  refine j_iload_n (n := 1) dX10_why_0 rfl rfl ?_
  refine j_i2l (n := 2) dX10_why_1 rfl ?_
  refine j_lconst (n := 3) (v := lN 0) dX10_why_2 rfl rfl ?_
  refine j_ldc2 (n := 6) (v := lN 2) dX10_why_3 rfl kX10_141 ?_
  refine j_cS (n := 9) dX10_why_6 rfl sX10_71 (c_isInI (x := key.toInt) (a := 0) (b := 2) (d + 1) G _ _ _ _ _ (l_toInt _) rfl rfl) (by omega) (by decide) rfl rfl (Nat.le_of_ble_eq_true rfl) (by decide) (by decide) ?_
  refine j_if_eqB (n := 12) (tg := 23) dX10_why_9 rfl rfl (fun h1 => ?_) (fun h1 => ?_)
  · refine j_ldc (n := 25) (v := -1000000001) dX10_why_23 rfl kX10_93 ?_
    exact j_ri dX10_why_25 rfl (Nat.le_refl _) (Nat.le_refl _) (by unfold r_why; first | (rw [if_neg (by omega)]; done) | (rw [eq]; exact (if_pos (by omega)).symm)) rfl rfl
  · obtain ⟨q, hq, rfl⟩ := i_of (x := key) (n := 3) (by omega) (by omega)
    have eq : tN (nI q) = q := tN_nI (by omega)
    have iq : (nI q).toInt = q := i_N (by omega)
    refine j_aload_n (n := 13) dX10_why_12 rfl rfl ?_
    refine j_iload_n (n := 14) dX10_why_13 rfl rfl ?_
    refine j_cV (n := 17) dX10_why_14 rfl sX10_99 (c_counts d G _ _ hk _ hw q (by omega)) (by omega) (by decide) rfl rfl (Nat.le_of_ble_eq_true rfl) (hk).2.1 (by decide) (kM_lt hk) (by decide) (by decide) ?_
    refine j_cS (n := 20) dX10_why_17 rfl sX10_304 (c_orNone (d + 1) G _ _ _) (by omega) (by decide) rfl rfl (Nat.le_of_ble_eq_true rfl) (by decide) (by decide) ?_
    refine j_goto (n := 25) dX10_why_20 rfl ?_
    exact j_ri dX10_why_25 rfl (Nat.le_refl _) (Nat.le_refl _) (by unfold r_why; first | (rw [if_neg (by omega)]; done) | (rw [eq]; exact (if_pos (by omega)).symm)) rfl rfl
theorem c_joined (d : Nat) (G : zG) (M : zMem) (X : zX) (c : Nat) (hc : c ≤ 9999) (x y : Int32) : zCall G miX10_joined (d + 0) [.int (nI c), .int x, .int y] (zI (joinV c x y) M X) M X 0 0 := by
  refine zCall.of (lv := [some (.int (nI c)), some (.int x), some (.int y)]) (by decide) (Nat.le_of_ble_eq_true rfl) rfl ?_
  refine j_iload_n (n := 1) dX10_joined_0 rfl rfl ?_
  have hs1 : c = 38 ∨ c = 39 ∨ c = 40 ∨ c = 41 ∨ c = 42 ∨ c = 43 ∨ c = 44 ∨ c = 45 ∨ c = 46 ∨ c = 47 ∨ c = 48 ∨ c = 49 ∨ c = 50 ∨ c = 51 ∨ c = 52 ∨ c = 53 ∨ c = 54 ∨ c = 55 ∨ c = 56 ∨ c = 57 ∨ c = 58 ∨ c = 59 ∨ c = 60 ∨ c = 61 ∨ c = 62 ∨ (c < 38 ∨ 62 < c) := by omega
  rcases hs1 with hs1 | hs1 | hs1 | hs1 | hs1 | hs1 | hs1 | hs1 | hs1 | hs1 | hs1 | hs1 | hs1 | hs1 | hs1 | hs1 | hs1 | hs1 | hs1 | hs1 | hs1 | hs1 | hs1 | hs1 | hs1 | hs1
  · refine j_tabIn (i := 0) (off := 182) (tg := 183) dX10_joined_1 (by rw [i_N (by omega)]; omega) (by decide) rfl rfl ?_
    refine j_iload_n (n := 184) dX10_joined_183 rfl rfl ?_
    refine j_if_eqT (n := 187) (tg := 195) dX10_joined_184 rfl rfl (fun h2 => ?_) (fun h2 => ?_)
    · refine j_iconst (n := 196) (v := nI 0) dX10_joined_195 rfl rfl ?_
      exact j_ri dX10_joined_196 rfl (Nat.le_refl _) (Nat.le_refl _) (by unfold joinV; (repeat (first | rw [if_pos (by omega)] | rw [if_neg (by omega)])); all_goals (first | rfl | exact (zB_t (by omega)).symm | exact (zB_f (by omega)).symm)) rfl rfl
    · refine j_iload_n (n := 188) dX10_joined_187 rfl rfl ?_
      refine j_if_eqT (n := 191) (tg := 195) dX10_joined_188 rfl rfl (fun h3 => ?_) (fun h3 => ?_)
      · refine j_iconst (n := 196) (v := nI 0) dX10_joined_195 rfl rfl ?_
        exact j_ri dX10_joined_196 rfl (Nat.le_refl _) (Nat.le_refl _) (by unfold joinV; (repeat (first | rw [if_pos (by omega)] | rw [if_neg (by omega)])); all_goals (first | rfl | exact (zB_t (by omega)).symm | exact (zB_f (by omega)).symm)) rfl rfl
      · refine j_iconst (n := 192) (v := nI 1) dX10_joined_191 rfl rfl ?_
        refine j_goto (n := 196) dX10_joined_192 rfl ?_
        exact j_ri dX10_joined_196 rfl (Nat.le_refl _) (Nat.le_refl _) (by unfold joinV; (repeat (first | rw [if_pos (by omega)] | rw [if_neg (by omega)])); all_goals (first | rfl | exact (zB_t (by omega)).symm | exact (zB_f (by omega)).symm)) rfl rfl
  · refine j_tabIn (i := 1) (off := 196) (tg := 197) dX10_joined_1 (by rw [i_N (by omega)]; omega) (by decide) rfl rfl ?_
    refine j_iload_n (n := 198) dX10_joined_197 rfl rfl ?_
    refine j_if_neT (n := 201) (tg := 205) dX10_joined_198 rfl rfl (fun h4 => ?_) (fun h4 => ?_)
    · refine j_iconst (n := 206) (v := nI 1) dX10_joined_205 rfl rfl ?_
      refine j_goto (n := 210) dX10_joined_206 rfl ?_
      exact j_ri dX10_joined_210 rfl (Nat.le_refl _) (Nat.le_refl _) (by unfold joinV; (repeat (first | rw [if_pos (by omega)] | rw [if_neg (by omega)])); all_goals (first | rfl | exact (zB_t (by omega)).symm | exact (zB_f (by omega)).symm)) rfl rfl
    · refine j_iload_n (n := 202) dX10_joined_201 rfl rfl ?_
      refine j_if_eqT (n := 205) (tg := 209) dX10_joined_202 rfl rfl (fun h5 => ?_) (fun h5 => ?_)
      · refine j_iconst (n := 210) (v := nI 0) dX10_joined_209 rfl rfl ?_
        exact j_ri dX10_joined_210 rfl (Nat.le_refl _) (Nat.le_refl _) (by unfold joinV; (repeat (first | rw [if_pos (by omega)] | rw [if_neg (by omega)])); all_goals (first | rfl | exact (zB_t (by omega)).symm | exact (zB_f (by omega)).symm)) rfl rfl
      · refine j_iconst (n := 206) (v := nI 1) dX10_joined_205 rfl rfl ?_
        refine j_goto (n := 210) dX10_joined_206 rfl ?_
        exact j_ri dX10_joined_210 rfl (Nat.le_refl _) (Nat.le_refl _) (by unfold joinV; (repeat (first | rw [if_pos (by omega)] | rw [if_neg (by omega)])); all_goals (first | rfl | exact (zB_t (by omega)).symm | exact (zB_f (by omega)).symm)) rfl rfl
  · refine j_tabIn (i := 2) (off := 196) (tg := 197) dX10_joined_1 (by rw [i_N (by omega)]; omega) (by decide) rfl rfl ?_
    refine j_iload_n (n := 198) dX10_joined_197 rfl rfl ?_
    refine j_if_neT (n := 201) (tg := 205) dX10_joined_198 rfl rfl (fun h6 => ?_) (fun h6 => ?_)
    · refine j_iconst (n := 206) (v := nI 1) dX10_joined_205 rfl rfl ?_
      refine j_goto (n := 210) dX10_joined_206 rfl ?_
      exact j_ri dX10_joined_210 rfl (Nat.le_refl _) (Nat.le_refl _) (by unfold joinV; (repeat (first | rw [if_pos (by omega)] | rw [if_neg (by omega)])); all_goals (first | rfl | exact (zB_t (by omega)).symm | exact (zB_f (by omega)).symm)) rfl rfl
    · refine j_iload_n (n := 202) dX10_joined_201 rfl rfl ?_
      refine j_if_eqT (n := 205) (tg := 209) dX10_joined_202 rfl rfl (fun h7 => ?_) (fun h7 => ?_)
      · refine j_iconst (n := 210) (v := nI 0) dX10_joined_209 rfl rfl ?_
        exact j_ri dX10_joined_210 rfl (Nat.le_refl _) (Nat.le_refl _) (by unfold joinV; (repeat (first | rw [if_pos (by omega)] | rw [if_neg (by omega)])); all_goals (first | rfl | exact (zB_t (by omega)).symm | exact (zB_f (by omega)).symm)) rfl rfl
      · refine j_iconst (n := 206) (v := nI 1) dX10_joined_205 rfl rfl ?_
        refine j_goto (n := 210) dX10_joined_206 rfl ?_
        exact j_ri dX10_joined_210 rfl (Nat.le_refl _) (Nat.le_refl _) (by unfold joinV; (repeat (first | rw [if_pos (by omega)] | rw [if_neg (by omega)])); all_goals (first | rfl | exact (zB_t (by omega)).symm | exact (zB_f (by omega)).symm)) rfl rfl
  · refine j_tabIn (i := 3) (off := 196) (tg := 197) dX10_joined_1 (by rw [i_N (by omega)]; omega) (by decide) rfl rfl ?_
    refine j_iload_n (n := 198) dX10_joined_197 rfl rfl ?_
    refine j_if_neT (n := 201) (tg := 205) dX10_joined_198 rfl rfl (fun h8 => ?_) (fun h8 => ?_)
    · refine j_iconst (n := 206) (v := nI 1) dX10_joined_205 rfl rfl ?_
      refine j_goto (n := 210) dX10_joined_206 rfl ?_
      exact j_ri dX10_joined_210 rfl (Nat.le_refl _) (Nat.le_refl _) (by unfold joinV; (repeat (first | rw [if_pos (by omega)] | rw [if_neg (by omega)])); all_goals (first | rfl | exact (zB_t (by omega)).symm | exact (zB_f (by omega)).symm)) rfl rfl
    · refine j_iload_n (n := 202) dX10_joined_201 rfl rfl ?_
      refine j_if_eqT (n := 205) (tg := 209) dX10_joined_202 rfl rfl (fun h9 => ?_) (fun h9 => ?_)
      · refine j_iconst (n := 210) (v := nI 0) dX10_joined_209 rfl rfl ?_
        exact j_ri dX10_joined_210 rfl (Nat.le_refl _) (Nat.le_refl _) (by unfold joinV; (repeat (first | rw [if_pos (by omega)] | rw [if_neg (by omega)])); all_goals (first | rfl | exact (zB_t (by omega)).symm | exact (zB_f (by omega)).symm)) rfl rfl
      · refine j_iconst (n := 206) (v := nI 1) dX10_joined_205 rfl rfl ?_
        refine j_goto (n := 210) dX10_joined_206 rfl ?_
        exact j_ri dX10_joined_210 rfl (Nat.le_refl _) (Nat.le_refl _) (by unfold joinV; (repeat (first | rw [if_pos (by omega)] | rw [if_neg (by omega)])); all_goals (first | rfl | exact (zB_t (by omega)).symm | exact (zB_f (by omega)).symm)) rfl rfl
  · refine j_tabIn (i := 4) (off := 123) (tg := 124) dX10_joined_1 (by rw [i_N (by omega)]; omega) (by decide) rfl rfl ?_
    refine j_iload_n (n := 125) dX10_joined_124 rfl rfl ?_
    refine j_iload_n (n := 126) dX10_joined_125 rfl rfl ?_
    refine j_imul (n := 127) dX10_joined_126 rfl ?_
    exact j_ri dX10_joined_127 rfl (Nat.le_refl _) (Nat.le_refl _) (by unfold joinV; repeat (first | rw [if_pos (by omega)] | rw [if_neg (by omega)])) rfl rfl
  · refine j_tabIn (i := 5) (off := 115) (tg := 116) dX10_joined_1 (by rw [i_N (by omega)]; omega) (by decide) rfl rfl ?_
    refine j_iload_n (n := 117) dX10_joined_116 rfl rfl ?_
    refine j_iload_n (n := 118) dX10_joined_117 rfl rfl ?_
    refine j_iadd (n := 119) dX10_joined_118 rfl ?_
    exact j_ri dX10_joined_119 rfl (Nat.le_refl _) (Nat.le_refl _) (by unfold joinV; repeat (first | rw [if_pos (by omega)] | rw [if_neg (by omega)])) rfl rfl
  · refine j_tabIn (i := 6) (off := 196) (tg := 197) dX10_joined_1 (by rw [i_N (by omega)]; omega) (by decide) rfl rfl ?_
    refine j_iload_n (n := 198) dX10_joined_197 rfl rfl ?_
    refine j_if_neT (n := 201) (tg := 205) dX10_joined_198 rfl rfl (fun h10 => ?_) (fun h10 => ?_)
    · refine j_iconst (n := 206) (v := nI 1) dX10_joined_205 rfl rfl ?_
      refine j_goto (n := 210) dX10_joined_206 rfl ?_
      exact j_ri dX10_joined_210 rfl (Nat.le_refl _) (Nat.le_refl _) (by unfold joinV; (repeat (first | rw [if_pos (by omega)] | rw [if_neg (by omega)])); all_goals (first | rfl | exact (zB_t (by omega)).symm | exact (zB_f (by omega)).symm)) rfl rfl
    · refine j_iload_n (n := 202) dX10_joined_201 rfl rfl ?_
      refine j_if_eqT (n := 205) (tg := 209) dX10_joined_202 rfl rfl (fun h11 => ?_) (fun h11 => ?_)
      · refine j_iconst (n := 210) (v := nI 0) dX10_joined_209 rfl rfl ?_
        exact j_ri dX10_joined_210 rfl (Nat.le_refl _) (Nat.le_refl _) (by unfold joinV; (repeat (first | rw [if_pos (by omega)] | rw [if_neg (by omega)])); all_goals (first | rfl | exact (zB_t (by omega)).symm | exact (zB_f (by omega)).symm)) rfl rfl
      · refine j_iconst (n := 206) (v := nI 1) dX10_joined_205 rfl rfl ?_
        refine j_goto (n := 210) dX10_joined_206 rfl ?_
        exact j_ri dX10_joined_210 rfl (Nat.le_refl _) (Nat.le_refl _) (by unfold joinV; (repeat (first | rw [if_pos (by omega)] | rw [if_neg (by omega)])); all_goals (first | rfl | exact (zB_t (by omega)).symm | exact (zB_f (by omega)).symm)) rfl rfl
  · refine j_tabIn (i := 7) (off := 119) (tg := 120) dX10_joined_1 (by rw [i_N (by omega)]; omega) (by decide) rfl rfl ?_
    refine j_iload_n (n := 121) dX10_joined_120 rfl rfl ?_
    refine j_iload_n (n := 122) dX10_joined_121 rfl rfl ?_
    refine j_isub (n := 123) dX10_joined_122 rfl ?_
    exact j_ri dX10_joined_123 rfl (Nat.le_refl _) (Nat.le_refl _) (by unfold joinV; repeat (first | rw [if_pos (by omega)] | rw [if_neg (by omega)])) rfl rfl
  · refine j_tabIn (i := 8) (off := 196) (tg := 197) dX10_joined_1 (by rw [i_N (by omega)]; omega) (by decide) rfl rfl ?_
    refine j_iload_n (n := 198) dX10_joined_197 rfl rfl ?_
    refine j_if_neT (n := 201) (tg := 205) dX10_joined_198 rfl rfl (fun h12 => ?_) (fun h12 => ?_)
    · refine j_iconst (n := 206) (v := nI 1) dX10_joined_205 rfl rfl ?_
      refine j_goto (n := 210) dX10_joined_206 rfl ?_
      exact j_ri dX10_joined_210 rfl (Nat.le_refl _) (Nat.le_refl _) (by unfold joinV; (repeat (first | rw [if_pos (by omega)] | rw [if_neg (by omega)])); all_goals (first | rfl | exact (zB_t (by omega)).symm | exact (zB_f (by omega)).symm)) rfl rfl
    · refine j_iload_n (n := 202) dX10_joined_201 rfl rfl ?_
      refine j_if_eqT (n := 205) (tg := 209) dX10_joined_202 rfl rfl (fun h13 => ?_) (fun h13 => ?_)
      · refine j_iconst (n := 210) (v := nI 0) dX10_joined_209 rfl rfl ?_
        exact j_ri dX10_joined_210 rfl (Nat.le_refl _) (Nat.le_refl _) (by unfold joinV; (repeat (first | rw [if_pos (by omega)] | rw [if_neg (by omega)])); all_goals (first | rfl | exact (zB_t (by omega)).symm | exact (zB_f (by omega)).symm)) rfl rfl
      · refine j_iconst (n := 206) (v := nI 1) dX10_joined_205 rfl rfl ?_
        refine j_goto (n := 210) dX10_joined_206 rfl ?_
        exact j_ri dX10_joined_210 rfl (Nat.le_refl _) (Nat.le_refl _) (by unfold joinV; (repeat (first | rw [if_pos (by omega)] | rw [if_neg (by omega)])); all_goals (first | rfl | exact (zB_t (by omega)).symm | exact (zB_f (by omega)).symm)) rfl rfl
  · refine j_tabIn (i := 9) (off := 127) (tg := 128) dX10_joined_1 (by rw [i_N (by omega)]; omega) (by decide) rfl rfl ?_
    refine j_iload_n (n := 129) dX10_joined_128 rfl rfl ?_
    refine j_if_neT (n := 132) (tg := 136) dX10_joined_129 rfl rfl (fun h14 => ?_) (fun h14 => ?_)
    · refine j_iload_n (n := 137) dX10_joined_136 rfl rfl ?_
      refine j_iconst (n := 138) (v := (-1)) dX10_joined_137 rfl rfl ?_
      refine j_icmp_neT (n := 141) (tg := 146) dX10_joined_138 rfl rfl rfl (show Int32.toInt (-1) = (-1 : Int) from by decide) (fun h15 => ?_) (fun h15 => ?_)
      · refine j_iload_n (n := 147) dX10_joined_146 rfl rfl ?_
        refine j_iload_n (n := 148) dX10_joined_147 rfl rfl ?_
        refine j_idiv (n := 149) dX10_joined_148 rfl (fun z => absurd (show y.toInt = 0 from congrArg Int32.toInt z) (by assumption)) ?_
        exact j_ri dX10_joined_149 rfl (Nat.le_refl _) (Nat.le_refl _) (by unfold joinV; repeat (first | rw [if_pos (by omega)] | rw [if_neg (by omega)])) rfl rfl
      · refine j_iload_n (n := 142) dX10_joined_141 rfl rfl ?_
        refine j_ineg (n := 143) dX10_joined_142 rfl ?_
        refine j_goto (n := 149) dX10_joined_143 rfl ?_
        exact j_ri dX10_joined_149 rfl (Nat.le_refl _) (Nat.le_refl _) (by have ey : y = -1 := int32_eq (by rw [show (-1 : Int32).toInt = -1 from rfl]; assumption); subst ey; unfold joinV; (repeat (first | rw [if_pos (by omega)] | rw [if_neg (by omega)])); rw [div_m1]) rfl rfl
    · refine j_iconst (n := 133) (v := nI 0) dX10_joined_132 rfl rfl ?_
      refine j_goto (n := 149) dX10_joined_133 rfl ?_
      exact j_ri dX10_joined_149 rfl (Nat.le_refl _) (Nat.le_refl _) (by unfold joinV; (repeat (first | rw [if_pos (by omega)] | rw [if_neg (by omega)])); all_goals (first | rfl | exact (zB_t (by omega)).symm | exact (zB_f (by omega)).symm)) rfl rfl
  · refine j_tabIn (i := 10) (off := 196) (tg := 197) dX10_joined_1 (by rw [i_N (by omega)]; omega) (by decide) rfl rfl ?_
    refine j_iload_n (n := 198) dX10_joined_197 rfl rfl ?_
    refine j_if_neT (n := 201) (tg := 205) dX10_joined_198 rfl rfl (fun h16 => ?_) (fun h16 => ?_)
    · refine j_iconst (n := 206) (v := nI 1) dX10_joined_205 rfl rfl ?_
      refine j_goto (n := 210) dX10_joined_206 rfl ?_
      exact j_ri dX10_joined_210 rfl (Nat.le_refl _) (Nat.le_refl _) (by unfold joinV; (repeat (first | rw [if_pos (by omega)] | rw [if_neg (by omega)])); all_goals (first | rfl | exact (zB_t (by omega)).symm | exact (zB_f (by omega)).symm)) rfl rfl
    · refine j_iload_n (n := 202) dX10_joined_201 rfl rfl ?_
      refine j_if_eqT (n := 205) (tg := 209) dX10_joined_202 rfl rfl (fun h17 => ?_) (fun h17 => ?_)
      · refine j_iconst (n := 210) (v := nI 0) dX10_joined_209 rfl rfl ?_
        exact j_ri dX10_joined_210 rfl (Nat.le_refl _) (Nat.le_refl _) (by unfold joinV; (repeat (first | rw [if_pos (by omega)] | rw [if_neg (by omega)])); all_goals (first | rfl | exact (zB_t (by omega)).symm | exact (zB_f (by omega)).symm)) rfl rfl
      · refine j_iconst (n := 206) (v := nI 1) dX10_joined_205 rfl rfl ?_
        refine j_goto (n := 210) dX10_joined_206 rfl ?_
        exact j_ri dX10_joined_210 rfl (Nat.le_refl _) (Nat.le_refl _) (by unfold joinV; (repeat (first | rw [if_pos (by omega)] | rw [if_neg (by omega)])); all_goals (first | rfl | exact (zB_t (by omega)).symm | exact (zB_f (by omega)).symm)) rfl rfl
  · refine j_tabIn (i := 11) (off := 196) (tg := 197) dX10_joined_1 (by rw [i_N (by omega)]; omega) (by decide) rfl rfl ?_
    refine j_iload_n (n := 198) dX10_joined_197 rfl rfl ?_
    refine j_if_neT (n := 201) (tg := 205) dX10_joined_198 rfl rfl (fun h18 => ?_) (fun h18 => ?_)
    · refine j_iconst (n := 206) (v := nI 1) dX10_joined_205 rfl rfl ?_
      refine j_goto (n := 210) dX10_joined_206 rfl ?_
      exact j_ri dX10_joined_210 rfl (Nat.le_refl _) (Nat.le_refl _) (by unfold joinV; (repeat (first | rw [if_pos (by omega)] | rw [if_neg (by omega)])); all_goals (first | rfl | exact (zB_t (by omega)).symm | exact (zB_f (by omega)).symm)) rfl rfl
    · refine j_iload_n (n := 202) dX10_joined_201 rfl rfl ?_
      refine j_if_eqT (n := 205) (tg := 209) dX10_joined_202 rfl rfl (fun h19 => ?_) (fun h19 => ?_)
      · refine j_iconst (n := 210) (v := nI 0) dX10_joined_209 rfl rfl ?_
        exact j_ri dX10_joined_210 rfl (Nat.le_refl _) (Nat.le_refl _) (by unfold joinV; (repeat (first | rw [if_pos (by omega)] | rw [if_neg (by omega)])); all_goals (first | rfl | exact (zB_t (by omega)).symm | exact (zB_f (by omega)).symm)) rfl rfl
      · refine j_iconst (n := 206) (v := nI 1) dX10_joined_205 rfl rfl ?_
        refine j_goto (n := 210) dX10_joined_206 rfl ?_
        exact j_ri dX10_joined_210 rfl (Nat.le_refl _) (Nat.le_refl _) (by unfold joinV; (repeat (first | rw [if_pos (by omega)] | rw [if_neg (by omega)])); all_goals (first | rfl | exact (zB_t (by omega)).symm | exact (zB_f (by omega)).symm)) rfl rfl
  · refine j_tabIn (i := 12) (off := 196) (tg := 197) dX10_joined_1 (by rw [i_N (by omega)]; omega) (by decide) rfl rfl ?_
    refine j_iload_n (n := 198) dX10_joined_197 rfl rfl ?_
    refine j_if_neT (n := 201) (tg := 205) dX10_joined_198 rfl rfl (fun h20 => ?_) (fun h20 => ?_)
    · refine j_iconst (n := 206) (v := nI 1) dX10_joined_205 rfl rfl ?_
      refine j_goto (n := 210) dX10_joined_206 rfl ?_
      exact j_ri dX10_joined_210 rfl (Nat.le_refl _) (Nat.le_refl _) (by unfold joinV; (repeat (first | rw [if_pos (by omega)] | rw [if_neg (by omega)])); all_goals (first | rfl | exact (zB_t (by omega)).symm | exact (zB_f (by omega)).symm)) rfl rfl
    · refine j_iload_n (n := 202) dX10_joined_201 rfl rfl ?_
      refine j_if_eqT (n := 205) (tg := 209) dX10_joined_202 rfl rfl (fun h21 => ?_) (fun h21 => ?_)
      · refine j_iconst (n := 210) (v := nI 0) dX10_joined_209 rfl rfl ?_
        exact j_ri dX10_joined_210 rfl (Nat.le_refl _) (Nat.le_refl _) (by unfold joinV; (repeat (first | rw [if_pos (by omega)] | rw [if_neg (by omega)])); all_goals (first | rfl | exact (zB_t (by omega)).symm | exact (zB_f (by omega)).symm)) rfl rfl
      · refine j_iconst (n := 206) (v := nI 1) dX10_joined_205 rfl rfl ?_
        refine j_goto (n := 210) dX10_joined_206 rfl ?_
        exact j_ri dX10_joined_210 rfl (Nat.le_refl _) (Nat.le_refl _) (by unfold joinV; (repeat (first | rw [if_pos (by omega)] | rw [if_neg (by omega)])); all_goals (first | rfl | exact (zB_t (by omega)).symm | exact (zB_f (by omega)).symm)) rfl rfl
  · refine j_tabIn (i := 13) (off := 196) (tg := 197) dX10_joined_1 (by rw [i_N (by omega)]; omega) (by decide) rfl rfl ?_
    refine j_iload_n (n := 198) dX10_joined_197 rfl rfl ?_
    refine j_if_neT (n := 201) (tg := 205) dX10_joined_198 rfl rfl (fun h22 => ?_) (fun h22 => ?_)
    · refine j_iconst (n := 206) (v := nI 1) dX10_joined_205 rfl rfl ?_
      refine j_goto (n := 210) dX10_joined_206 rfl ?_
      exact j_ri dX10_joined_210 rfl (Nat.le_refl _) (Nat.le_refl _) (by unfold joinV; (repeat (first | rw [if_pos (by omega)] | rw [if_neg (by omega)])); all_goals (first | rfl | exact (zB_t (by omega)).symm | exact (zB_f (by omega)).symm)) rfl rfl
    · refine j_iload_n (n := 202) dX10_joined_201 rfl rfl ?_
      refine j_if_eqT (n := 205) (tg := 209) dX10_joined_202 rfl rfl (fun h23 => ?_) (fun h23 => ?_)
      · refine j_iconst (n := 210) (v := nI 0) dX10_joined_209 rfl rfl ?_
        exact j_ri dX10_joined_210 rfl (Nat.le_refl _) (Nat.le_refl _) (by unfold joinV; (repeat (first | rw [if_pos (by omega)] | rw [if_neg (by omega)])); all_goals (first | rfl | exact (zB_t (by omega)).symm | exact (zB_f (by omega)).symm)) rfl rfl
      · refine j_iconst (n := 206) (v := nI 1) dX10_joined_205 rfl rfl ?_
        refine j_goto (n := 210) dX10_joined_206 rfl ?_
        exact j_ri dX10_joined_210 rfl (Nat.le_refl _) (Nat.le_refl _) (by unfold joinV; (repeat (first | rw [if_pos (by omega)] | rw [if_neg (by omega)])); all_goals (first | rfl | exact (zB_t (by omega)).symm | exact (zB_f (by omega)).symm)) rfl rfl
  · refine j_tabIn (i := 14) (off := 196) (tg := 197) dX10_joined_1 (by rw [i_N (by omega)]; omega) (by decide) rfl rfl ?_
    refine j_iload_n (n := 198) dX10_joined_197 rfl rfl ?_
    refine j_if_neT (n := 201) (tg := 205) dX10_joined_198 rfl rfl (fun h24 => ?_) (fun h24 => ?_)
    · refine j_iconst (n := 206) (v := nI 1) dX10_joined_205 rfl rfl ?_
      refine j_goto (n := 210) dX10_joined_206 rfl ?_
      exact j_ri dX10_joined_210 rfl (Nat.le_refl _) (Nat.le_refl _) (by unfold joinV; (repeat (first | rw [if_pos (by omega)] | rw [if_neg (by omega)])); all_goals (first | rfl | exact (zB_t (by omega)).symm | exact (zB_f (by omega)).symm)) rfl rfl
    · refine j_iload_n (n := 202) dX10_joined_201 rfl rfl ?_
      refine j_if_eqT (n := 205) (tg := 209) dX10_joined_202 rfl rfl (fun h25 => ?_) (fun h25 => ?_)
      · refine j_iconst (n := 210) (v := nI 0) dX10_joined_209 rfl rfl ?_
        exact j_ri dX10_joined_210 rfl (Nat.le_refl _) (Nat.le_refl _) (by unfold joinV; (repeat (first | rw [if_pos (by omega)] | rw [if_neg (by omega)])); all_goals (first | rfl | exact (zB_t (by omega)).symm | exact (zB_f (by omega)).symm)) rfl rfl
      · refine j_iconst (n := 206) (v := nI 1) dX10_joined_205 rfl rfl ?_
        refine j_goto (n := 210) dX10_joined_206 rfl ?_
        exact j_ri dX10_joined_210 rfl (Nat.le_refl _) (Nat.le_refl _) (by unfold joinV; (repeat (first | rw [if_pos (by omega)] | rw [if_neg (by omega)])); all_goals (first | rfl | exact (zB_t (by omega)).symm | exact (zB_f (by omega)).symm)) rfl rfl
  · refine j_tabIn (i := 15) (off := 196) (tg := 197) dX10_joined_1 (by rw [i_N (by omega)]; omega) (by decide) rfl rfl ?_
    refine j_iload_n (n := 198) dX10_joined_197 rfl rfl ?_
    refine j_if_neT (n := 201) (tg := 205) dX10_joined_198 rfl rfl (fun h26 => ?_) (fun h26 => ?_)
    · refine j_iconst (n := 206) (v := nI 1) dX10_joined_205 rfl rfl ?_
      refine j_goto (n := 210) dX10_joined_206 rfl ?_
      exact j_ri dX10_joined_210 rfl (Nat.le_refl _) (Nat.le_refl _) (by unfold joinV; (repeat (first | rw [if_pos (by omega)] | rw [if_neg (by omega)])); all_goals (first | rfl | exact (zB_t (by omega)).symm | exact (zB_f (by omega)).symm)) rfl rfl
    · refine j_iload_n (n := 202) dX10_joined_201 rfl rfl ?_
      refine j_if_eqT (n := 205) (tg := 209) dX10_joined_202 rfl rfl (fun h27 => ?_) (fun h27 => ?_)
      · refine j_iconst (n := 210) (v := nI 0) dX10_joined_209 rfl rfl ?_
        exact j_ri dX10_joined_210 rfl (Nat.le_refl _) (Nat.le_refl _) (by unfold joinV; (repeat (first | rw [if_pos (by omega)] | rw [if_neg (by omega)])); all_goals (first | rfl | exact (zB_t (by omega)).symm | exact (zB_f (by omega)).symm)) rfl rfl
      · refine j_iconst (n := 206) (v := nI 1) dX10_joined_205 rfl rfl ?_
        refine j_goto (n := 210) dX10_joined_206 rfl ?_
        exact j_ri dX10_joined_210 rfl (Nat.le_refl _) (Nat.le_refl _) (by unfold joinV; (repeat (first | rw [if_pos (by omega)] | rw [if_neg (by omega)])); all_goals (first | rfl | exact (zB_t (by omega)).symm | exact (zB_f (by omega)).symm)) rfl rfl
  · refine j_tabIn (i := 16) (off := 196) (tg := 197) dX10_joined_1 (by rw [i_N (by omega)]; omega) (by decide) rfl rfl ?_
    refine j_iload_n (n := 198) dX10_joined_197 rfl rfl ?_
    refine j_if_neT (n := 201) (tg := 205) dX10_joined_198 rfl rfl (fun h28 => ?_) (fun h28 => ?_)
    · refine j_iconst (n := 206) (v := nI 1) dX10_joined_205 rfl rfl ?_
      refine j_goto (n := 210) dX10_joined_206 rfl ?_
      exact j_ri dX10_joined_210 rfl (Nat.le_refl _) (Nat.le_refl _) (by unfold joinV; (repeat (first | rw [if_pos (by omega)] | rw [if_neg (by omega)])); all_goals (first | rfl | exact (zB_t (by omega)).symm | exact (zB_f (by omega)).symm)) rfl rfl
    · refine j_iload_n (n := 202) dX10_joined_201 rfl rfl ?_
      refine j_if_eqT (n := 205) (tg := 209) dX10_joined_202 rfl rfl (fun h29 => ?_) (fun h29 => ?_)
      · refine j_iconst (n := 210) (v := nI 0) dX10_joined_209 rfl rfl ?_
        exact j_ri dX10_joined_210 rfl (Nat.le_refl _) (Nat.le_refl _) (by unfold joinV; (repeat (first | rw [if_pos (by omega)] | rw [if_neg (by omega)])); all_goals (first | rfl | exact (zB_t (by omega)).symm | exact (zB_f (by omega)).symm)) rfl rfl
      · refine j_iconst (n := 206) (v := nI 1) dX10_joined_205 rfl rfl ?_
        refine j_goto (n := 210) dX10_joined_206 rfl ?_
        exact j_ri dX10_joined_210 rfl (Nat.le_refl _) (Nat.le_refl _) (by unfold joinV; (repeat (first | rw [if_pos (by omega)] | rw [if_neg (by omega)])); all_goals (first | rfl | exact (zB_t (by omega)).symm | exact (zB_f (by omega)).symm)) rfl rfl
  · refine j_tabIn (i := 17) (off := 196) (tg := 197) dX10_joined_1 (by rw [i_N (by omega)]; omega) (by decide) rfl rfl ?_
    refine j_iload_n (n := 198) dX10_joined_197 rfl rfl ?_
    refine j_if_neT (n := 201) (tg := 205) dX10_joined_198 rfl rfl (fun h30 => ?_) (fun h30 => ?_)
    · refine j_iconst (n := 206) (v := nI 1) dX10_joined_205 rfl rfl ?_
      refine j_goto (n := 210) dX10_joined_206 rfl ?_
      exact j_ri dX10_joined_210 rfl (Nat.le_refl _) (Nat.le_refl _) (by unfold joinV; (repeat (first | rw [if_pos (by omega)] | rw [if_neg (by omega)])); all_goals (first | rfl | exact (zB_t (by omega)).symm | exact (zB_f (by omega)).symm)) rfl rfl
    · refine j_iload_n (n := 202) dX10_joined_201 rfl rfl ?_
      refine j_if_eqT (n := 205) (tg := 209) dX10_joined_202 rfl rfl (fun h31 => ?_) (fun h31 => ?_)
      · refine j_iconst (n := 210) (v := nI 0) dX10_joined_209 rfl rfl ?_
        exact j_ri dX10_joined_210 rfl (Nat.le_refl _) (Nat.le_refl _) (by unfold joinV; (repeat (first | rw [if_pos (by omega)] | rw [if_neg (by omega)])); all_goals (first | rfl | exact (zB_t (by omega)).symm | exact (zB_f (by omega)).symm)) rfl rfl
      · refine j_iconst (n := 206) (v := nI 1) dX10_joined_205 rfl rfl ?_
        refine j_goto (n := 210) dX10_joined_206 rfl ?_
        exact j_ri dX10_joined_210 rfl (Nat.le_refl _) (Nat.le_refl _) (by unfold joinV; (repeat (first | rw [if_pos (by omega)] | rw [if_neg (by omega)])); all_goals (first | rfl | exact (zB_t (by omega)).symm | exact (zB_f (by omega)).symm)) rfl rfl
  · refine j_tabIn (i := 18) (off := 196) (tg := 197) dX10_joined_1 (by rw [i_N (by omega)]; omega) (by decide) rfl rfl ?_
    refine j_iload_n (n := 198) dX10_joined_197 rfl rfl ?_
    refine j_if_neT (n := 201) (tg := 205) dX10_joined_198 rfl rfl (fun h32 => ?_) (fun h32 => ?_)
    · refine j_iconst (n := 206) (v := nI 1) dX10_joined_205 rfl rfl ?_
      refine j_goto (n := 210) dX10_joined_206 rfl ?_
      exact j_ri dX10_joined_210 rfl (Nat.le_refl _) (Nat.le_refl _) (by unfold joinV; (repeat (first | rw [if_pos (by omega)] | rw [if_neg (by omega)])); all_goals (first | rfl | exact (zB_t (by omega)).symm | exact (zB_f (by omega)).symm)) rfl rfl
    · refine j_iload_n (n := 202) dX10_joined_201 rfl rfl ?_
      refine j_if_eqT (n := 205) (tg := 209) dX10_joined_202 rfl rfl (fun h33 => ?_) (fun h33 => ?_)
      · refine j_iconst (n := 210) (v := nI 0) dX10_joined_209 rfl rfl ?_
        exact j_ri dX10_joined_210 rfl (Nat.le_refl _) (Nat.le_refl _) (by unfold joinV; (repeat (first | rw [if_pos (by omega)] | rw [if_neg (by omega)])); all_goals (first | rfl | exact (zB_t (by omega)).symm | exact (zB_f (by omega)).symm)) rfl rfl
      · refine j_iconst (n := 206) (v := nI 1) dX10_joined_205 rfl rfl ?_
        refine j_goto (n := 210) dX10_joined_206 rfl ?_
        exact j_ri dX10_joined_210 rfl (Nat.le_refl _) (Nat.le_refl _) (by unfold joinV; (repeat (first | rw [if_pos (by omega)] | rw [if_neg (by omega)])); all_goals (first | rfl | exact (zB_t (by omega)).symm | exact (zB_f (by omega)).symm)) rfl rfl
  · refine j_tabIn (i := 19) (off := 196) (tg := 197) dX10_joined_1 (by rw [i_N (by omega)]; omega) (by decide) rfl rfl ?_
    refine j_iload_n (n := 198) dX10_joined_197 rfl rfl ?_
    refine j_if_neT (n := 201) (tg := 205) dX10_joined_198 rfl rfl (fun h34 => ?_) (fun h34 => ?_)
    · refine j_iconst (n := 206) (v := nI 1) dX10_joined_205 rfl rfl ?_
      refine j_goto (n := 210) dX10_joined_206 rfl ?_
      exact j_ri dX10_joined_210 rfl (Nat.le_refl _) (Nat.le_refl _) (by unfold joinV; (repeat (first | rw [if_pos (by omega)] | rw [if_neg (by omega)])); all_goals (first | rfl | exact (zB_t (by omega)).symm | exact (zB_f (by omega)).symm)) rfl rfl
    · refine j_iload_n (n := 202) dX10_joined_201 rfl rfl ?_
      refine j_if_eqT (n := 205) (tg := 209) dX10_joined_202 rfl rfl (fun h35 => ?_) (fun h35 => ?_)
      · refine j_iconst (n := 210) (v := nI 0) dX10_joined_209 rfl rfl ?_
        exact j_ri dX10_joined_210 rfl (Nat.le_refl _) (Nat.le_refl _) (by unfold joinV; (repeat (first | rw [if_pos (by omega)] | rw [if_neg (by omega)])); all_goals (first | rfl | exact (zB_t (by omega)).symm | exact (zB_f (by omega)).symm)) rfl rfl
      · refine j_iconst (n := 206) (v := nI 1) dX10_joined_205 rfl rfl ?_
        refine j_goto (n := 210) dX10_joined_206 rfl ?_
        exact j_ri dX10_joined_210 rfl (Nat.le_refl _) (Nat.le_refl _) (by unfold joinV; (repeat (first | rw [if_pos (by omega)] | rw [if_neg (by omega)])); all_goals (first | rfl | exact (zB_t (by omega)).symm | exact (zB_f (by omega)).symm)) rfl rfl
  · refine j_tabIn (i := 20) (off := 196) (tg := 197) dX10_joined_1 (by rw [i_N (by omega)]; omega) (by decide) rfl rfl ?_
    refine j_iload_n (n := 198) dX10_joined_197 rfl rfl ?_
    refine j_if_neT (n := 201) (tg := 205) dX10_joined_198 rfl rfl (fun h36 => ?_) (fun h36 => ?_)
    · refine j_iconst (n := 206) (v := nI 1) dX10_joined_205 rfl rfl ?_
      refine j_goto (n := 210) dX10_joined_206 rfl ?_
      exact j_ri dX10_joined_210 rfl (Nat.le_refl _) (Nat.le_refl _) (by unfold joinV; (repeat (first | rw [if_pos (by omega)] | rw [if_neg (by omega)])); all_goals (first | rfl | exact (zB_t (by omega)).symm | exact (zB_f (by omega)).symm)) rfl rfl
    · refine j_iload_n (n := 202) dX10_joined_201 rfl rfl ?_
      refine j_if_eqT (n := 205) (tg := 209) dX10_joined_202 rfl rfl (fun h37 => ?_) (fun h37 => ?_)
      · refine j_iconst (n := 210) (v := nI 0) dX10_joined_209 rfl rfl ?_
        exact j_ri dX10_joined_210 rfl (Nat.le_refl _) (Nat.le_refl _) (by unfold joinV; (repeat (first | rw [if_pos (by omega)] | rw [if_neg (by omega)])); all_goals (first | rfl | exact (zB_t (by omega)).symm | exact (zB_f (by omega)).symm)) rfl rfl
      · refine j_iconst (n := 206) (v := nI 1) dX10_joined_205 rfl rfl ?_
        refine j_goto (n := 210) dX10_joined_206 rfl ?_
        exact j_ri dX10_joined_210 rfl (Nat.le_refl _) (Nat.le_refl _) (by unfold joinV; (repeat (first | rw [if_pos (by omega)] | rw [if_neg (by omega)])); all_goals (first | rfl | exact (zB_t (by omega)).symm | exact (zB_f (by omega)).symm)) rfl rfl
  · refine j_tabIn (i := 21) (off := 196) (tg := 197) dX10_joined_1 (by rw [i_N (by omega)]; omega) (by decide) rfl rfl ?_
    refine j_iload_n (n := 198) dX10_joined_197 rfl rfl ?_
    refine j_if_neT (n := 201) (tg := 205) dX10_joined_198 rfl rfl (fun h38 => ?_) (fun h38 => ?_)
    · refine j_iconst (n := 206) (v := nI 1) dX10_joined_205 rfl rfl ?_
      refine j_goto (n := 210) dX10_joined_206 rfl ?_
      exact j_ri dX10_joined_210 rfl (Nat.le_refl _) (Nat.le_refl _) (by unfold joinV; (repeat (first | rw [if_pos (by omega)] | rw [if_neg (by omega)])); all_goals (first | rfl | exact (zB_t (by omega)).symm | exact (zB_f (by omega)).symm)) rfl rfl
    · refine j_iload_n (n := 202) dX10_joined_201 rfl rfl ?_
      refine j_if_eqT (n := 205) (tg := 209) dX10_joined_202 rfl rfl (fun h39 => ?_) (fun h39 => ?_)
      · refine j_iconst (n := 210) (v := nI 0) dX10_joined_209 rfl rfl ?_
        exact j_ri dX10_joined_210 rfl (Nat.le_refl _) (Nat.le_refl _) (by unfold joinV; (repeat (first | rw [if_pos (by omega)] | rw [if_neg (by omega)])); all_goals (first | rfl | exact (zB_t (by omega)).symm | exact (zB_f (by omega)).symm)) rfl rfl
      · refine j_iconst (n := 206) (v := nI 1) dX10_joined_205 rfl rfl ?_
        refine j_goto (n := 210) dX10_joined_206 rfl ?_
        exact j_ri dX10_joined_210 rfl (Nat.le_refl _) (Nat.le_refl _) (by unfold joinV; (repeat (first | rw [if_pos (by omega)] | rw [if_neg (by omega)])); all_goals (first | rfl | exact (zB_t (by omega)).symm | exact (zB_f (by omega)).symm)) rfl rfl
  · refine j_tabIn (i := 22) (off := 149) (tg := 150) dX10_joined_1 (by rw [i_N (by omega)]; omega) (by decide) rfl rfl ?_
    refine j_iload_n (n := 151) dX10_joined_150 rfl rfl ?_
    refine j_iload_n (n := 152) dX10_joined_151 rfl rfl ?_
    refine j_icmp_geT (n := 155) (tg := 159) dX10_joined_152 rfl rfl rfl rfl (fun h40 => ?_) (fun h40 => ?_)
    · refine j_iconst (n := 160) (v := nI 0) dX10_joined_159 rfl rfl ?_
      exact j_ri dX10_joined_160 rfl (Nat.le_refl _) (Nat.le_refl _) (by unfold joinV; (repeat (first | rw [if_pos (by omega)] | rw [if_neg (by omega)])); all_goals (first | rfl | exact (zB_t (by omega)).symm | exact (zB_f (by omega)).symm)) rfl rfl
    · refine j_iconst (n := 156) (v := nI 1) dX10_joined_155 rfl rfl ?_
      refine j_goto (n := 160) dX10_joined_156 rfl ?_
      exact j_ri dX10_joined_160 rfl (Nat.le_refl _) (Nat.le_refl _) (by unfold joinV; (repeat (first | rw [if_pos (by omega)] | rw [if_neg (by omega)])); all_goals (first | rfl | exact (zB_t (by omega)).symm | exact (zB_f (by omega)).symm)) rfl rfl
  · refine j_tabIn (i := 23) (off := 171) (tg := 172) dX10_joined_1 (by rw [i_N (by omega)]; omega) (by decide) rfl rfl ?_
    refine j_iload_n (n := 173) dX10_joined_172 rfl rfl ?_
    refine j_iload_n (n := 174) dX10_joined_173 rfl rfl ?_
    refine j_icmp_neT (n := 177) (tg := 181) dX10_joined_174 rfl rfl rfl rfl (fun h41 => ?_) (fun h41 => ?_)
    · refine j_iconst (n := 182) (v := nI 0) dX10_joined_181 rfl rfl ?_
      exact j_ri dX10_joined_182 rfl (Nat.le_refl _) (Nat.le_refl _) (by unfold joinV; (repeat (first | rw [if_pos (by omega)] | rw [if_neg (by omega)])); all_goals (first | rfl | exact (zB_t (by omega)).symm | exact (zB_f (by omega)).symm)) rfl rfl
    · refine j_iconst (n := 178) (v := nI 1) dX10_joined_177 rfl rfl ?_
      refine j_goto (n := 182) dX10_joined_178 rfl ?_
      exact j_ri dX10_joined_182 rfl (Nat.le_refl _) (Nat.le_refl _) (by unfold joinV; (repeat (first | rw [if_pos (by omega)] | rw [if_neg (by omega)])); all_goals (first | rfl | exact (zB_t (by omega)).symm | exact (zB_f (by omega)).symm)) rfl rfl
  · refine j_tabIn (i := 24) (off := 160) (tg := 161) dX10_joined_1 (by rw [i_N (by omega)]; omega) (by decide) rfl rfl ?_
    refine j_iload_n (n := 162) dX10_joined_161 rfl rfl ?_
    refine j_iload_n (n := 163) dX10_joined_162 rfl rfl ?_
    refine j_icmp_leT (n := 166) (tg := 170) dX10_joined_163 rfl rfl rfl rfl (fun h42 => ?_) (fun h42 => ?_)
    · refine j_iconst (n := 171) (v := nI 0) dX10_joined_170 rfl rfl ?_
      exact j_ri dX10_joined_171 rfl (Nat.le_refl _) (Nat.le_refl _) (by unfold joinV; (repeat (first | rw [if_pos (by omega)] | rw [if_neg (by omega)])); all_goals (first | rfl | exact (zB_t (by omega)).symm | exact (zB_f (by omega)).symm)) rfl rfl
    · refine j_iconst (n := 167) (v := nI 1) dX10_joined_166 rfl rfl ?_
      refine j_goto (n := 171) dX10_joined_167 rfl ?_
      exact j_ri dX10_joined_171 rfl (Nat.le_refl _) (Nat.le_refl _) (by unfold joinV; (repeat (first | rw [if_pos (by omega)] | rw [if_neg (by omega)])); all_goals (first | rfl | exact (zB_t (by omega)).symm | exact (zB_f (by omega)).symm)) rfl rfl
  · refine j_tabOut (tg := 197) dX10_joined_1 (by rw [i_N (by omega)]; omega) rfl ?_
    refine j_iload_n (n := 198) dX10_joined_197 rfl rfl ?_
    refine j_if_neT (n := 201) (tg := 205) dX10_joined_198 rfl rfl (fun h43 => ?_) (fun h43 => ?_)
    · refine j_iconst (n := 206) (v := nI 1) dX10_joined_205 rfl rfl ?_
      refine j_goto (n := 210) dX10_joined_206 rfl ?_
      exact j_ri dX10_joined_210 rfl (Nat.le_refl _) (Nat.le_refl _) (by unfold joinV; (repeat (first | rw [if_pos (by omega)] | rw [if_neg (by omega)])); all_goals (first | rfl | exact (zB_t (by omega)).symm | exact (zB_f (by omega)).symm)) rfl rfl
    · refine j_iload_n (n := 202) dX10_joined_201 rfl rfl ?_
      refine j_if_eqT (n := 205) (tg := 209) dX10_joined_202 rfl rfl (fun h44 => ?_) (fun h44 => ?_)
      · refine j_iconst (n := 210) (v := nI 0) dX10_joined_209 rfl rfl ?_
        exact j_ri dX10_joined_210 rfl (Nat.le_refl _) (Nat.le_refl _) (by unfold joinV; (repeat (first | rw [if_pos (by omega)] | rw [if_neg (by omega)])); all_goals (first | rfl | exact (zB_t (by omega)).symm | exact (zB_f (by omega)).symm)) rfl rfl
      · refine j_iconst (n := 206) (v := nI 1) dX10_joined_205 rfl rfl ?_
        refine j_goto (n := 210) dX10_joined_206 rfl ?_
        exact j_ri dX10_joined_210 rfl (Nat.le_refl _) (Nat.le_refl _) (by unfold joinV; (repeat (first | rw [if_pos (by omega)] | rw [if_neg (by omega)])); all_goals (first | rfl | exact (zB_t (by omega)).symm | exact (zB_f (by omega)).symm)) rfl rfl
theorem c_worked (d : Nat) (G : zG) (M : zMem) (X : zX) (hk : kM X) (p : Nat → Nat) (hw : wfT p) (t : Nat) (ht : t < p 1) (a b e : Int32) (hf : ∀ v, isNm (p (100 + 200 * t)) v → M 176 v = nmV (p (100 + 200 * t)) v a b e) : zCall G miX10_worked (d + 1) [.ref 160, .int (nI t)] (zIr (fun r M1 X1 => r = evT p t a b e ∧ X1 = X ∧ ∃ M2, scr M M2 ∧ M1 = mm M2 p)) (mm M p) X 0 0 := by
  refine zCall.of (lv := [some (.ref 160), some (.int (nI t)), none, none, none, none]) (by decide) (Nat.le_of_ble_eq_true rfl) rfl ?_
  have hw0 := hw.1
  obtain ⟨x1, x2, x3, x4, x5, x60⟩ := hw.2 t ht
  refine j_iconst (n := 1) (v := nI 0) dX10_worked_0 rfl rfl ?_
  refine j_istore_n (n := 2) (lv2 := [some (.ref 160), some (.int (nI t)), some (.int (nI 0)), none, none, none]) dX10_worked_1 rfl rfl (by decide) rfl ?_
  refine j_iconst (n := 3) (v := nI 0) dX10_worked_2 rfl rfl ?_
  refine j_istore_n (n := 4) (lv2 := [some (.ref 160), some (.int (nI t)), some (.int (nI 0)), some (.int (nI 0)), none, none]) dX10_worked_3 rfl rfl (by decide) rfl ?_
  have loop : ∀ (j k : Nat) (M1 : zMem), p (102 + 200 * t) - k = j → k ≤ p (102 + 200 * t) → scr M M1 → M1 176 = M 176 → (∀ i, i < dep p (104 + 200 * t) k → M1 177 i = evS p (104 + 200 * t) (fun v => nmV (p (100 + 200 * t)) v a b e) k i) → zAt G miX10_worked (zRm (d + 1) 0 0) (zQ G (zIr (fun r M1 X1 => r = evT p t a b e ∧ X1 = X ∧ ∃ M2, scr M M2 ∧ M1 = mm M2 p)) 0 0) 4 [some (.ref 160), some (.int (nI t)), some (.int (nI (dep p (104 + 200 * t) k))), some (.int (nI k)), none, none] [] (mm M1 p) X (0, 0) := by
    intro j
    induction j using Nat.strongRecOn with
    | ind j ih =>
      intro k M1 hj hk0 hsc h176 hst
      have hdk := dep_le p (104 + 200 * t) k
      refine j_iload_n (n := 5) dX10_worked_4 rfl rfl ?_
      refine j_aload_n (n := 6) dX10_worked_5 rfl rfl ?_
      refine jm_get (n := 9) (k := 0) (b := 161) dX10_worked_6 rfl fX10_7 rfl (by decide) hk ?_
      refine j_aload_n (n := 10) dX10_worked_9 rfl rfl ?_
      refine j_iload_n (n := 11) dX10_worked_10 rfl rfl ?_
      refine j_cV (n := 14) dX10_worked_11 rfl sX10_292 (c_textAt d G _ _ t) (by omega) (by decide) rfl rfl (Nat.le_of_ble_eq_true rfl) (hk).2.1 (by decide) (kM_lt hk) (by decide) (by decide) ?_
      refine j_iconst (n := 15) (v := nI 2) dX10_worked_14 rfl rfl ?_
      refine j_iaddN (n := 16) (c := 100 + 200 * t + 2) dX10_worked_15 rfl rfl ?_
      refine jm_ald (n := 17) (L := 3100) (a := 161) (i := 100 + 200 * t + 2) (v := nI (p (102 + 200 * t))) dX10_worked_16 rfl hk rfl (by omega) (show nI (p (100 + 200 * t + 2)) = nI (p (102 + 200 * t)) by rw [show 100 + 200 * t + 2 = 102 + 200 * t by omega]) ?_
      refine j_icmp_geT (n := 20) (tg := 163) dX10_worked_17 rfl rfl (i_N (by omega)) (i_N (by omega)) (fun h1 => ?_) (fun h1 => ?_)
      · refine j_aload_n (n := 164) dX10_worked_163 rfl rfl ?_
        refine jm_get (n := 167) (k := 28) (b := 177) dX10_worked_164 rfl fX10_58 rfl (by decide) hk ?_
        refine j_iconst (n := 168) (v := nI 0) dX10_worked_167 rfl rfl ?_
        refine jm_ald (n := 169) (L := 100) (a := 177) (i := 0) (v := evS p (104 + 200 * t) (fun v => nmV (p (100 + 200 * t)) v a b e) k 0) dX10_worked_168 rfl hk rfl (by omega) (hst 0 (by rw [← show p (102 + 200 * t) = k by omega, x4]; decide)) ?_
        exact j_iret dX10_worked_169 rfl rfl (Nat.le_refl _) (Nat.le_refl _) ⟨_, rfl, by unfold evT; rw [show p (102 + 200 * t) = k by omega], rfl, M1, hsc, rfl⟩
      · have x6 := x60 k (by omega)
        have hnm : p (104 + 200 * t + 2 * k) = 1 → p (104 + 200 * t + 2 * k + 1) < 128 := fun z => by have := x6.2.2.1 z; unfold isNm at this; omega
        refine j_aload_n (n := 21) dX10_worked_20 rfl rfl ?_
        refine jm_get (n := 24) (k := 0) (b := 161) dX10_worked_21 rfl fX10_7 rfl (by decide) hk ?_
        refine j_aload_n (n := 25) dX10_worked_24 rfl rfl ?_
        refine j_iload_n (n := 26) dX10_worked_25 rfl rfl ?_
        refine j_cV (n := 29) dX10_worked_26 rfl sX10_292 (c_textAt d G _ _ t) (by omega) (by decide) rfl rfl (Nat.le_of_ble_eq_true rfl) (hk).2.1 (by decide) (kM_lt hk) (by decide) (by decide) ?_
        refine j_iconst (n := 30) (v := nI 4) dX10_worked_29 rfl rfl ?_
        refine j_iaddN (n := 31) (c := 100 + 200 * t + 4) dX10_worked_30 rfl rfl ?_
        refine j_iconst (n := 32) (v := nI 2) dX10_worked_31 rfl rfl ?_
        refine j_iload_n (n := 33) dX10_worked_32 rfl rfl ?_
        refine j_imulN (n := 34) (c := 2 * k) dX10_worked_33 rfl rfl ?_
        refine j_iaddN (n := 35) (c := 100 + 200 * t + 4 + 2 * k) dX10_worked_34 rfl rfl ?_
        refine jm_ald (n := 36) (L := 3100) (a := 161) (i := 100 + 200 * t + 4 + 2 * k) (v := nI (p (104 + 200 * t + 2 * k))) dX10_worked_35 rfl hk rfl (by omega) (show nI (p (100 + 200 * t + 4 + 2 * k)) = nI (p (104 + 200 * t + 2 * k)) by rw [show 100 + 200 * t + 4 + 2 * k = 104 + 200 * t + 2 * k by omega]) ?_
        refine j_istore (n := 38) (lv2 := [some (.ref 160), some (.int (nI t)), some (.int (nI (dep p (104 + 200 * t) k))), some (.int (nI k)), some (.int (nI (p (104 + 200 * t + 2 * k)))), none]) dX10_worked_36 rfl rfl (by decide) rfl ?_
        refine j_aload_n (n := 39) dX10_worked_38 rfl rfl ?_
        refine jm_get (n := 42) (k := 0) (b := 161) dX10_worked_39 rfl fX10_7 rfl (by decide) hk ?_
        refine j_aload_n (n := 43) dX10_worked_42 rfl rfl ?_
        refine j_iload_n (n := 44) dX10_worked_43 rfl rfl ?_
        refine j_cV (n := 47) dX10_worked_44 rfl sX10_292 (c_textAt d G _ _ t) (by omega) (by decide) rfl rfl (Nat.le_of_ble_eq_true rfl) (hk).2.1 (by decide) (kM_lt hk) (by decide) (by decide) ?_
        refine j_iconst (n := 48) (v := nI 4) dX10_worked_47 rfl rfl ?_
        refine j_iaddN (n := 49) (c := 100 + 200 * t + 4) dX10_worked_48 rfl rfl ?_
        refine j_iconst (n := 50) (v := nI 2) dX10_worked_49 rfl rfl ?_
        refine j_iload_n (n := 51) dX10_worked_50 rfl rfl ?_
        refine j_imulN (n := 52) (c := 2 * k) dX10_worked_51 rfl rfl ?_
        refine j_iaddN (n := 53) (c := 100 + 200 * t + 4 + 2 * k) dX10_worked_52 rfl rfl ?_
        refine j_iconst (n := 54) (v := nI 1) dX10_worked_53 rfl rfl ?_
        refine j_iaddN (n := 55) (c := 100 + 200 * t + 4 + 2 * k + 1) dX10_worked_54 rfl rfl ?_
        refine jm_ald (n := 56) (L := 3100) (a := 161) (i := 100 + 200 * t + 4 + 2 * k + 1) (v := nI (p (104 + 200 * t + 2 * k + 1))) dX10_worked_55 rfl hk rfl (by omega) (show nI (p (100 + 200 * t + 4 + 2 * k + 1)) = nI (p (104 + 200 * t + 2 * k + 1)) by rw [show 100 + 200 * t + 4 + 2 * k + 1 = 104 + 200 * t + 2 * k + 1 by omega]) ?_
        refine j_istore (n := 58) (lv2 := [some (.ref 160), some (.int (nI t)), some (.int (nI (dep p (104 + 200 * t) k))), some (.int (nI k)), some (.int (nI (p (104 + 200 * t + 2 * k)))), some (.int (nI (p (104 + 200 * t + 2 * k + 1))))]) dX10_worked_56 rfl rfl (by decide) rfl ?_
        refine j_iload (n := 60) dX10_worked_58 rfl rfl ?_
        refine j_iconst (n := 61) (v := nI 2) dX10_worked_60 rfl rfl ?_
        refine j_icmp_eqT (n := 64) (tg := 93) dX10_worked_61 rfl rfl (i_N (by omega)) (i_N (by omega)) (fun h2 => ?_) (fun h2 => ?_)
        · refine j_iload (n := 95) dX10_worked_93 rfl rfl ?_
          refine j_bipush (n := 97) (v := nI 33) dX10_worked_95 rfl (by decide) ?_
          refine j_icmp_neT (n := 100) (tg := 127) dX10_worked_97 rfl rfl (i_N (by omega)) (i_N (by omega)) (fun h3 => ?_) (fun h3 => ?_)
          · refine j_iinc (n := 130) (y := nI (dep p (104 + 200 * t) k - 1)) (lv2 := [some (.ref 160), some (.int (nI t)), some (.int (nI (dep p (104 + 200 * t) k - 1))), some (.int (nI k)), some (.int (nI (p (104 + 200 * t + 2 * k)))), some (.int (nI (p (104 + 200 * t + 2 * k + 1))))]) dX10_worked_127 rfl rfl (by decide) rfl (nI_dec1 (by omega)) rfl ?_
            refine j_aload_n (n := 131) dX10_worked_130 rfl rfl ?_
            refine jm_get (n := 134) (k := 28) (b := 177) dX10_worked_131 rfl fX10_58 rfl (by decide) hk ?_
            refine j_iload_n (n := 135) dX10_worked_134 rfl rfl ?_
            refine j_iconst (n := 136) (v := nI 1) dX10_worked_135 rfl rfl ?_
            refine j_isubN (n := 137) (c := dep p (104 + 200 * t) k - 2) dX10_worked_136 rfl (by omega) (by omega) ?_
            refine j_iload (n := 139) dX10_worked_137 rfl rfl ?_
            refine j_aload_n (n := 140) dX10_worked_139 rfl rfl ?_
            refine jm_get (n := 143) (k := 28) (b := 177) dX10_worked_140 rfl fX10_58 rfl (by decide) hk ?_
            refine j_iload_n (n := 144) dX10_worked_143 rfl rfl ?_
            refine j_iconst (n := 145) (v := nI 1) dX10_worked_144 rfl rfl ?_
            refine j_isubN (n := 146) (c := dep p (104 + 200 * t) k - 2) dX10_worked_145 rfl (by omega) (by omega) ?_
            refine jm_ald (n := 147) (L := 100) (a := 177) (i := dep p (104 + 200 * t) k - 2) (v := evS p (104 + 200 * t) (fun v => nmV (p (100 + 200 * t)) v a b e) k (dep p (104 + 200 * t) k - 2)) dX10_worked_146 rfl hk rfl (by omega) (hst _ (by omega)) ?_
            refine j_aload_n (n := 148) dX10_worked_147 rfl rfl ?_
            refine jm_get (n := 151) (k := 28) (b := 177) dX10_worked_148 rfl fX10_58 rfl (by decide) hk ?_
            refine j_iload_n (n := 152) dX10_worked_151 rfl rfl ?_
            refine jm_ald (n := 153) (L := 100) (a := 177) (i := dep p (104 + 200 * t) k - 1) (v := evS p (104 + 200 * t) (fun v => nmV (p (100 + 200 * t)) v a b e) k (dep p (104 + 200 * t) k - 1)) dX10_worked_152 rfl hk rfl (by omega) (hst _ (by omega)) ?_
            refine j_cS (n := 156) dX10_worked_153 rfl sX10_307 (c_joined d G _ _ (p (104 + 200 * t + 2 * k + 1)) (by omega) _ _) (by omega) (by decide) rfl rfl (Nat.le_of_ble_eq_true rfl) (by decide) (by decide) ?_
            refine jm_ast (n := 157) (L := 100) (a := 177) (i := dep p (104 + 200 * t) k - 2) (x := joinV (p (104 + 200 * t + 2 * k + 1)) (evS p (104 + 200 * t) (fun v => nmV (p (100 + 200 * t)) v a b e) k (dep p (104 + 200 * t) k - 2)) (evS p (104 + 200 * t) (fun v => nmV (p (100 + 200 * t)) v a b e) k (dep p (104 + 200 * t) k - 1))) (M2 := mm (zs M1 177 (upd (M1 177) (dep p (104 + 200 * t) k - 2) (joinV (p (104 + 200 * t + 2 * k + 1)) (evS p (104 + 200 * t) (fun v => nmV (p (100 + 200 * t)) v a b e) k (dep p (104 + 200 * t) k - 2)) (evS p (104 + 200 * t) (fun v => nmV (p (100 + 200 * t)) v a b e) k (dep p (104 + 200 * t) k - 1))))) p) dX10_worked_156 rfl hk rfl (by omega) (mm_wo (by decide) rfl) ?_
            refine j_iinc (n := 160) (y := nI (k + 1)) (lv2 := [some (.ref 160), some (.int (nI t)), some (.int (nI (dep p (104 + 200 * t) k - 1))), some (.int (nI (k + 1))), some (.int (nI (p (104 + 200 * t + 2 * k)))), some (.int (nI (p (104 + 200 * t + 2 * k + 1))))]) dX10_worked_157 rfl rfl (by decide) rfl (show nI k + nI 1 = nI (k + 1) by rw [nI_add]) rfl ?_
            refine j_goto (n := 4) dX10_worked_160 rfl ?_
            have hd1 : dep p (104 + 200 * t) (k + 1) = dep p (104 + 200 * t) k - 1 := (by rw [dep, if_neg (by omega), if_neg (by omega)])
            have he1 : evS p (104 + 200 * t) (fun v => nmV (p (100 + 200 * t)) v a b e) (k + 1) = upd (evS p (104 + 200 * t) (fun v => nmV (p (100 + 200 * t)) v a b e) k) (dep p (104 + 200 * t) k - 2) (joinV (p (104 + 200 * t + 2 * k + 1)) (evS p (104 + 200 * t) (fun v => nmV (p (100 + 200 * t)) v a b e) k (dep p (104 + 200 * t) k - 2)) (evS p (104 + 200 * t) (fun v => nmV (p (100 + 200 * t)) v a b e) k (dep p (104 + 200 * t) k - 1))) := (by rw [evS, if_neg (by omega), if_neg (by omega)])
            refine j_lv (lv2 := [some (.ref 160), some (.int (nI t)), some (.int (nI (dep p (104 + 200 * t) (k + 1)))), some (.int (nI (k + 1))), some (.int (nI (p (104 + 200 * t + 2 * k)))), some (.int (nI (p (104 + 200 * t + 2 * k + 1))))]) (by rw [hd1]) ?_
            refine j_wk (lv2 := [some (.ref 160), some (.int (nI t)), some (.int (nI (dep p (104 + 200 * t) (k + 1)))), some (.int (nI (k + 1))), none, none]) ⟨rfl, rfl, rfl, rfl, trivial⟩ ?_
            exact ih _ (by omega) (k + 1) (zs M1 177 (upd (M1 177) (dep p (104 + 200 * t) k - 2) (joinV (p (104 + 200 * t + 2 * k + 1)) (evS p (104 + 200 * t) (fun v => nmV (p (100 + 200 * t)) v a b e) k (dep p (104 + 200 * t) k - 2)) (evS p (104 + 200 * t) (fun v => nmV (p (100 + 200 * t)) v a b e) k (dep p (104 + 200 * t) k - 1))))) rfl (by omega) (hsc.tr (scr.p _ _)) ((zs_ne _ _ (by decide)).trans h176) (fun i hi => by rw [zs_eq, he1]; rw [hd1] at hi; exact st_top hst (by omega) i hi)
          · refine j_aload_n (n := 101) dX10_worked_100 rfl rfl ?_
            refine jm_get (n := 104) (k := 28) (b := 177) dX10_worked_101 rfl fX10_58 rfl (by decide) hk ?_
            refine j_iload_n (n := 105) dX10_worked_104 rfl rfl ?_
            refine j_iconst (n := 106) (v := nI 1) dX10_worked_105 rfl rfl ?_
            refine j_isubN (n := 107) (c := dep p (104 + 200 * t) k - 1) dX10_worked_106 rfl (by omega) (by omega) ?_
            refine j_aload_n (n := 108) dX10_worked_107 rfl rfl ?_
            refine jm_get (n := 111) (k := 28) (b := 177) dX10_worked_108 rfl fX10_58 rfl (by decide) hk ?_
            refine j_iload_n (n := 112) dX10_worked_111 rfl rfl ?_
            refine j_iconst (n := 113) (v := nI 1) dX10_worked_112 rfl rfl ?_
            refine j_isubN (n := 114) (c := dep p (104 + 200 * t) k - 1) dX10_worked_113 rfl (by omega) (by omega) ?_
            refine jm_ald (n := 115) (L := 100) (a := 177) (i := dep p (104 + 200 * t) k - 1) (v := evS p (104 + 200 * t) (fun v => nmV (p (100 + 200 * t)) v a b e) k (dep p (104 + 200 * t) k - 1)) dX10_worked_114 rfl hk rfl (by omega) (hst _ (by omega)) ?_
            refine j_if_neT (n := 118) (tg := 122) dX10_worked_115 rfl rfl (fun h4 => ?_) (fun h4 => ?_)
            · refine j_iconst (n := 123) (v := nI 0) dX10_worked_122 rfl rfl ?_
              refine jm_ast (n := 124) (L := 100) (a := 177) (i := dep p (104 + 200 * t) k - 1) (x := nI 0) (M2 := mm (zs M1 177 (upd (M1 177) (dep p (104 + 200 * t) k - 1) (nI 0))) p) dX10_worked_123 rfl hk rfl (by omega) (mm_wo (by decide) rfl) ?_
              refine j_goto (n := 157) dX10_worked_124 rfl ?_
              refine j_iinc (n := 160) (y := nI (k + 1)) (lv2 := [some (.ref 160), some (.int (nI t)), some (.int (nI (dep p (104 + 200 * t) k))), some (.int (nI (k + 1))), some (.int (nI (p (104 + 200 * t + 2 * k)))), some (.int (nI (p (104 + 200 * t + 2 * k + 1))))]) dX10_worked_157 rfl rfl (by decide) rfl (show nI k + nI 1 = nI (k + 1) by rw [nI_add]) rfl ?_
              refine j_goto (n := 4) dX10_worked_160 rfl ?_
              have hd1 : dep p (104 + 200 * t) (k + 1) = dep p (104 + 200 * t) k := (by rw [dep, if_neg (by omega), if_pos (by omega)])
              have he1 : evS p (104 + 200 * t) (fun v => nmV (p (100 + 200 * t)) v a b e) (k + 1) = upd (evS p (104 + 200 * t) (fun v => nmV (p (100 + 200 * t)) v a b e) k) (dep p (104 + 200 * t) k - 1) (nI 0) := (by rw [evS, if_neg (by omega), if_pos (by omega)]; congr 1; first | rw [zB_t (by omega)] | rw [zB_f (by omega)])
              refine j_lv (lv2 := [some (.ref 160), some (.int (nI t)), some (.int (nI (dep p (104 + 200 * t) (k + 1)))), some (.int (nI (k + 1))), some (.int (nI (p (104 + 200 * t + 2 * k)))), some (.int (nI (p (104 + 200 * t + 2 * k + 1))))]) (by rw [hd1]) ?_
              refine j_wk (lv2 := [some (.ref 160), some (.int (nI t)), some (.int (nI (dep p (104 + 200 * t) (k + 1)))), some (.int (nI (k + 1))), none, none]) ⟨rfl, rfl, rfl, rfl, trivial⟩ ?_
              exact ih _ (by omega) (k + 1) (zs M1 177 (upd (M1 177) (dep p (104 + 200 * t) k - 1) (nI 0))) rfl (by omega) (hsc.tr (scr.p _ _)) ((zs_ne _ _ (by decide)).trans h176) (fun i hi => by rw [zs_eq, he1]; rw [hd1] at hi; exact st_top hst (by omega) i hi)
            · refine j_iconst (n := 119) (v := nI 1) dX10_worked_118 rfl rfl ?_
              refine j_goto (n := 123) dX10_worked_119 rfl ?_
              refine jm_ast (n := 124) (L := 100) (a := 177) (i := dep p (104 + 200 * t) k - 1) (x := nI 1) (M2 := mm (zs M1 177 (upd (M1 177) (dep p (104 + 200 * t) k - 1) (nI 1))) p) dX10_worked_123 rfl hk rfl (by omega) (mm_wo (by decide) rfl) ?_
              refine j_goto (n := 157) dX10_worked_124 rfl ?_
              refine j_iinc (n := 160) (y := nI (k + 1)) (lv2 := [some (.ref 160), some (.int (nI t)), some (.int (nI (dep p (104 + 200 * t) k))), some (.int (nI (k + 1))), some (.int (nI (p (104 + 200 * t + 2 * k)))), some (.int (nI (p (104 + 200 * t + 2 * k + 1))))]) dX10_worked_157 rfl rfl (by decide) rfl (show nI k + nI 1 = nI (k + 1) by rw [nI_add]) rfl ?_
              refine j_goto (n := 4) dX10_worked_160 rfl ?_
              have hd1 : dep p (104 + 200 * t) (k + 1) = dep p (104 + 200 * t) k := (by rw [dep, if_neg (by omega), if_pos (by omega)])
              have he1 : evS p (104 + 200 * t) (fun v => nmV (p (100 + 200 * t)) v a b e) (k + 1) = upd (evS p (104 + 200 * t) (fun v => nmV (p (100 + 200 * t)) v a b e) k) (dep p (104 + 200 * t) k - 1) (nI 1) := (by rw [evS, if_neg (by omega), if_pos (by omega)]; congr 1; first | rw [zB_t (by omega)] | rw [zB_f (by omega)])
              refine j_lv (lv2 := [some (.ref 160), some (.int (nI t)), some (.int (nI (dep p (104 + 200 * t) (k + 1)))), some (.int (nI (k + 1))), some (.int (nI (p (104 + 200 * t + 2 * k)))), some (.int (nI (p (104 + 200 * t + 2 * k + 1))))]) (by rw [hd1]) ?_
              refine j_wk (lv2 := [some (.ref 160), some (.int (nI t)), some (.int (nI (dep p (104 + 200 * t) (k + 1)))), some (.int (nI (k + 1))), none, none]) ⟨rfl, rfl, rfl, rfl, trivial⟩ ?_
              exact ih _ (by omega) (k + 1) (zs M1 177 (upd (M1 177) (dep p (104 + 200 * t) k - 1) (nI 1))) rfl (by omega) (hsc.tr (scr.p _ _)) ((zs_ne _ _ (by decide)).trans h176) (fun i hi => by rw [zs_eq, he1]; rw [hd1] at hi; exact st_top hst (by omega) i hi)
        · refine j_aload_n (n := 65) dX10_worked_64 rfl rfl ?_
          refine jm_get (n := 68) (k := 28) (b := 177) dX10_worked_65 rfl fX10_58 rfl (by decide) hk ?_
          refine j_iload_n (n := 69) dX10_worked_68 rfl rfl ?_
          refine j_iload (n := 71) dX10_worked_69 rfl rfl ?_
          refine j_if_neN (n := 74) (tg := 79) dX10_worked_71 rfl rfl (by omega) (fun h5 => ?_) (fun h5 => ?_)
          · refine j_aload_n (n := 80) dX10_worked_79 rfl rfl ?_
            refine jm_get (n := 83) (k := 27) (b := 176) dX10_worked_80 rfl fX10_55 rfl (by decide) hk ?_
            refine j_iload (n := 85) dX10_worked_83 rfl rfl ?_
            refine jm_ald (n := 86) (L := 128) (a := 176) (i := p (104 + 200 * t + 2 * k + 1)) (v := nmV (p (100 + 200 * t)) (p (104 + 200 * t + 2 * k + 1)) a b e) dX10_worked_85 rfl hk rfl (by omega) ((congrFun (show mm M1 p 176 = M 176 from h176) _).trans (hf _ (x6.2.2.1 (by omega)))) ?_
            refine jm_ast (n := 87) (L := 100) (a := 177) (i := dep p (104 + 200 * t) k) (x := nmV (p (100 + 200 * t)) (p (104 + 200 * t + 2 * k + 1)) a b e) (M2 := mm (zs M1 177 (upd (M1 177) (dep p (104 + 200 * t) k) (nmV (p (100 + 200 * t)) (p (104 + 200 * t + 2 * k + 1)) a b e))) p) dX10_worked_86 rfl hk rfl (by omega) (mm_wo (by decide) rfl) ?_
            refine j_iinc (n := 90) (y := nI (dep p (104 + 200 * t) k + 1)) (lv2 := [some (.ref 160), some (.int (nI t)), some (.int (nI (dep p (104 + 200 * t) k + 1))), some (.int (nI k)), some (.int (nI (p (104 + 200 * t + 2 * k)))), some (.int (nI (p (104 + 200 * t + 2 * k + 1))))]) dX10_worked_87 rfl rfl (by decide) rfl (show nI (dep p (104 + 200 * t) k) + nI 1 = nI (dep p (104 + 200 * t) k + 1) by rw [nI_add]) rfl ?_
            refine j_goto (n := 157) dX10_worked_90 rfl ?_
            refine j_iinc (n := 160) (y := nI (k + 1)) (lv2 := [some (.ref 160), some (.int (nI t)), some (.int (nI (dep p (104 + 200 * t) k + 1))), some (.int (nI (k + 1))), some (.int (nI (p (104 + 200 * t + 2 * k)))), some (.int (nI (p (104 + 200 * t + 2 * k + 1))))]) dX10_worked_157 rfl rfl (by decide) rfl (show nI k + nI 1 = nI (k + 1) by rw [nI_add]) rfl ?_
            refine j_goto (n := 4) dX10_worked_160 rfl ?_
            have hd1 : dep p (104 + 200 * t) (k + 1) = dep p (104 + 200 * t) k + 1 := (by rw [dep, if_pos (by omega)])
            have he1 : evS p (104 + 200 * t) (fun v => nmV (p (100 + 200 * t)) v a b e) (k + 1) = upd (evS p (104 + 200 * t) (fun v => nmV (p (100 + 200 * t)) v a b e) k) (dep p (104 + 200 * t) k) (nmV (p (100 + 200 * t)) (p (104 + 200 * t + 2 * k + 1)) a b e) := (by rw [evS, if_pos (by omega)]; congr 1; first | rw [if_pos (by omega)] | rw [if_neg (by omega)])
            refine j_lv (lv2 := [some (.ref 160), some (.int (nI t)), some (.int (nI (dep p (104 + 200 * t) (k + 1)))), some (.int (nI (k + 1))), some (.int (nI (p (104 + 200 * t + 2 * k)))), some (.int (nI (p (104 + 200 * t + 2 * k + 1))))]) (by rw [hd1]) ?_
            refine j_wk (lv2 := [some (.ref 160), some (.int (nI t)), some (.int (nI (dep p (104 + 200 * t) (k + 1)))), some (.int (nI (k + 1))), none, none]) ⟨rfl, rfl, rfl, rfl, trivial⟩ ?_
            exact ih _ (by omega) (k + 1) (zs M1 177 (upd (M1 177) (dep p (104 + 200 * t) k) (nmV (p (100 + 200 * t)) (p (104 + 200 * t + 2 * k + 1)) a b e))) rfl (by omega) (hsc.tr (scr.p _ _)) ((zs_ne _ _ (by decide)).trans h176) (fun i hi => by rw [zs_eq, he1]; rw [hd1] at hi; exact st_push hst i hi)
          · refine j_iload (n := 76) dX10_worked_74 rfl rfl ?_
            refine j_goto (n := 86) dX10_worked_76 rfl ?_
            refine jm_ast (n := 87) (L := 100) (a := 177) (i := dep p (104 + 200 * t) k) (x := nI (p (104 + 200 * t + 2 * k + 1))) (M2 := mm (zs M1 177 (upd (M1 177) (dep p (104 + 200 * t) k) (nI (p (104 + 200 * t + 2 * k + 1))))) p) dX10_worked_86 rfl hk rfl (by omega) (mm_wo (by decide) rfl) ?_
            refine j_iinc (n := 90) (y := nI (dep p (104 + 200 * t) k + 1)) (lv2 := [some (.ref 160), some (.int (nI t)), some (.int (nI (dep p (104 + 200 * t) k + 1))), some (.int (nI k)), some (.int (nI (p (104 + 200 * t + 2 * k)))), some (.int (nI (p (104 + 200 * t + 2 * k + 1))))]) dX10_worked_87 rfl rfl (by decide) rfl (show nI (dep p (104 + 200 * t) k) + nI 1 = nI (dep p (104 + 200 * t) k + 1) by rw [nI_add]) rfl ?_
            refine j_goto (n := 157) dX10_worked_90 rfl ?_
            refine j_iinc (n := 160) (y := nI (k + 1)) (lv2 := [some (.ref 160), some (.int (nI t)), some (.int (nI (dep p (104 + 200 * t) k + 1))), some (.int (nI (k + 1))), some (.int (nI (p (104 + 200 * t + 2 * k)))), some (.int (nI (p (104 + 200 * t + 2 * k + 1))))]) dX10_worked_157 rfl rfl (by decide) rfl (show nI k + nI 1 = nI (k + 1) by rw [nI_add]) rfl ?_
            refine j_goto (n := 4) dX10_worked_160 rfl ?_
            have hd1 : dep p (104 + 200 * t) (k + 1) = dep p (104 + 200 * t) k + 1 := (by rw [dep, if_pos (by omega)])
            have he1 : evS p (104 + 200 * t) (fun v => nmV (p (100 + 200 * t)) v a b e) (k + 1) = upd (evS p (104 + 200 * t) (fun v => nmV (p (100 + 200 * t)) v a b e) k) (dep p (104 + 200 * t) k) (nI (p (104 + 200 * t + 2 * k + 1))) := (by rw [evS, if_pos (by omega)]; congr 1; first | rw [if_pos (by omega)] | rw [if_neg (by omega)])
            refine j_lv (lv2 := [some (.ref 160), some (.int (nI t)), some (.int (nI (dep p (104 + 200 * t) (k + 1)))), some (.int (nI (k + 1))), some (.int (nI (p (104 + 200 * t + 2 * k)))), some (.int (nI (p (104 + 200 * t + 2 * k + 1))))]) (by rw [hd1]) ?_
            refine j_wk (lv2 := [some (.ref 160), some (.int (nI t)), some (.int (nI (dep p (104 + 200 * t) (k + 1)))), some (.int (nI (k + 1))), none, none]) ⟨rfl, rfl, rfl, rfl, trivial⟩ ?_
            exact ih _ (by omega) (k + 1) (zs M1 177 (upd (M1 177) (dep p (104 + 200 * t) k) (nI (p (104 + 200 * t + 2 * k + 1))))) rfl (by omega) (hsc.tr (scr.p _ _)) ((zs_ne _ _ (by decide)).trans h176) (fun i hi => by rw [zs_eq, he1]; rw [hd1] at hi; exact st_push hst i hi)
  exact loop _ 0 M rfl (Nat.zero_le _) (scr.rf M) rfl (fun i hi => absurd hi (Nat.not_lt_zero _))
