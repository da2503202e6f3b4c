-- MODEL O: by program (wip/whole/gen/b15.py)
theorem l_add (x y : Int32) : (x.toInt64 + y.toInt64).toInt = x.toInt + y.toInt := by
  have h1 := Int32.toInt_lt x
  have h2 := Int32.le_toInt x
  have h3 := Int32.toInt_lt y
  have h4 := Int32.le_toInt y
  rw [Int64.toInt_add, l_toInt, l_toInt]
  exact Int.bmod_eq_of_le (by omega) (by omega)
theorem lc_gt {x y : Int32} {z : Nat} (hz : z < 2147483648) : 0 < lg_cmp (x.toInt64 + y.toInt64) (nI z).toInt64 ↔ (z : Int) < x.toInt + y.toInt := by
  rw [lg_cmp_gt, Int64.lt_iff_toInt_lt, l_add, l_toInt, i_N hz]
theorem lc_le {x y : Int32} {z : Nat} (hz : z < 2147483648) : lg_cmp (x.toInt64 + y.toInt64) (nI z).toInt64 ≤ 0 ↔ x.toInt + y.toInt ≤ (z : Int) := by
  rw [lg_cmp_le, Int64.le_iff_toInt_le, l_add, l_toInt, i_N hz]
def okCopy (l1 l2 : Nat) (place a many : Int32) : Prop := 0 ≤ place.toInt ∧ 0 ≤ a.toInt ∧ 0 ≤ many.toInt ∧ place.toInt + many.toInt ≤ (l1 : Int) ∧ a.toInt + many.toInt ≤ (l2 : Int)
def r_copy (from0 to : Int32) (s1 s2 : Int32) (l1 l2 : Nat) (place a many : Int32) : Int32 := if ¬ ((0 ≤ from0.toInt ∧ from0.toInt ≤ 3) ∧ (0 ≤ to.toInt ∧ to.toInt ≤ 3)) then cBAD else if s1.toInt < 0 ∨ s2.toInt < 0 then cNOTHING else if ¬ s1.toInt = s2.toInt then cKIND else if ¬ (0 ≤ place.toInt ∧ 0 ≤ a.toInt ∧ 0 ≤ many.toInt ∧ place.toInt + many.toInt ≤ (l1 : Int) ∧ a.toInt + many.toInt ≤ (l2 : Int)) then cINDEX else many
/-- k places from a on become those of g from b on -/
def cyF (f g : Nat → Int32) (a b k : Nat) : Nat → Int32 := fun i => if a ≤ i ∧ i < a + k then g (b + (i - a)) else f i
theorem cyF_0 (f g : Nat → Int32) (a b : Nat) : cyF f g a b 0 = f := by
  funext i
  unfold cyF
  rw [if_neg (by omega)]
theorem cyF_s (f g : Nat → Int32) (a b k : Nat) : upd (cyF f g a b k) (a + k) (g (b + k)) = cyF f g a b (k + 1) := by
  funext i
  unfold upd cyF
  by_cases h : i = a + k
  · rw [if_pos h, if_pos (by omega), show i - a = k by omega]
  · rw [if_neg h]
    by_cases h2 : a ≤ i ∧ i < a + k
    · rw [if_pos h2, if_pos (by omega)]
    · rw [if_neg h2, if_neg (by omega)]
def m_copy (M : zMem) (from0 to place a many : Int32) : zMem := if r_copy from0 to (M 164 (tN from0)) (M 164 (tN to)) (tN (M 165 (tN from0))) (tN (M 165 (tN to))) place a many = many ∧ 0 ≤ many.toInt then zs M 166 (cyF (M 166) (M 166) (24 * tN to + tN a) (24 * tN from0 + tN place) (tN many)) else M
theorem c_copy (d : Nat) (G : zG) (M : zMem) (X : zX) (hk : kM X) (p : Nat → Nat) (hs : wfS M) (from0 place to a many : Int32) : zCall G miX10_copy (d + 2) [.ref 160, .int from0, .int place, .int to, .int a, .int many] (zIr (fun r0 M1 X1 => r0 = r_copy from0 to (M 164 (tN from0)) (M 164 (tN to)) (tN (M 165 (tN from0))) (tN (M 165 (tN to))) place a many ∧ X1 = X ∧ ∃ M2, scw (m_copy M from0 to place a many) M2 ∧ M1 = mm M2 p)) (mm M p) X 0 0 := by
  refine zCall.of (lv := [some (.ref 160), some (.int from0), some (.int place), some (.int to), some (.int a), some (.int many), none]) (by decide) (Nat.le_of_ble_eq_true rfl) rfl ?_
  refine j_iload_n (n := 1) dX10_copy_0 rfl rfl ?_
  refine j_cS (n := 4) dX10_copy_1 rfl sX10_310 (c_isSheet d G _ _ _) (by omega) (by decide) rfl rfl (Nat.le_of_ble_eq_true rfl) (by decide) (by decide) ?_
  refine j_if_eqB (n := 7) (tg := 14) dX10_copy_4 rfl rfl (fun h1 => ?_) (fun h1 => ?_)
  · refine j_ldc (n := 16) (v := -1000000001) dX10_copy_14 rfl kX10_93 ?_
    exact j_iret dX10_copy_16 rfl rfl (Nat.le_refl _) (Nat.le_refl _) ⟨_, rfl, by unfold r_copy; (try rw [eq, eg]); repeat (first | rw [if_pos (by omega)] | rw [if_neg (by omega)]), rfl, M, (by unfold m_copy; rw [if_neg]; exact scw.rf M; unfold r_copy; (try rw [eq, eg]); intro z; revert z; (repeat (first | rw [if_pos (by omega)] | rw [if_neg (by omega)])); intro z; exact absurd z.2 (by rw [← z.1]; decide)), rfl⟩
  · refine j_iload_n (n := 8) dX10_copy_7 rfl rfl ?_
    refine j_cS (n := 11) dX10_copy_8 rfl sX10_310 (c_isSheet d G _ _ _) (by omega) (by decide) rfl rfl (Nat.le_of_ble_eq_true rfl) (by decide) (by decide) ?_
    refine j_if_neB (n := 14) (tg := 17) dX10_copy_11 rfl rfl (fun h2 => ?_) (fun h2 => ?_)
    · obtain ⟨q, hq, rfl⟩ := i_of (x := from0) (n := 4) (by omega) (by omega)
      have eq : tN (nI q) = q := tN_nI (by omega)
      have iq : (nI q).toInt = q := i_N (by omega)
      obtain ⟨g, hg, rfl⟩ := i_of (x := to) (n := 4) (by omega) (by omega)
      have eg : tN (nI g) = g := tN_nI (by omega)
      have ig : (nI g).toInt = g := i_N (by omega)
      have hq1 := hs q hq
      have hg1 := hs g hg
      refine j_aload_n (n := 18) dX10_copy_17 rfl rfl ?_
      refine jm_get (n := 21) (k := 4) (b := 164) dX10_copy_18 rfl fX10_19 rfl (by decide) hk ?_
      refine j_iload_n (n := 22) dX10_copy_21 rfl rfl ?_
      refine jm_ald (n := 23) (L := 4) (a := 164) (i := q) (v := M 164 q) dX10_copy_22 rfl hk rfl (by omega) rfl ?_
      refine j_if_ltT (n := 26) (tg := 35) dX10_copy_23 rfl rfl (fun h3 => ?_) (fun h3 => ?_)
      · refine j_ldcw (n := 38) (v := -1000000011) dX10_copy_35 rfl kX10_316 ?_
        exact j_iret dX10_copy_38 rfl rfl (Nat.le_refl _) (Nat.le_refl _) ⟨_, rfl, by unfold r_copy; (try rw [eq, eg]); repeat (first | rw [if_pos (by omega)] | rw [if_neg (by omega)]), rfl, M, (by unfold m_copy; rw [if_neg]; exact scw.rf M; unfold r_copy; (try rw [eq, eg]); intro z; revert z; (repeat (first | rw [if_pos (by omega)] | rw [if_neg (by omega)])); intro z; exact absurd z.2 (by rw [← z.1]; decide)), rfl⟩
      · refine j_aload_n (n := 27) dX10_copy_26 rfl rfl ?_
        refine jm_get (n := 30) (k := 4) (b := 164) dX10_copy_27 rfl fX10_19 rfl (by decide) hk ?_
        refine j_iload_n (n := 31) dX10_copy_30 rfl rfl ?_
        refine jm_ald (n := 32) (L := 4) (a := 164) (i := g) (v := M 164 g) dX10_copy_31 rfl hk rfl (by omega) rfl ?_
        refine j_if_geT (n := 35) (tg := 39) dX10_copy_32 rfl rfl (fun h4 => ?_) (fun h4 => ?_)
        · refine j_aload_n (n := 40) dX10_copy_39 rfl rfl ?_
          refine jm_get (n := 43) (k := 4) (b := 164) dX10_copy_40 rfl fX10_19 rfl (by decide) hk ?_
          refine j_iload_n (n := 44) dX10_copy_43 rfl rfl ?_
          refine jm_ald (n := 45) (L := 4) (a := 164) (i := q) (v := M 164 q) dX10_copy_44 rfl hk rfl (by omega) rfl ?_
          refine j_aload_n (n := 46) dX10_copy_45 rfl rfl ?_
          refine jm_get (n := 49) (k := 4) (b := 164) dX10_copy_46 rfl fX10_19 rfl (by decide) hk ?_
          refine j_iload_n (n := 50) dX10_copy_49 rfl rfl ?_
          refine jm_ald (n := 51) (L := 4) (a := 164) (i := g) (v := M 164 g) dX10_copy_50 rfl hk rfl (by omega) rfl ?_
          refine j_icmp_eqT (n := 54) (tg := 57) dX10_copy_51 rfl rfl rfl rfl (fun h5 => ?_) (fun h5 => ?_)
          · refine j_iload_n (n := 58) dX10_copy_57 rfl rfl ?_
            refine j_if_ltT (n := 61) (tg := 106) dX10_copy_58 rfl rfl (fun h6 => ?_) (fun h6 => ?_)
            · refine j_ldcw (n := 109) (v := -1000000013) dX10_copy_106 rfl kX10_317 ?_
              exact j_iret dX10_copy_109 rfl rfl (Nat.le_refl _) (Nat.le_refl _) ⟨_, rfl, by unfold r_copy; (try rw [eq, eg]); repeat (first | rw [if_pos (by omega)] | rw [if_neg (by omega)]), rfl, M, (by unfold m_copy; rw [if_neg]; exact scw.rf M; unfold r_copy; (try rw [eq, eg]); intro z; revert z; (repeat (first | rw [if_pos (by omega)] | rw [if_neg (by omega)])); intro z; exact absurd z.2 (by rw [← z.1]; decide)), rfl⟩
            · refine j_iload (n := 63) dX10_copy_61 rfl rfl ?_
              refine j_if_ltT (n := 66) (tg := 106) dX10_copy_63 rfl rfl (fun h7 => ?_) (fun h7 => ?_)
              · refine j_ldcw (n := 109) (v := -1000000013) dX10_copy_106 rfl kX10_317 ?_
                exact j_iret dX10_copy_109 rfl rfl (Nat.le_refl _) (Nat.le_refl _) ⟨_, rfl, by unfold r_copy; (try rw [eq, eg]); repeat (first | rw [if_pos (by omega)] | rw [if_neg (by omega)]), rfl, M, (by unfold m_copy; rw [if_neg]; exact scw.rf M; unfold r_copy; (try rw [eq, eg]); intro z; revert z; (repeat (first | rw [if_pos (by omega)] | rw [if_neg (by omega)])); intro z; exact absurd z.2 (by rw [← z.1]; decide)), rfl⟩
              · refine j_iload (n := 68) dX10_copy_66 rfl rfl ?_
                refine j_if_ltT (n := 71) (tg := 106) dX10_copy_68 rfl rfl (fun h8 => ?_) (fun h8 => ?_)
                · refine j_ldcw (n := 109) (v := -1000000013) dX10_copy_106 rfl kX10_317 ?_
                  exact j_iret dX10_copy_109 rfl rfl (Nat.le_refl _) (Nat.le_refl _) ⟨_, rfl, by unfold r_copy; (try rw [eq, eg]); repeat (first | rw [if_pos (by omega)] | rw [if_neg (by omega)]), rfl, M, (by unfold m_copy; rw [if_neg]; exact scw.rf M; unfold r_copy; (try rw [eq, eg]); intro z; revert z; (repeat (first | rw [if_pos (by omega)] | rw [if_neg (by omega)])); intro z; exact absurd z.2 (by rw [← z.1]; decide)), rfl⟩
                · refine j_iload_n (n := 72) dX10_copy_71 rfl rfl ?_
                  refine j_i2l (n := 73) dX10_copy_72 rfl ?_
                  refine j_iload (n := 75) dX10_copy_73 rfl rfl ?_
                  refine j_i2l (n := 76) dX10_copy_75 rfl ?_
                  refine j_ladd (n := 77) dX10_copy_76 rfl ?_
                  refine j_aload_n (n := 78) dX10_copy_77 rfl rfl ?_
                  refine jm_get (n := 81) (k := 5) (b := 165) dX10_copy_78 rfl fX10_22 rfl (by decide) hk ?_
                  refine j_iload_n (n := 82) dX10_copy_81 rfl rfl ?_
                  refine jm_ald (n := 83) (L := 4) (a := 165) (i := q) (v := nI (tN (M 165 q))) dX10_copy_82 rfl hk rfl (by omega) (nI_tN (M 165 q)).symm ?_
                  refine j_i2l (n := 84) dX10_copy_83 rfl ?_
                  refine j_lcmp (n := 85) dX10_copy_84 rfl ?_
                  refine j_if_gt (n := 88) (tg := 106) dX10_copy_85 rfl rfl (fun h9 => ?_) (fun h9 => ?_)
                  · rw [lc_gt (by omega)] at h9
                    refine j_ldcw (n := 109) (v := -1000000013) dX10_copy_106 rfl kX10_317 ?_
                    exact j_iret dX10_copy_109 rfl rfl (Nat.le_refl _) (Nat.le_refl _) ⟨_, rfl, by unfold r_copy; (try rw [eq, eg]); repeat (first | rw [if_pos (by omega)] | rw [if_neg (by omega)]), rfl, M, (by unfold m_copy; rw [if_neg]; exact scw.rf M; unfold r_copy; (try rw [eq, eg]); intro z; revert z; (repeat (first | rw [if_pos (by omega)] | rw [if_neg (by omega)])); intro z; exact absurd z.2 (by rw [← z.1]; decide)), rfl⟩
                  · rw [lc_gt (by omega)] at h9
                    refine j_iload (n := 90) dX10_copy_88 rfl rfl ?_
                    refine j_i2l (n := 91) dX10_copy_90 rfl ?_
                    refine j_iload (n := 93) dX10_copy_91 rfl rfl ?_
                    refine j_i2l (n := 94) dX10_copy_93 rfl ?_
                    refine j_ladd (n := 95) dX10_copy_94 rfl ?_
                    refine j_aload_n (n := 96) dX10_copy_95 rfl rfl ?_
                    refine jm_get (n := 99) (k := 5) (b := 165) dX10_copy_96 rfl fX10_22 rfl (by decide) hk ?_
                    refine j_iload_n (n := 100) dX10_copy_99 rfl rfl ?_
                    refine jm_ald (n := 101) (L := 4) (a := 165) (i := g) (v := nI (tN (M 165 g))) dX10_copy_100 rfl hk rfl (by omega) (nI_tN (M 165 g)).symm ?_
                    refine j_i2l (n := 102) dX10_copy_101 rfl ?_
                    refine j_lcmp (n := 103) dX10_copy_102 rfl ?_
                    refine j_if_le (n := 106) (tg := 110) dX10_copy_103 rfl rfl (fun h10 => ?_) (fun h10 => ?_)
                    · rw [lc_le (by omega)] at h10
                      obtain ⟨w, hw, rfl⟩ := i_of (x := place) (n := 25) (by omega) (by omega)
                      have ew : tN (nI w) = w := tN_nI (by omega)
                      have iw : (nI w).toInt = w := i_N (by omega)
                      obtain ⟨v, hv, rfl⟩ := i_of (x := a) (n := 25) (by omega) (by omega)
                      have ev : tN (nI v) = v := tN_nI (by omega)
                      have iv : (nI v).toInt = v := i_N (by omega)
                      obtain ⟨m, hm, rfl⟩ := i_of (x := many) (n := 25) (by omega) (by omega)
                      have em : tN (nI m) = m := tN_nI (by omega)
                      have im : (nI m).toInt = m := i_N (by omega)
                      refine j_iconst (n := 111) (v := nI 0) dX10_copy_110 rfl rfl ?_
                      refine j_istore (n := 113) (lv2 := [some (.ref 160), some (.int (nI q)), some (.int (nI w)), some (.int (nI g)), some (.int (nI v)), some (.int (nI m)), some (.int (nI 0))]) dX10_copy_111 rfl rfl (by decide) rfl ?_
                      have loop : ∀ (j k : Nat), m - k = j → k ≤ m → zAt G miX10_copy (zRm (d + 2) 0 0) (zQ G (zIr (fun r0 M1 X1 => r0 = r_copy (nI q) (nI g) (M 164 (tN (nI q))) (M 164 (tN (nI g))) (tN (M 165 (tN (nI q)))) (tN (M 165 (tN (nI g)))) (nI w) (nI v) (nI m) ∧ X1 = X ∧ ∃ M2, scw (m_copy M (nI q) (nI g) (nI w) (nI v) (nI m)) M2 ∧ M1 = mm M2 p)) 0 0) 113 [some (.ref 160), some (.int (nI q)), some (.int (nI w)), some (.int (nI g)), some (.int (nI v)), some (.int (nI m)), some (.int (nI k))] [] (mm (zs M 178 (cyF (M 178) (M 166) 0 (24 * q + w) k)) p) X (0, 0) := by
                        intro j
                        induction j using Nat.strongRecOn with
                        | ind j ih =>
                          intro k hj hk0
                          refine j_iload (n := 115) dX10_copy_113 rfl rfl ?_
                          refine j_iload (n := 117) dX10_copy_115 rfl rfl ?_
                          refine j_icmp_geT (n := 120) (tg := 147) dX10_copy_117 rfl rfl (i_N (by omega)) (i_N (by omega)) (fun h11 => ?_) (fun h11 => ?_)
                          · refine j_iconst (n := 148) (v := nI 0) dX10_copy_147 rfl rfl ?_
                            refine j_istore (n := 150) (lv2 := [some (.ref 160), some (.int (nI q)), some (.int (nI w)), some (.int (nI g)), some (.int (nI v)), some (.int (nI m)), some (.int (nI 0))]) dX10_copy_148 rfl rfl (by decide) rfl ?_
                            have loop2 : ∀ (j k : Nat), m - k = j → k ≤ m → zAt G miX10_copy (zRm (d + 2) 0 0) (zQ G (zIr (fun r0 M1 X1 => r0 = r_copy (nI q) (nI g) (M 164 (tN (nI q))) (M 164 (tN (nI g))) (tN (M 165 (tN (nI q)))) (tN (M 165 (tN (nI g)))) (nI w) (nI v) (nI m) ∧ X1 = X ∧ ∃ M2, scw (m_copy M (nI q) (nI g) (nI w) (nI v) (nI m)) M2 ∧ M1 = mm M2 p)) 0 0) 150 [some (.ref 160), some (.int (nI q)), some (.int (nI w)), some (.int (nI g)), some (.int (nI v)), some (.int (nI m)), some (.int (nI k))] [] (mm (zs (zs M 178 (cyF (M 178) (M 166) 0 (24 * q + w) m)) 166 (cyF (M 166) (M 166) (24 * g + v) (24 * q + w) k)) p) X (0, 0) := by
                              intro j
                              induction j using Nat.strongRecOn with
                              | ind j ih =>
                                intro k hj hk0
                                refine j_iload (n := 152) dX10_copy_150 rfl rfl ?_
                                refine j_iload (n := 154) dX10_copy_152 rfl rfl ?_
                                refine j_icmp_geT (n := 157) (tg := 185) dX10_copy_154 rfl rfl (i_N (by omega)) (i_N (by omega)) (fun h12 => ?_) (fun h12 => ?_)
                                · refine j_iload (n := 187) dX10_copy_185 rfl rfl ?_
                                  have er : r_copy (nI q) (nI g) (M 164 q) (M 164 g) (tN (M 165 q)) (tN (M 165 g)) (nI w) (nI v) (nI m) = nI m := by unfold r_copy; repeat (first | rw [if_pos (by omega)] | rw [if_neg (by omega)])
                                  exact j_iret dX10_copy_187 rfl rfl (Nat.le_refl _) (Nat.le_refl _) ⟨_, rfl, (by rw [eq, eg]; exact er.symm), rfl, _, (by unfold m_copy; rw [eq, eg, ew, ev, em, if_pos ⟨er, by omega⟩, show k = m by omega, zs_comm _ _ _ (by decide : (178 : Nat) ≠ 166)]; exact scw.s _ _ (by unfold scq; omega)), rfl⟩
                                · refine j_aload_n (n := 158) dX10_copy_157 rfl rfl ?_
                                  refine jm_get (n := 161) (k := 6) (b := 166) dX10_copy_158 rfl fX10_25 rfl (by decide) hk ?_
                                  refine j_bipush (n := 163) (v := nI 24) dX10_copy_161 rfl (by decide) ?_
                                  refine j_iload_n (n := 164) dX10_copy_163 rfl rfl ?_
                                  refine j_imulN (n := 165) (c := 24 * g) dX10_copy_164 rfl rfl ?_
                                  refine j_iload (n := 167) dX10_copy_165 rfl rfl ?_
                                  refine j_iaddN (n := 168) (c := 24 * g + v) dX10_copy_167 rfl rfl ?_
                                  refine j_iload (n := 170) dX10_copy_168 rfl rfl ?_
                                  refine j_iaddN (n := 171) (c := 24 * g + v + k) dX10_copy_170 rfl rfl ?_
                                  refine j_aload_n (n := 172) dX10_copy_171 rfl rfl ?_
                                  refine jm_get (n := 175) (k := 29) (b := 178) dX10_copy_172 rfl fX10_61 rfl (by decide) hk ?_
                                  refine j_iload (n := 177) dX10_copy_175 rfl rfl ?_
                                  refine jm_ald (n := 178) (L := 24) (a := 178) (i := k) (v := M 166 (24 * q + w + k)) dX10_copy_177 rfl hk rfl (by omega) (by rw [mm_ne _ _ (by decide), zs_ne _ _ (by decide), zs_eq]; unfold cyF; rw [if_pos (by omega), Nat.sub_zero]) ?_
                                  refine jm_ast (n := 179) (L := 96) (a := 166) (i := 24 * g + v + k) (x := M 166 (24 * q + w + k)) (M2 := mm (zs (zs M 178 (cyF (M 178) (M 166) 0 (24 * q + w) m)) 166 (cyF (M 166) (M 166) (24 * g + v) (24 * q + w) (k + 1))) p) dX10_copy_178 rfl hk rfl (by omega) (mm_wo (by decide) (by rw [zs_eq, zs_zs, cyF_s])) ?_
                                  refine j_iinc (n := 182) (y := nI (k + 1)) (lv2 := [some (.ref 160), some (.int (nI q)), some (.int (nI w)), some (.int (nI g)), some (.int (nI v)), some (.int (nI m)), some (.int (nI (k + 1)))]) dX10_copy_179 rfl rfl (by decide) rfl (show nI k + nI 1 = nI (k + 1) by rw [nI_add]) rfl ?_
                                  refine j_goto (n := 150) dX10_copy_182 rfl ?_
                                  exact ih _ (by omega) (k + 1) rfl (by omega)
                            rw [show k = m by omega]
                            refine j_mem (M2 := mm (zs (zs M 178 (cyF (M 178) (M 166) 0 (24 * q + w) m)) 166 (cyF (M 166) (M 166) (24 * g + v) (24 * q + w) 0)) p) (congrArg (fun z => mm z p) (by rw [cyF_0]; exact (zs_id _ 166).symm.trans (congrArg (zs _ 166) (zs_ne _ _ (by decide))))) ?_
                            exact loop2 _ 0 rfl (Nat.zero_le _)
                          · refine j_aload_n (n := 121) dX10_copy_120 rfl rfl ?_
                            refine jm_get (n := 124) (k := 29) (b := 178) dX10_copy_121 rfl fX10_61 rfl (by decide) hk ?_
                            refine j_iload (n := 126) dX10_copy_124 rfl rfl ?_
                            refine j_aload_n (n := 127) dX10_copy_126 rfl rfl ?_
                            refine jm_get (n := 130) (k := 6) (b := 166) dX10_copy_127 rfl fX10_25 rfl (by decide) hk ?_
                            refine j_bipush (n := 132) (v := nI 24) dX10_copy_130 rfl (by decide) ?_
                            refine j_iload_n (n := 133) dX10_copy_132 rfl rfl ?_
                            refine j_imulN (n := 134) (c := 24 * q) dX10_copy_133 rfl rfl ?_
                            refine j_iload_n (n := 135) dX10_copy_134 rfl rfl ?_
                            refine j_iaddN (n := 136) (c := 24 * q + w) dX10_copy_135 rfl rfl ?_
                            refine j_iload (n := 138) dX10_copy_136 rfl rfl ?_
                            refine j_iaddN (n := 139) (c := 24 * q + w + k) dX10_copy_138 rfl rfl ?_
                            refine jm_ald (n := 140) (L := 96) (a := 166) (i := 24 * q + w + k) (v := M 166 (24 * q + w + k)) dX10_copy_139 rfl hk rfl (by omega) (by simp [mm, zs]) ?_
                            refine jm_ast (n := 141) (L := 24) (a := 178) (i := k) (x := M 166 (24 * q + w + k)) (M2 := mm (zs M 178 (cyF (M 178) (M 166) 0 (24 * q + w) (k + 1))) p) dX10_copy_140 rfl hk rfl (by omega) (mm_wo (by decide) (by rw [zs_eq, zs_zs]; have := cyF_s (M 178) (M 166) 0 (24 * q + w) k; rw [Nat.zero_add] at this; rw [this])) ?_
                            refine j_iinc (n := 144) (y := nI (k + 1)) (lv2 := [some (.ref 160), some (.int (nI q)), some (.int (nI w)), some (.int (nI g)), some (.int (nI v)), some (.int (nI m)), some (.int (nI (k + 1)))]) dX10_copy_141 rfl rfl (by decide) rfl (show nI k + nI 1 = nI (k + 1) by rw [nI_add]) rfl ?_
                            refine j_goto (n := 113) dX10_copy_144 rfl ?_
                            exact ih _ (by omega) (k + 1) rfl (by omega)
                      refine j_mem (M2 := mm (zs M 178 (cyF (M 178) (M 166) 0 (24 * q + w) 0)) p) (congrArg (fun z => mm z p) (by rw [cyF_0, zs_id])) ?_
                      exact loop _ 0 rfl (Nat.zero_le _)
                    · rw [lc_le (by omega)] at h10
                      refine j_ldcw (n := 109) (v := -1000000013) dX10_copy_106 rfl kX10_317 ?_
                      exact j_iret dX10_copy_109 rfl rfl (Nat.le_refl _) (Nat.le_refl _) ⟨_, rfl, by unfold r_copy; (try rw [eq, eg]); repeat (first | rw [if_pos (by omega)] | rw [if_neg (by omega)]), rfl, M, (by unfold m_copy; rw [if_neg]; exact scw.rf M; unfold r_copy; (try rw [eq, eg]); intro z; revert z; (repeat (first | rw [if_pos (by omega)] | rw [if_neg (by omega)])); intro z; exact absurd z.2 (by rw [← z.1]; decide)), rfl⟩
          · refine j_ldc (n := 56) (v := -1000000012) dX10_copy_54 rfl kX10_135 ?_
            exact j_iret dX10_copy_56 rfl rfl (Nat.le_refl _) (Nat.le_refl _) ⟨_, rfl, by unfold r_copy; (try rw [eq, eg]); repeat (first | rw [if_pos (by omega)] | rw [if_neg (by omega)]), rfl, M, (by unfold m_copy; rw [if_neg]; exact scw.rf M; unfold r_copy; (try rw [eq, eg]); intro z; revert z; (repeat (first | rw [if_pos (by omega)] | rw [if_neg (by omega)])); intro z; exact absurd z.2 (by rw [← z.1]; decide)), rfl⟩
        · refine j_ldcw (n := 38) (v := -1000000011) dX10_copy_35 rfl kX10_316 ?_
          exact j_iret dX10_copy_38 rfl rfl (Nat.le_refl _) (Nat.le_refl _) ⟨_, rfl, by unfold r_copy; (try rw [eq, eg]); repeat (first | rw [if_pos (by omega)] | rw [if_neg (by omega)]), rfl, M, (by unfold m_copy; rw [if_neg]; exact scw.rf M; unfold r_copy; (try rw [eq, eg]); intro z; revert z; (repeat (first | rw [if_pos (by omega)] | rw [if_neg (by omega)])); intro z; exact absurd z.2 (by rw [← z.1]; decide)), rfl⟩
    · refine j_ldc (n := 16) (v := -1000000001) dX10_copy_14 rfl kX10_93 ?_
      exact j_iret dX10_copy_16 rfl rfl (Nat.le_refl _) (Nat.le_refl _) ⟨_, rfl, by unfold r_copy; (try rw [eq, eg]); repeat (first | rw [if_pos (by omega)] | rw [if_neg (by omega)]), rfl, M, (by unfold m_copy; rw [if_neg]; exact scw.rf M; unfold r_copy; (try rw [eq, eg]); intro z; revert z; (repeat (first | rw [if_pos (by omega)] | rw [if_neg (by omega)])); intro z; exact absurd z.2 (by rw [← z.1]; decide)), rfl⟩
