-- CLASS B: by program (wip/whole/gen/c2.py)
theorem tp_0 : tp 0 = (-1 : Int32) := by decide
theorem evS_v {p : Nat → Nat} {q k : Nat} {nm : Nat → Int32} (h : ¬ p (q + 2 * k) = 2) : evS p q nm (k + 1) = upd (evS p q nm k) (dep p q k) (if p (q + 2 * k) = 0 then nI (p (q + 2 * k + 1)) else nm (p (q + 2 * k + 1))) := by
  rw [evS, if_pos h]
theorem evS_n {p : Nat → Nat} {q k : Nat} {nm : Nat → Int32} (h : p (q + 2 * k) = 2) (h2 : p (q + 2 * k + 1) = 33) : evS p q nm (k + 1) = upd (evS p q nm k) (dep p q k - 1) (zB ((evS p q nm k (dep p q k - 1)).toInt = 0)) := by
  rw [evS, if_neg (fun z => z h), if_pos h2]
theorem evS_j {p : Nat → Nat} {q k : Nat} {nm : Nat → Int32} (h : p (q + 2 * k) = 2) (h2 : ¬ p (q + 2 * k + 1) = 33) : evS p q nm (k + 1) = upd (evS p q nm k) (dep p q k - 2) (joinV (p (q + 2 * k + 1)) (evS p q nm k (dep p q k - 2)) (evS p q nm k (dep p q k - 1))) := by
  rw [evS, if_neg (fun z => z h), if_neg h2]
theorem c_join (d : Nat) (G : zG) (M : zMem) (X : zX) (v : Nat) (hv : isSg v) (hn : ¬ v = 33) (x y : Int32) : zCall G miX6_join (d + 0) [.int (nI v), .int x, .int y] (zI (joinV v x y) M X) M X 0 0 := by
  refine zCall.of (lv := [some (.int (nI v)), some (.int x), some (.int y)]) (by decide) (Nat.le_of_ble_eq_true rfl) rfl ?_
  unfold isSg at hv
  refine j_iload_n (n := 1) dX6_join_0 rfl rfl ?_
  have hs101 : v = 38 ∨ v = 42 ∨ v = 43 ∨ v = 45 ∨ v = 60 ∨ v = 61 ∨ v = 62 ∨ v = 124 ∨ (¬ v = 38 ∧ ¬ v = 42 ∧ ¬ v = 43 ∧ ¬ v = 45 ∧ ¬ v = 60 ∧ ¬ v = 61 ∧ ¬ v = 62 ∧ ¬ v = 124) := by omega
  rcases hs101 with hs101 | hs101 | hs101 | hs101 | hs101 | hs101 | hs101 | hs101 | hs101
  · refine j_lookup (off := 89) (tg := 90) dX6_join_1 (by decide) (by show Op.lookupswitch.offset ([(38, 89), (42, 144), (43, 136), (45, 140), (60, 103), (61, 114), (62, 125), (124, 75)] : List (Int × Int)) 148 _ = _; rw [i_N (by omega)]; (repeat (first | (rw [Op.lookupswitch.offset_cons, if_pos (by omega)]; done) | rw [Op.lookupswitch.offset_cons, if_neg (by omega)])); all_goals rfl) rfl ?_
    refine j_iload_n (n := 91) dX6_join_90 rfl rfl ?_
    refine j_if_eqT (n := 94) (tg := 102) dX6_join_91 rfl rfl (fun h102 => ?_) (fun h102 => ?_)
    · refine j_iconst (n := 103) (v := nI 0) dX6_join_102 rfl rfl ?_
      exact j_ri dX6_join_103 rfl (Nat.le_refl _) (Nat.le_refl _) (by unfold joinV; (repeat (first | rw [if_pos (by omega)] | rw [if_neg (by omega)])); all_goals first | rfl | exact (zB_t (by omega)).symm | exact (zB_f (by omega)).symm) rfl rfl
    · refine j_iload_n (n := 95) dX6_join_94 rfl rfl ?_
      refine j_if_eqT (n := 98) (tg := 102) dX6_join_95 rfl rfl (fun h103 => ?_) (fun h103 => ?_)
      · refine j_iconst (n := 103) (v := nI 0) dX6_join_102 rfl rfl ?_
        exact j_ri dX6_join_103 rfl (Nat.le_refl _) (Nat.le_refl _) (by unfold joinV; (repeat (first | rw [if_pos (by omega)] | rw [if_neg (by omega)])); all_goals first | rfl | exact (zB_t (by omega)).symm | exact (zB_f (by omega)).symm) rfl rfl
      · refine j_iconst (n := 99) (v := nI 1) dX6_join_98 rfl rfl ?_
        refine j_goto (n := 103) dX6_join_99 rfl ?_
        exact j_ri dX6_join_103 rfl (Nat.le_refl _) (Nat.le_refl _) (by unfold joinV; (repeat (first | rw [if_pos (by omega)] | rw [if_neg (by omega)])); all_goals first | rfl | exact (zB_t (by omega)).symm | exact (zB_f (by omega)).symm) rfl rfl
  · refine j_lookup (off := 144) (tg := 145) dX6_join_1 (by decide) (by show Op.lookupswitch.offset ([(38, 89), (42, 144), (43, 136), (45, 140), (60, 103), (61, 114), (62, 125), (124, 75)] : List (Int × Int)) 148 _ = _; rw [i_N (by omega)]; (repeat (first | (rw [Op.lookupswitch.offset_cons, if_pos (by omega)]; done) | rw [Op.lookupswitch.offset_cons, if_neg (by omega)])); all_goals rfl) rfl ?_
    refine j_iload_n (n := 146) dX6_join_145 rfl rfl ?_
    refine j_iload_n (n := 147) dX6_join_146 rfl rfl ?_
    refine j_imul (n := 148) dX6_join_147 rfl ?_
    exact j_ri dX6_join_148 rfl (Nat.le_refl _) (Nat.le_refl _) (by unfold joinV; (repeat (first | rw [if_pos (by omega)] | rw [if_neg (by omega)])); all_goals first | rfl | exact (zB_t (by omega)).symm | exact (zB_f (by omega)).symm) rfl rfl
  · refine j_lookup (off := 136) (tg := 137) dX6_join_1 (by decide) (by show Op.lookupswitch.offset ([(38, 89), (42, 144), (43, 136), (45, 140), (60, 103), (61, 114), (62, 125), (124, 75)] : List (Int × Int)) 148 _ = _; rw [i_N (by omega)]; (repeat (first | (rw [Op.lookupswitch.offset_cons, if_pos (by omega)]; done) | rw [Op.lookupswitch.offset_cons, if_neg (by omega)])); all_goals rfl) rfl ?_
    refine j_iload_n (n := 138) dX6_join_137 rfl rfl ?_
    refine j_iload_n (n := 139) dX6_join_138 rfl rfl ?_
    refine j_iadd (n := 140) dX6_join_139 rfl ?_
    exact j_ri dX6_join_140 rfl (Nat.le_refl _) (Nat.le_refl _) (by unfold joinV; (repeat (first | rw [if_pos (by omega)] | rw [if_neg (by omega)])); all_goals first | rfl | exact (zB_t (by omega)).symm | exact (zB_f (by omega)).symm) rfl rfl
  · refine j_lookup (off := 140) (tg := 141) dX6_join_1 (by decide) (by show Op.lookupswitch.offset ([(38, 89), (42, 144), (43, 136), (45, 140), (60, 103), (61, 114), (62, 125), (124, 75)] : List (Int × Int)) 148 _ = _; rw [i_N (by omega)]; (repeat (first | (rw [Op.lookupswitch.offset_cons, if_pos (by omega)]; done) | rw [Op.lookupswitch.offset_cons, if_neg (by omega)])); all_goals rfl) rfl ?_
    refine j_iload_n (n := 142) dX6_join_141 rfl rfl ?_
    refine j_iload_n (n := 143) dX6_join_142 rfl rfl ?_
    refine j_isub (n := 144) dX6_join_143 rfl ?_
    exact j_ri dX6_join_144 rfl (Nat.le_refl _) (Nat.le_refl _) (by unfold joinV; (repeat (first | rw [if_pos (by omega)] | rw [if_neg (by omega)])); all_goals first | rfl | exact (zB_t (by omega)).symm | exact (zB_f (by omega)).symm) rfl rfl
  · refine j_lookup (off := 103) (tg := 104) dX6_join_1 (by decide) (by show Op.lookupswitch.offset ([(38, 89), (42, 144), (43, 136), (45, 140), (60, 103), (61, 114), (62, 125), (124, 75)] : List (Int × Int)) 148 _ = _; rw [i_N (by omega)]; (repeat (first | (rw [Op.lookupswitch.offset_cons, if_pos (by omega)]; done) | rw [Op.lookupswitch.offset_cons, if_neg (by omega)])); all_goals rfl) rfl ?_
    refine j_iload_n (n := 105) dX6_join_104 rfl rfl ?_
    refine j_iload_n (n := 106) dX6_join_105 rfl rfl ?_
    refine j_icmp_geT (n := 109) (tg := 113) dX6_join_106 rfl rfl rfl rfl (fun h104 => ?_) (fun h104 => ?_)
    · refine j_iconst (n := 114) (v := nI 0) dX6_join_113 rfl rfl ?_
      exact j_ri dX6_join_114 rfl (Nat.le_refl _) (Nat.le_refl _) (by unfold joinV; (repeat (first | rw [if_pos (by omega)] | rw [if_neg (by omega)])); all_goals first | rfl | exact (zB_t (by omega)).symm | exact (zB_f (by omega)).symm) rfl rfl
    · refine j_iconst (n := 110) (v := nI 1) dX6_join_109 rfl rfl ?_
      refine j_goto (n := 114) dX6_join_110 rfl ?_
      exact j_ri dX6_join_114 rfl (Nat.le_refl _) (Nat.le_refl _) (by unfold joinV; (repeat (first | rw [if_pos (by omega)] | rw [if_neg (by omega)])); all_goals first | rfl | exact (zB_t (by omega)).symm | exact (zB_f (by omega)).symm) rfl rfl
  · refine j_lookup (off := 114) (tg := 115) dX6_join_1 (by decide) (by show Op.lookupswitch.offset ([(38, 89), (42, 144), (43, 136), (45, 140), (60, 103), (61, 114), (62, 125), (124, 75)] : List (Int × Int)) 148 _ = _; rw [i_N (by omega)]; (repeat (first | (rw [Op.lookupswitch.offset_cons, if_pos (by omega)]; done) | rw [Op.lookupswitch.offset_cons, if_neg (by omega)])); all_goals rfl) rfl ?_
    refine j_iload_n (n := 116) dX6_join_115 rfl rfl ?_
    refine j_iload_n (n := 117) dX6_join_116 rfl rfl ?_
    refine j_icmp_neT (n := 120) (tg := 124) dX6_join_117 rfl rfl rfl rfl (fun h105 => ?_) (fun h105 => ?_)
    · refine j_iconst (n := 125) (v := nI 0) dX6_join_124 rfl rfl ?_
      exact j_ri dX6_join_125 rfl (Nat.le_refl _) (Nat.le_refl _) (by unfold joinV; (repeat (first | rw [if_pos (by omega)] | rw [if_neg (by omega)])); all_goals first | rfl | exact (zB_t (by omega)).symm | exact (zB_f (by omega)).symm) rfl rfl
    · refine j_iconst (n := 121) (v := nI 1) dX6_join_120 rfl rfl ?_
      refine j_goto (n := 125) dX6_join_121 rfl ?_
      exact j_ri dX6_join_125 rfl (Nat.le_refl _) (Nat.le_refl _) (by unfold joinV; (repeat (first | rw [if_pos (by omega)] | rw [if_neg (by omega)])); all_goals first | rfl | exact (zB_t (by omega)).symm | exact (zB_f (by omega)).symm) rfl rfl
  · refine j_lookup (off := 125) (tg := 126) dX6_join_1 (by decide) (by show Op.lookupswitch.offset ([(38, 89), (42, 144), (43, 136), (45, 140), (60, 103), (61, 114), (62, 125), (124, 75)] : List (Int × Int)) 148 _ = _; rw [i_N (by omega)]; (repeat (first | (rw [Op.lookupswitch.offset_cons, if_pos (by omega)]; done) | rw [Op.lookupswitch.offset_cons, if_neg (by omega)])); all_goals rfl) rfl ?_
    refine j_iload_n (n := 127) dX6_join_126 rfl rfl ?_
    refine j_iload_n (n := 128) dX6_join_127 rfl rfl ?_
    refine j_icmp_leT (n := 131) (tg := 135) dX6_join_128 rfl rfl rfl rfl (fun h106 => ?_) (fun h106 => ?_)
    · refine j_iconst (n := 136) (v := nI 0) dX6_join_135 rfl rfl ?_
      exact j_ri dX6_join_136 rfl (Nat.le_refl _) (Nat.le_refl _) (by unfold joinV; (repeat (first | rw [if_pos (by omega)] | rw [if_neg (by omega)])); all_goals first | rfl | exact (zB_t (by omega)).symm | exact (zB_f (by omega)).symm) rfl rfl
    · refine j_iconst (n := 132) (v := nI 1) dX6_join_131 rfl rfl ?_
      refine j_goto (n := 136) dX6_join_132 rfl ?_
      exact j_ri dX6_join_136 rfl (Nat.le_refl _) (Nat.le_refl _) (by unfold joinV; (repeat (first | rw [if_pos (by omega)] | rw [if_neg (by omega)])); all_goals first | rfl | exact (zB_t (by omega)).symm | exact (zB_f (by omega)).symm) rfl rfl
  · refine j_lookup (off := 75) (tg := 76) dX6_join_1 (by decide) (by show Op.lookupswitch.offset ([(38, 89), (42, 144), (43, 136), (45, 140), (60, 103), (61, 114), (62, 125), (124, 75)] : List (Int × Int)) 148 _ = _; rw [i_N (by omega)]; (repeat (first | (rw [Op.lookupswitch.offset_cons, if_pos (by omega)]; done) | rw [Op.lookupswitch.offset_cons, if_neg (by omega)])); all_goals rfl) rfl ?_
    refine j_iload_n (n := 77) dX6_join_76 rfl rfl ?_
    refine j_if_neT (n := 80) (tg := 84) dX6_join_77 rfl rfl (fun h107 => ?_) (fun h107 => ?_)
    · refine j_iconst (n := 85) (v := nI 1) dX6_join_84 rfl rfl ?_
      refine j_goto (n := 89) dX6_join_85 rfl ?_
      exact j_ri dX6_join_89 rfl (Nat.le_refl _) (Nat.le_refl _) (by unfold joinV; (repeat (first | rw [if_pos (by omega)] | rw [if_neg (by omega)])); all_goals first | rfl | exact (zB_t (by omega)).symm | exact (zB_f (by omega)).symm) rfl rfl
    · refine j_iload_n (n := 81) dX6_join_80 rfl rfl ?_
      refine j_if_eqT (n := 84) (tg := 88) dX6_join_81 rfl rfl (fun h108 => ?_) (fun h108 => ?_)
      · refine j_iconst (n := 89) (v := nI 0) dX6_join_88 rfl rfl ?_
        exact j_ri dX6_join_89 rfl (Nat.le_refl _) (Nat.le_refl _) (by unfold joinV; (repeat (first | rw [if_pos (by omega)] | rw [if_neg (by omega)])); all_goals first | rfl | exact (zB_t (by omega)).symm | exact (zB_f (by omega)).symm) rfl rfl
      · refine j_iconst (n := 85) (v := nI 1) dX6_join_84 rfl rfl ?_
        refine j_goto (n := 89) dX6_join_85 rfl ?_
        exact j_ri dX6_join_89 rfl (Nat.le_refl _) (Nat.le_refl _) (by unfold joinV; (repeat (first | rw [if_pos (by omega)] | rw [if_neg (by omega)])); all_goals first | rfl | exact (zB_t (by omega)).symm | exact (zB_f (by omega)).symm) rfl rfl
  · refine j_lookup (off := 148) (tg := 149) dX6_join_1 (by decide) (by show Op.lookupswitch.offset ([(38, 89), (42, 144), (43, 136), (45, 140), (60, 103), (61, 114), (62, 125), (124, 75)] : List (Int × Int)) 148 _ = _; rw [i_N (by omega)]; (repeat (first | (rw [Op.lookupswitch.offset_cons, if_pos (by omega)]; done) | rw [Op.lookupswitch.offset_cons, if_neg (by omega)])); all_goals rfl) rfl ?_
    refine j_iload_n (n := 150) dX6_join_149 rfl rfl ?_
    refine j_if_neT (n := 153) (tg := 157) dX6_join_150 rfl rfl (fun h109 => ?_) (fun h109 => ?_)
    · refine j_iload_n (n := 158) dX6_join_157 rfl rfl ?_
      refine j_iload_n (n := 159) dX6_join_158 rfl rfl ?_
      refine j_idiv (n := 160) dX6_join_159 rfl (fun z => absurd (show y.toInt = 0 by rw [z]; rfl) (by assumption)) ?_
      exact j_ri dX6_join_160 rfl (Nat.le_refl _) (Nat.le_refl _) (by unfold joinV; (repeat (first | rw [if_pos (by omega)] | rw [if_neg (by omega)])); all_goals first | rfl | exact (zB_t (by omega)).symm | exact (zB_f (by omega)).symm) rfl rfl
    · refine j_iconst (n := 154) (v := nI 0) dX6_join_153 rfl rfl ?_
      refine j_goto (n := 160) dX6_join_154 rfl ?_
      exact j_ri dX6_join_160 rfl (Nat.le_refl _) (Nat.le_refl _) (by unfold joinV; (repeat (first | rw [if_pos (by omega)] | rw [if_neg (by omega)])); all_goals first | rfl | exact (zB_t (by omega)).symm | exact (zB_f (by omega)).symm) rfl rfl
theorem c_value (d : Nat) (G : zG) (M : zMem) (X : zX) (a : Nat) (c : Nat → Nat) (t : Nat) (ht : txt M X a c t) (hwx : wfX c t) (x y z : Int32) : zCall G miX6_value (d + 1) [.ref a, .int x, .int y, .int z] (zIr (fun r M1 X1 => r = evT c t x y z ∧ X1 = X ∧ scT M M1)) M X 0 0 := by
  refine zCall.of (lv := [some (.ref a), some (.int x), some (.int y), some (.int z), none, none, none, none]) (by decide) (Nat.le_of_ble_eq_true rfl) rfl ?_
  obtain ⟨x1, x2, x3, x4, x5, x60⟩ := hwx
  have ha := ht.1
  refine j_iconst (n := 1) (v := (-1)) dX6_value_0 rfl rfl ?_
  refine j_istore (n := 3) (lv2 := [some (.ref a), some (.int x), some (.int y), some (.int z), some (.int (-1)), none, none, none]) dX6_value_1 rfl rfl (by decide) rfl ?_
  refine j_iconst (n := 4) (v := nI 0) dX6_value_3 rfl rfl ?_
  refine j_istore (n := 6) (lv2 := [some (.ref a), some (.int x), some (.int y), some (.int z), some (.int (-1)), some (.int (nI 0)), none, none]) dX6_value_4 rfl rfl (by decide) rfl ?_
  have loop : ∀ (j k : Nat) (M1 : zMem), c (102 + 200 * t) - k = j → k ≤ c (102 + 200 * t) → scT M M1 → (∀ i, i < dep c (104 + 200 * t) k → M1 (a + 2) i = evS c (104 + 200 * t) (fun v => nmV (c (100 + 200 * t)) v x y z) k i) → zAt G miX6_value (zRm (d + 1) 0 0) (zQ G (zIr (fun r M1 X1 => r = evT c t x y z ∧ X1 = X ∧ scT M M1)) 0 0) 6 [some (.ref a), some (.int x), some (.int y), some (.int z), some (.int (tp (dep c (104 + 200 * t) k))), some (.int (nI k)), none, none] [] M1 X (0, 0) := by
    intro j
    induction j using Nat.strongRecOn with
    | ind j ih =>
      intro k M1 hj hk0 hsc hst
      have hdk := x5 k hk0
      have hdl := dep_le c (104 + 200 * t) k
      refine j_iload (n := 8) dX6_value_6 rfl rfl ?_
      refine j_aload_n (n := 9) dX6_value_8 rfl rfl ?_
      refine j_getr (n := 12) (k := 3) (b := a + 1) dX6_value_9 rfl fX6_19 ht.2.1 (by omega) (by omega) ht.2.2.1 ?_
      refine j_alen (n := 13) (t := 0) (L := c (102 + 200 * t)) dX6_value_12 rfl ht.2.2.2.2.1.1 (by decide) ht.2.2.2.2.1.2 (by omega) (by omega) ?_
      refine j_icmp_geT (n := 16) (tg := 174) dX6_value_13 rfl rfl (i_N (by omega)) (i_N (by omega)) (fun h101 => ?_) (fun h101 => ?_)
      · have hk9 : k = c (102 + 200 * t) := by omega
        have hd9 : dep c (104 + 200 * t) k = 1 := by rw [hk9]; exact x4
        refine j_lv (lv2 := [some (.ref a), some (.int x), some (.int y), some (.int z), some (.int (nI 0)), some (.int (nI k)), none, none]) (by rw [hd9, tp_p (by omega)]) ?_
        refine j_iload (n := 176) dX6_value_174 rfl rfl ?_
        refine j_if_ltM (n := 179) (tg := 189) dX6_value_176 rfl rfl (by omega) (fun h102 => ?_) (fun h102 => ?_)
        · exact absurd h102 (by decide)
        · refine j_aload_n (n := 180) dX6_value_179 rfl rfl ?_
          refine j_getr (n := 183) (k := 4) (b := a + 2) dX6_value_180 rfl fX6_23 ht.2.1 (by omega) (by omega) ht.2.2.2.1 ?_
          refine j_iload (n := 185) dX6_value_183 rfl rfl ?_
          refine j_ialdN (n := 186) (L := c (101 + 200 * t)) (a := a + 2) (i := 0) (v := evS c (104 + 200 * t) (fun v => nmV (c (100 + 200 * t)) v x y z) k 0) dX6_value_185 rfl ht.2.2.2.2.2.1.1 ht.2.2.2.2.2.1.2 (by omega) (by omega) (by omega) (by omega) (hst 0 (by omega)) ?_
          refine j_goto (n := 190) dX6_value_186 rfl ?_
          exact j_iret dX6_value_190 rfl rfl (Nat.le_refl _) (Nat.le_refl _) ⟨_, rfl, by unfold evT; rw [← hk9], rfl, hsc⟩
      · refine j_aload_n (n := 17) dX6_value_16 rfl rfl ?_
        refine j_getr (n := 20) (k := 3) (b := a + 1) dX6_value_17 rfl fX6_19 ht.2.1 (by omega) (by omega) ht.2.2.1 ?_
        refine j_iload (n := 22) dX6_value_20 rfl rfl ?_
        refine j_ialdN (n := 23) (L := c (102 + 200 * t)) (a := a + 1) (i := k) (v := encS (c (100 + 200 * t)) (c (104 + 200 * t + 2 * k)) (c (104 + 200 * t + 2 * k + 1))) dX6_value_22 rfl ht.2.2.2.2.1.1 ht.2.2.2.2.1.2 (by omega) (by omega) (by omega) (by omega) ((congrFun (hsc (a + 1) (fun z => by unfold stk at z; omega)) k).trans (ht.2.2.2.2.2.2.2.2.2 k (by omega)).1) ?_
        have x6 := x60 k (by omega)
        have hro := (ht.2.2.2.2.2.2.2.2.2 k (by omega))
        have hw3 : c (104 + 200 * t + 2 * k) = 0 ∨ c (104 + 200 * t + 2 * k) = 1 ∨ (c (104 + 200 * t + 2 * k) = 2 ∧ c (104 + 200 * t + 2 * k + 1) = 33) ∨ (c (104 + 200 * t + 2 * k) = 2 ∧ ¬ c (104 + 200 * t + 2 * k + 1) = 33) := by omega
        rcases hw3 with w0 | w1 | ⟨w2, h33⟩ | ⟨w2, h33⟩
        · have hd1 := x5 (k + 1) (by omega)
          have e1 : dep c (104 + 200 * t) (k + 1) = dep c (104 + 200 * t) k + 1 := by rw [dep, if_pos (by omega)]
          refine j_top (y := nI (c (104 + 200 * t + 2 * k + 1))) (by unfold encS; rw [if_pos w0]) ?_
          refine j_istore (n := 25) (lv2 := [some (.ref a), some (.int x), some (.int y), some (.int z), some (.int (tp (dep c (104 + 200 * t) k))), some (.int (nI k)), some (.int (nI (c (104 + 200 * t + 2 * k + 1)))), none]) dX6_value_23 rfl rfl (by decide) rfl ?_
          refine j_iload (n := 27) dX6_value_25 rfl rfl ?_
          refine j_if_ltM (n := 30) (tg := 93) dX6_value_27 rfl rfl (by omega) (fun h103 => ?_) (fun h103 => ?_)
          · exfalso; omega
          · refine j_iinc (n := 33) (y := nI (dep c (104 + 200 * t) k)) (lv2 := [some (.ref a), some (.int x), some (.int y), some (.int z), some (.int (nI (dep c (104 + 200 * t) k))), some (.int (nI k)), some (.int (nI (c (104 + 200 * t + 2 * k + 1)))), none]) dX6_value_30 rfl rfl (by decide) rfl (tp_s _) rfl ?_
            refine j_iload (n := 35) dX6_value_33 rfl rfl ?_
            refine j_aload_n (n := 36) dX6_value_35 rfl rfl ?_
            refine j_getr (n := 39) (k := 4) (b := a + 2) dX6_value_36 rfl fX6_23 ht.2.1 (by omega) (by omega) ht.2.2.2.1 ?_
            refine j_alen (n := 40) (t := 0) (L := c (101 + 200 * t)) dX6_value_39 rfl ht.2.2.2.2.2.1.1 (by decide) ht.2.2.2.2.2.1.2 (by omega) (by omega) ?_
            refine j_icmp_ltT (n := 43) (tg := 45) dX6_value_40 rfl rfl (i_N (by omega)) (i_N (by omega)) (fun h104 => ?_) (fun h104 => ?_)
            · refine j_iload (n := 47) dX6_value_45 rfl rfl ?_
              refine j_sipush (n := 50) (v := nI 10000) dX6_value_47 rfl (by decide) ?_
              refine j_isub (n := 51) dX6_value_50 rfl ?_
              have hs0 : (nI (c (104 + 200 * t + 2 * k + 1)) - nI 10000).toInt = (c (104 + 200 * t + 2 * k + 1) : Int) - 10000 := by have := pk_sub_toInt (a := c (104 + 200 * t + 2 * k + 1)) (b := 10000) (by omega) (by decide); omega
              refine j_istore (n := 53) (lv2 := [some (.ref a), some (.int x), some (.int y), some (.int z), some (.int (nI (dep c (104 + 200 * t) k))), some (.int (nI k)), some (.int (nI (c (104 + 200 * t + 2 * k + 1)))), some (.int (nI (c (104 + 200 * t + 2 * k + 1)) - nI 10000))]) dX6_value_51 rfl rfl (by decide) rfl ?_
              refine j_aload_n (n := 54) dX6_value_53 rfl rfl ?_
              refine j_getr (n := 57) (k := 4) (b := a + 2) dX6_value_54 rfl fX6_23 ht.2.1 (by omega) (by omega) ht.2.2.2.1 ?_
              refine j_iload (n := 59) dX6_value_57 rfl rfl ?_
              refine j_iload (n := 61) dX6_value_59 rfl rfl ?_
              refine j_if_geT (n := 64) (tg := 69) dX6_value_61 rfl rfl (fun h105 => ?_) (fun h105 => ?_)
              · exfalso; omega
              · refine j_iload (n := 66) dX6_value_64 rfl rfl ?_
                refine j_goto (n := 89) dX6_value_66 rfl ?_
                refine j_top (y := (if c (104 + 200 * t + 2 * k) = 0 then nI (c (104 + 200 * t + 2 * k + 1)) else (fun v => nmV (c (100 + 200 * t)) v x y z) (c (104 + 200 * t + 2 * k + 1)))) (by first | (exfalso; omega) | (rw [if_pos w0]; done) | (rw [if_neg (by omega)]; show _ = nmV _ _ _ _ _; rw [hnk]; (repeat (first | rw [if_pos (by omega)] | rw [if_neg (by omega)])))) ?_
                refine j_iastN (n := 90) (L := c (101 + 200 * t)) (a := a + 2) (i := dep c (104 + 200 * t) k) (x := (if c (104 + 200 * t + 2 * k) = 0 then nI (c (104 + 200 * t + 2 * k + 1)) else (fun v => nmV (c (100 + 200 * t)) v x y z) (c (104 + 200 * t + 2 * k + 1)))) (M2 := zs M1 (a + 2) (upd (M1 (a + 2)) (dep c (104 + 200 * t) k) (if c (104 + 200 * t + 2 * k) = 0 then nI (c (104 + 200 * t + 2 * k + 1)) else (fun v => nmV (c (100 + 200 * t)) v x y z) (c (104 + 200 * t + 2 * k + 1))))) dX6_value_89 rfl ht.2.2.2.2.2.1.1 ht.2.2.2.2.2.1.2 (by omega) (by omega) (by omega) (by omega) rfl ?_
                refine j_goto (n := 168) dX6_value_90 rfl ?_
                refine j_iinc (n := 171) (y := nI (k + 1)) (lv2 := [some (.ref a), some (.int x), some (.int y), some (.int z), some (.int (nI (dep c (104 + 200 * t) k))), some (.int (nI (k + 1))), some (.int (nI (c (104 + 200 * t + 2 * k + 1)))), some (.int (nI (c (104 + 200 * t + 2 * k + 1)) - nI 10000))]) dX6_value_168 rfl rfl (by decide) rfl (show nI k + nI 1 = nI (k + 1) by rw [nI_add]) rfl ?_
                refine j_goto (n := 6) dX6_value_171 rfl ?_
                refine j_lv (lv2 := [some (.ref a), some (.int x), some (.int y), some (.int z), some (.int (tp (dep c (104 + 200 * t) (k + 1)))), some (.int (nI (k + 1))), some (.int (nI (c (104 + 200 * t + 2 * k + 1)))), some (.int (nI (c (104 + 200 * t + 2 * k + 1)) - nI 10000))]) (by rw [e1, tp_p (by omega)]; rfl) ?_
                refine j_wk (lv2 := [some (.ref a), some (.int x), some (.int y), some (.int z), some (.int (tp (dep c (104 + 200 * t) (k + 1)))), some (.int (nI (k + 1))), none, none]) ⟨rfl, rfl, rfl, rfl, rfl, rfl, trivial⟩ ?_
                exact ih _ (by omega) (k + 1) _ rfl (by omega) (hsc.tr (scT.s _ _ ⟨by omega, by omega⟩)) (fun i hi => by rw [zs_eq, evS_v (by omega)]; exact st_push hst i (by omega))
            · exfalso; omega
        · have hd1 := x5 (k + 1) (by omega)
          have e1 : dep c (104 + 200 * t) (k + 1) = dep c (104 + 200 * t) k + 1 := by rw [dep, if_pos (by omega)]
          have hnl := nmI_le (c (100 + 200 * t)) (c (104 + 200 * t + 2 * k + 1))
          have hnk := nm_key (x6.2.2.1 w1) x y z
          refine j_top (y := nI (10000 + nmI (c (100 + 200 * t)) (c (104 + 200 * t + 2 * k + 1)))) (by unfold encS; rw [if_neg (by omega), if_pos w1]) ?_
          refine j_istore (n := 25) (lv2 := [some (.ref a), some (.int x), some (.int y), some (.int z), some (.int (tp (dep c (104 + 200 * t) k))), some (.int (nI k)), some (.int (nI (10000 + nmI (c (100 + 200 * t)) (c (104 + 200 * t + 2 * k + 1))))), none]) dX6_value_23 rfl rfl (by decide) rfl ?_
          refine j_iload (n := 27) dX6_value_25 rfl rfl ?_
          refine j_if_ltM (n := 30) (tg := 93) dX6_value_27 rfl rfl (by omega) (fun h106 => ?_) (fun h106 => ?_)
          · exfalso; omega
          · refine j_iinc (n := 33) (y := nI (dep c (104 + 200 * t) k)) (lv2 := [some (.ref a), some (.int x), some (.int y), some (.int z), some (.int (nI (dep c (104 + 200 * t) k))), some (.int (nI k)), some (.int (nI (10000 + nmI (c (100 + 200 * t)) (c (104 + 200 * t + 2 * k + 1))))), none]) dX6_value_30 rfl rfl (by decide) rfl (tp_s _) rfl ?_
            refine j_iload (n := 35) dX6_value_33 rfl rfl ?_
            refine j_aload_n (n := 36) dX6_value_35 rfl rfl ?_
            refine j_getr (n := 39) (k := 4) (b := a + 2) dX6_value_36 rfl fX6_23 ht.2.1 (by omega) (by omega) ht.2.2.2.1 ?_
            refine j_alen (n := 40) (t := 0) (L := c (101 + 200 * t)) dX6_value_39 rfl ht.2.2.2.2.2.1.1 (by decide) ht.2.2.2.2.2.1.2 (by omega) (by omega) ?_
            refine j_icmp_ltT (n := 43) (tg := 45) dX6_value_40 rfl rfl (i_N (by omega)) (i_N (by omega)) (fun h107 => ?_) (fun h107 => ?_)
            · refine j_iload (n := 47) dX6_value_45 rfl rfl ?_
              refine j_sipush (n := 50) (v := nI 10000) dX6_value_47 rfl (by decide) ?_
              refine j_isubN (n := 51) (c := nmI (c (100 + 200 * t)) (c (104 + 200 * t + 2 * k + 1))) dX6_value_50 rfl (by omega) (by omega) ?_
              refine j_istore (n := 53) (lv2 := [some (.ref a), some (.int x), some (.int y), some (.int z), some (.int (nI (dep c (104 + 200 * t) k))), some (.int (nI k)), some (.int (nI (10000 + nmI (c (100 + 200 * t)) (c (104 + 200 * t + 2 * k + 1))))), some (.int (nI (nmI (c (100 + 200 * t)) (c (104 + 200 * t + 2 * k + 1)))))]) dX6_value_51 rfl rfl (by decide) rfl ?_
              refine j_aload_n (n := 54) dX6_value_53 rfl rfl ?_
              refine j_getr (n := 57) (k := 4) (b := a + 2) dX6_value_54 rfl fX6_23 ht.2.1 (by omega) (by omega) ht.2.2.2.1 ?_
              refine j_iload (n := 59) dX6_value_57 rfl rfl ?_
              refine j_iload (n := 61) dX6_value_59 rfl rfl ?_
              refine j_if_geM (n := 64) (tg := 69) dX6_value_61 rfl rfl (by omega) (fun h108 => ?_) (fun h108 => ?_)
              · refine j_iload (n := 71) dX6_value_69 rfl rfl ?_
                refine j_if_neN (n := 74) (tg := 78) dX6_value_71 rfl rfl (by omega) (fun h109 => ?_) (fun h109 => ?_)
                · refine j_iload (n := 80) dX6_value_78 rfl rfl ?_
                  refine j_iconst (n := 81) (v := nI 1) dX6_value_80 rfl rfl ?_
                  refine j_icmp_neT (n := 84) (tg := 88) dX6_value_81 rfl rfl (i_N (by omega)) (i_N (by omega)) (fun h110 => ?_) (fun h110 => ?_)
                  · refine j_iload_n (n := 89) dX6_value_88 rfl rfl ?_
                    refine j_top (y := (if c (104 + 200 * t + 2 * k) = 0 then nI (c (104 + 200 * t + 2 * k + 1)) else (fun v => nmV (c (100 + 200 * t)) v x y z) (c (104 + 200 * t + 2 * k + 1)))) (by first | (exfalso; omega) | (rw [if_pos w0]; done) | (rw [if_neg (by omega)]; show _ = nmV _ _ _ _ _; rw [hnk]; (repeat (first | rw [if_pos (by omega)] | rw [if_neg (by omega)])))) ?_
                    refine j_iastN (n := 90) (L := c (101 + 200 * t)) (a := a + 2) (i := dep c (104 + 200 * t) k) (x := (if c (104 + 200 * t + 2 * k) = 0 then nI (c (104 + 200 * t + 2 * k + 1)) else (fun v => nmV (c (100 + 200 * t)) v x y z) (c (104 + 200 * t + 2 * k + 1)))) (M2 := zs M1 (a + 2) (upd (M1 (a + 2)) (dep c (104 + 200 * t) k) (if c (104 + 200 * t + 2 * k) = 0 then nI (c (104 + 200 * t + 2 * k + 1)) else (fun v => nmV (c (100 + 200 * t)) v x y z) (c (104 + 200 * t + 2 * k + 1))))) dX6_value_89 rfl ht.2.2.2.2.2.1.1 ht.2.2.2.2.2.1.2 (by omega) (by omega) (by omega) (by omega) rfl ?_
                    refine j_goto (n := 168) dX6_value_90 rfl ?_
                    refine j_iinc (n := 171) (y := nI (k + 1)) (lv2 := [some (.ref a), some (.int x), some (.int y), some (.int z), some (.int (nI (dep c (104 + 200 * t) k))), some (.int (nI (k + 1))), some (.int (nI (10000 + nmI (c (100 + 200 * t)) (c (104 + 200 * t + 2 * k + 1))))), some (.int (nI (nmI (c (100 + 200 * t)) (c (104 + 200 * t + 2 * k + 1)))))]) dX6_value_168 rfl rfl (by decide) rfl (show nI k + nI 1 = nI (k + 1) by rw [nI_add]) rfl ?_
                    refine j_goto (n := 6) dX6_value_171 rfl ?_
                    refine j_lv (lv2 := [some (.ref a), some (.int x), some (.int y), some (.int z), some (.int (tp (dep c (104 + 200 * t) (k + 1)))), some (.int (nI (k + 1))), some (.int (nI (10000 + nmI (c (100 + 200 * t)) (c (104 + 200 * t + 2 * k + 1))))), some (.int (nI (nmI (c (100 + 200 * t)) (c (104 + 200 * t + 2 * k + 1)))))]) (by rw [e1, tp_p (by omega)]; rfl) ?_
                    refine j_wk (lv2 := [some (.ref a), some (.int x), some (.int y), some (.int z), some (.int (tp (dep c (104 + 200 * t) (k + 1)))), some (.int (nI (k + 1))), none, none]) ⟨rfl, rfl, rfl, rfl, rfl, rfl, trivial⟩ ?_
                    exact ih _ (by omega) (k + 1) _ rfl (by omega) (hsc.tr (scT.s _ _ ⟨by omega, by omega⟩)) (fun i hi => by rw [zs_eq, evS_v (by omega)]; exact st_push hst i (by omega))
                  · refine j_iload_n (n := 85) dX6_value_84 rfl rfl ?_
                    refine j_goto (n := 89) dX6_value_85 rfl ?_
                    refine j_top (y := (if c (104 + 200 * t + 2 * k) = 0 then nI (c (104 + 200 * t + 2 * k + 1)) else (fun v => nmV (c (100 + 200 * t)) v x y z) (c (104 + 200 * t + 2 * k + 1)))) (by first | (exfalso; omega) | (rw [if_pos w0]; done) | (rw [if_neg (by omega)]; show _ = nmV _ _ _ _ _; rw [hnk]; (repeat (first | rw [if_pos (by omega)] | rw [if_neg (by omega)])))) ?_
                    refine j_iastN (n := 90) (L := c (101 + 200 * t)) (a := a + 2) (i := dep c (104 + 200 * t) k) (x := (if c (104 + 200 * t + 2 * k) = 0 then nI (c (104 + 200 * t + 2 * k + 1)) else (fun v => nmV (c (100 + 200 * t)) v x y z) (c (104 + 200 * t + 2 * k + 1)))) (M2 := zs M1 (a + 2) (upd (M1 (a + 2)) (dep c (104 + 200 * t) k) (if c (104 + 200 * t + 2 * k) = 0 then nI (c (104 + 200 * t + 2 * k + 1)) else (fun v => nmV (c (100 + 200 * t)) v x y z) (c (104 + 200 * t + 2 * k + 1))))) dX6_value_89 rfl ht.2.2.2.2.2.1.1 ht.2.2.2.2.2.1.2 (by omega) (by omega) (by omega) (by omega) rfl ?_
                    refine j_goto (n := 168) dX6_value_90 rfl ?_
                    refine j_iinc (n := 171) (y := nI (k + 1)) (lv2 := [some (.ref a), some (.int x), some (.int y), some (.int z), some (.int (nI (dep c (104 + 200 * t) k))), some (.int (nI (k + 1))), some (.int (nI (10000 + nmI (c (100 + 200 * t)) (c (104 + 200 * t + 2 * k + 1))))), some (.int (nI (nmI (c (100 + 200 * t)) (c (104 + 200 * t + 2 * k + 1)))))]) dX6_value_168 rfl rfl (by decide) rfl (show nI k + nI 1 = nI (k + 1) by rw [nI_add]) rfl ?_
                    refine j_goto (n := 6) dX6_value_171 rfl ?_
                    refine j_lv (lv2 := [some (.ref a), some (.int x), some (.int y), some (.int z), some (.int (tp (dep c (104 + 200 * t) (k + 1)))), some (.int (nI (k + 1))), some (.int (nI (10000 + nmI (c (100 + 200 * t)) (c (104 + 200 * t + 2 * k + 1))))), some (.int (nI (nmI (c (100 + 200 * t)) (c (104 + 200 * t + 2 * k + 1)))))]) (by rw [e1, tp_p (by omega)]; rfl) ?_
                    refine j_wk (lv2 := [some (.ref a), some (.int x), some (.int y), some (.int z), some (.int (tp (dep c (104 + 200 * t) (k + 1)))), some (.int (nI (k + 1))), none, none]) ⟨rfl, rfl, rfl, rfl, rfl, rfl, trivial⟩ ?_
                    exact ih _ (by omega) (k + 1) _ rfl (by omega) (hsc.tr (scT.s _ _ ⟨by omega, by omega⟩)) (fun i hi => by rw [zs_eq, evS_v (by omega)]; exact st_push hst i (by omega))
                · refine j_iload_n (n := 75) dX6_value_74 rfl rfl ?_
                  refine j_goto (n := 89) dX6_value_75 rfl ?_
                  refine j_top (y := (if c (104 + 200 * t + 2 * k) = 0 then nI (c (104 + 200 * t + 2 * k + 1)) else (fun v => nmV (c (100 + 200 * t)) v x y z) (c (104 + 200 * t + 2 * k + 1)))) (by first | (exfalso; omega) | (rw [if_pos w0]; done) | (rw [if_neg (by omega)]; show _ = nmV _ _ _ _ _; rw [hnk]; (repeat (first | rw [if_pos (by omega)] | rw [if_neg (by omega)])))) ?_
                  refine j_iastN (n := 90) (L := c (101 + 200 * t)) (a := a + 2) (i := dep c (104 + 200 * t) k) (x := (if c (104 + 200 * t + 2 * k) = 0 then nI (c (104 + 200 * t + 2 * k + 1)) else (fun v => nmV (c (100 + 200 * t)) v x y z) (c (104 + 200 * t + 2 * k + 1)))) (M2 := zs M1 (a + 2) (upd (M1 (a + 2)) (dep c (104 + 200 * t) k) (if c (104 + 200 * t + 2 * k) = 0 then nI (c (104 + 200 * t + 2 * k + 1)) else (fun v => nmV (c (100 + 200 * t)) v x y z) (c (104 + 200 * t + 2 * k + 1))))) dX6_value_89 rfl ht.2.2.2.2.2.1.1 ht.2.2.2.2.2.1.2 (by omega) (by omega) (by omega) (by omega) rfl ?_
                  refine j_goto (n := 168) dX6_value_90 rfl ?_
                  refine j_iinc (n := 171) (y := nI (k + 1)) (lv2 := [some (.ref a), some (.int x), some (.int y), some (.int z), some (.int (nI (dep c (104 + 200 * t) k))), some (.int (nI (k + 1))), some (.int (nI (10000 + nmI (c (100 + 200 * t)) (c (104 + 200 * t + 2 * k + 1))))), some (.int (nI (nmI (c (100 + 200 * t)) (c (104 + 200 * t + 2 * k + 1)))))]) dX6_value_168 rfl rfl (by decide) rfl (show nI k + nI 1 = nI (k + 1) by rw [nI_add]) rfl ?_
                  refine j_goto (n := 6) dX6_value_171 rfl ?_
                  refine j_lv (lv2 := [some (.ref a), some (.int x), some (.int y), some (.int z), some (.int (tp (dep c (104 + 200 * t) (k + 1)))), some (.int (nI (k + 1))), some (.int (nI (10000 + nmI (c (100 + 200 * t)) (c (104 + 200 * t + 2 * k + 1))))), some (.int (nI (nmI (c (100 + 200 * t)) (c (104 + 200 * t + 2 * k + 1)))))]) (by rw [e1, tp_p (by omega)]; rfl) ?_
                  refine j_wk (lv2 := [some (.ref a), some (.int x), some (.int y), some (.int z), some (.int (tp (dep c (104 + 200 * t) (k + 1)))), some (.int (nI (k + 1))), none, none]) ⟨rfl, rfl, rfl, rfl, rfl, rfl, trivial⟩ ?_
                  exact ih _ (by omega) (k + 1) _ rfl (by omega) (hsc.tr (scT.s _ _ ⟨by omega, by omega⟩)) (fun i hi => by rw [zs_eq, evS_v (by omega)]; exact st_push hst i (by omega))
              · exfalso; omega
            · exfalso; omega
        · have hdp := x6.2.2.2.1 w2 h33
          have e1 : dep c (104 + 200 * t) (k + 1) = dep c (104 + 200 * t) k := by rw [dep, if_neg (by omega), if_pos h33]
          refine j_lv (lv2 := [some (.ref a), some (.int x), some (.int y), some (.int z), some (.int (nI (dep c (104 + 200 * t) k - 1))), some (.int (nI k)), none, none]) (by rw [tp_p (by omega)]) ?_
          refine j_top (y := (-33)) (by unfold encS; rw [if_neg (by omega), if_neg (by omega), h33]; decide) ?_
          refine j_istore (n := 25) (lv2 := [some (.ref a), some (.int x), some (.int y), some (.int z), some (.int (nI (dep c (104 + 200 * t) k - 1))), some (.int (nI k)), some (.int (-33)), none]) dX6_value_23 rfl rfl (by decide) rfl ?_
          refine j_iload (n := 27) dX6_value_25 rfl rfl ?_
          refine j_if_ltT (n := 30) (tg := 93) dX6_value_27 rfl rfl (fun h111 => ?_) (fun h111 => ?_)
          · refine j_iload (n := 95) dX6_value_93 rfl rfl ?_
            refine j_bipush (n := 97) (v := (-33)) dX6_value_95 rfl (by decide) ?_
            refine j_icmp_neT (n := 100) (tg := 130) dX6_value_97 rfl rfl (show Int32.toInt (-33) = (-33 : Int) from by decide) (show Int32.toInt (-33) = (-33 : Int) from by decide) (fun h112 => ?_) (fun h112 => ?_)
            · exact absurd rfl (by assumption)
            · refine j_iload (n := 102) dX6_value_100 rfl rfl ?_
              refine j_if_ltM (n := 105) (tg := 130) dX6_value_102 rfl rfl (by omega) (fun h113 => ?_) (fun h113 => ?_)
              · exfalso; omega
              · refine j_aload_n (n := 106) dX6_value_105 rfl rfl ?_
                refine j_getr (n := 109) (k := 4) (b := a + 2) dX6_value_106 rfl fX6_23 ht.2.1 (by omega) (by omega) ht.2.2.2.1 ?_
                refine j_iload (n := 111) dX6_value_109 rfl rfl ?_
                refine j_aload_n (n := 112) dX6_value_111 rfl rfl ?_
                refine j_getr (n := 115) (k := 4) (b := a + 2) dX6_value_112 rfl fX6_23 ht.2.1 (by omega) (by omega) ht.2.2.2.1 ?_
                refine j_iload (n := 117) dX6_value_115 rfl rfl ?_
                refine j_ialdN (n := 118) (L := c (101 + 200 * t)) (a := a + 2) (i := dep c (104 + 200 * t) k - 1) (v := evS c (104 + 200 * t) (fun v => nmV (c (100 + 200 * t)) v x y z) k (dep c (104 + 200 * t) k - 1)) dX6_value_117 rfl ht.2.2.2.2.2.1.1 ht.2.2.2.2.2.1.2 (by omega) (by omega) (by omega) (by omega) (hst _ (by omega)) ?_
                refine j_if_neT (n := 121) (tg := 125) dX6_value_118 rfl rfl (fun h114 => ?_) (fun h114 => ?_)
                · refine j_iconst (n := 126) (v := nI 0) dX6_value_125 rfl rfl ?_
                  refine j_top (y := zB ((evS c (104 + 200 * t) (fun v => nmV (c (100 + 200 * t)) v x y z) k (dep c (104 + 200 * t) k - 1)).toInt = 0)) (by first | exact (zB_t (by omega)).symm | exact (zB_f (by omega)).symm) ?_
                  refine j_iastN (n := 127) (L := c (101 + 200 * t)) (a := a + 2) (i := dep c (104 + 200 * t) k - 1) (x := zB ((evS c (104 + 200 * t) (fun v => nmV (c (100 + 200 * t)) v x y z) k (dep c (104 + 200 * t) k - 1)).toInt = 0)) (M2 := zs M1 (a + 2) (upd (M1 (a + 2)) (dep c (104 + 200 * t) k - 1) (zB ((evS c (104 + 200 * t) (fun v => nmV (c (100 + 200 * t)) v x y z) k (dep c (104 + 200 * t) k - 1)).toInt = 0)))) dX6_value_126 rfl ht.2.2.2.2.2.1.1 ht.2.2.2.2.2.1.2 (by omega) (by omega) (by omega) (by omega) rfl ?_
                  refine j_goto (n := 168) dX6_value_127 rfl ?_
                  refine j_iinc (n := 171) (y := nI (k + 1)) (lv2 := [some (.ref a), some (.int x), some (.int y), some (.int z), some (.int (nI (dep c (104 + 200 * t) k - 1))), some (.int (nI (k + 1))), some (.int (-33)), none]) dX6_value_168 rfl rfl (by decide) rfl (show nI k + nI 1 = nI (k + 1) by rw [nI_add]) rfl ?_
                  refine j_goto (n := 6) dX6_value_171 rfl ?_
                  refine j_lv (lv2 := [some (.ref a), some (.int x), some (.int y), some (.int z), some (.int (tp (dep c (104 + 200 * t) (k + 1)))), some (.int (nI (k + 1))), some (.int (-33)), none]) (by rw [e1, tp_p (by omega)]) ?_
                  refine j_wk (lv2 := [some (.ref a), some (.int x), some (.int y), some (.int z), some (.int (tp (dep c (104 + 200 * t) (k + 1)))), some (.int (nI (k + 1))), none, none]) ⟨rfl, rfl, rfl, rfl, rfl, rfl, trivial⟩ ?_
                  exact ih _ (by omega) (k + 1) _ rfl (by omega) (hsc.tr (scT.s _ _ ⟨by omega, by omega⟩)) (fun i hi => by rw [zs_eq, evS_n w2 h33]; exact st_top hst (Nat.le_refl _) i (by omega))
                · refine j_iconst (n := 122) (v := nI 1) dX6_value_121 rfl rfl ?_
                  refine j_goto (n := 126) dX6_value_122 rfl ?_
                  refine j_top (y := zB ((evS c (104 + 200 * t) (fun v => nmV (c (100 + 200 * t)) v x y z) k (dep c (104 + 200 * t) k - 1)).toInt = 0)) (by first | exact (zB_t (by omega)).symm | exact (zB_f (by omega)).symm) ?_
                  refine j_iastN (n := 127) (L := c (101 + 200 * t)) (a := a + 2) (i := dep c (104 + 200 * t) k - 1) (x := zB ((evS c (104 + 200 * t) (fun v => nmV (c (100 + 200 * t)) v x y z) k (dep c (104 + 200 * t) k - 1)).toInt = 0)) (M2 := zs M1 (a + 2) (upd (M1 (a + 2)) (dep c (104 + 200 * t) k - 1) (zB ((evS c (104 + 200 * t) (fun v => nmV (c (100 + 200 * t)) v x y z) k (dep c (104 + 200 * t) k - 1)).toInt = 0)))) dX6_value_126 rfl ht.2.2.2.2.2.1.1 ht.2.2.2.2.2.1.2 (by omega) (by omega) (by omega) (by omega) rfl ?_
                  refine j_goto (n := 168) dX6_value_127 rfl ?_
                  refine j_iinc (n := 171) (y := nI (k + 1)) (lv2 := [some (.ref a), some (.int x), some (.int y), some (.int z), some (.int (nI (dep c (104 + 200 * t) k - 1))), some (.int (nI (k + 1))), some (.int (-33)), none]) dX6_value_168 rfl rfl (by decide) rfl (show nI k + nI 1 = nI (k + 1) by rw [nI_add]) rfl ?_
                  refine j_goto (n := 6) dX6_value_171 rfl ?_
                  refine j_lv (lv2 := [some (.ref a), some (.int x), some (.int y), some (.int z), some (.int (tp (dep c (104 + 200 * t) (k + 1)))), some (.int (nI (k + 1))), some (.int (-33)), none]) (by rw [e1, tp_p (by omega)]) ?_
                  refine j_wk (lv2 := [some (.ref a), some (.int x), some (.int y), some (.int z), some (.int (tp (dep c (104 + 200 * t) (k + 1)))), some (.int (nI (k + 1))), none, none]) ⟨rfl, rfl, rfl, rfl, rfl, rfl, trivial⟩ ?_
                  exact ih _ (by omega) (k + 1) _ rfl (by omega) (hsc.tr (scT.s _ _ ⟨by omega, by omega⟩)) (fun i hi => by rw [zs_eq, evS_n w2 h33]; exact st_top hst (Nat.le_refl _) i (by omega))
          · exfalso; first | omega | exact absurd (show ((-33 : Int32)).toInt < 0 from by decide) (by assumption)
        · have hdp := x6.2.2.2.2 w2 h33
          have hsg := hro.2 w2
          have e1 : dep c (104 + 200 * t) (k + 1) = dep c (104 + 200 * t) k - 1 := by rw [dep, if_neg (by omega), if_neg h33]
          have hneg := neg_toInt (v := c (104 + 200 * t + 2 * k + 1)) (by omega)
          have hv1 : 1 ≤ c (104 + 200 * t + 2 * k + 1) := by have := hsg; unfold isSg at this; omega
          refine j_lv (lv2 := [some (.ref a), some (.int x), some (.int y), some (.int z), some (.int (nI (dep c (104 + 200 * t) k - 1))), some (.int (nI k)), none, none]) (by rw [tp_p (by omega)]) ?_
          refine j_top (y := -(nI (c (104 + 200 * t + 2 * k + 1)))) (by unfold encS; rw [if_neg (by omega), if_neg (by omega)]) ?_
          refine j_istore (n := 25) (lv2 := [some (.ref a), some (.int x), some (.int y), some (.int z), some (.int (nI (dep c (104 + 200 * t) k - 1))), some (.int (nI k)), some (.int (-(nI (c (104 + 200 * t + 2 * k + 1))))), none]) dX6_value_23 rfl rfl (by decide) rfl ?_
          refine j_iload (n := 27) dX6_value_25 rfl rfl ?_
          refine j_if_ltT (n := 30) (tg := 93) dX6_value_27 rfl rfl (fun h115 => ?_) (fun h115 => ?_)
          · refine j_iload (n := 95) dX6_value_93 rfl rfl ?_
            refine j_bipush (n := 97) (v := (-33)) dX6_value_95 rfl (by decide) ?_
            refine j_icmp_neT (n := 100) (tg := 130) dX6_value_97 rfl rfl rfl (show Int32.toInt (-33) = (-33 : Int) from by decide) (fun h116 => ?_) (fun h116 => ?_)
            · refine j_iload (n := 132) dX6_value_130 rfl rfl ?_
              refine j_iconst (n := 133) (v := nI 1) dX6_value_132 rfl rfl ?_
              refine j_icmp_ltT (n := 136) (tg := 168) dX6_value_133 rfl rfl (i_N (by omega)) (i_N (by omega)) (fun h117 => ?_) (fun h117 => ?_)
              · exfalso; omega
              · refine j_iinc (n := 139) (y := nI (dep c (104 + 200 * t) k - 2)) (lv2 := [some (.ref a), some (.int x), some (.int y), some (.int z), some (.int (nI (dep c (104 + 200 * t) k - 2))), some (.int (nI k)), some (.int (-(nI (c (104 + 200 * t + 2 * k + 1))))), none]) dX6_value_136 rfl rfl (by decide) rfl (nI_dec1 (by omega)) rfl ?_
                refine j_aload_n (n := 140) dX6_value_139 rfl rfl ?_
                refine j_getr (n := 143) (k := 4) (b := a + 2) dX6_value_140 rfl fX6_23 ht.2.1 (by omega) (by omega) ht.2.2.2.1 ?_
                refine j_iload (n := 145) dX6_value_143 rfl rfl ?_
                refine j_iload (n := 147) dX6_value_145 rfl rfl ?_
                refine j_ineg (n := 148) dX6_value_147 rfl ?_
                refine j_top (y := nI (c (104 + 200 * t + 2 * k + 1))) (neg_neg _) ?_
                refine j_aload_n (n := 149) dX6_value_148 rfl rfl ?_
                refine j_getr (n := 152) (k := 4) (b := a + 2) dX6_value_149 rfl fX6_23 ht.2.1 (by omega) (by omega) ht.2.2.2.1 ?_
                refine j_iload (n := 154) dX6_value_152 rfl rfl ?_
                refine j_ialdN (n := 155) (L := c (101 + 200 * t)) (a := a + 2) (i := dep c (104 + 200 * t) k - 2) (v := evS c (104 + 200 * t) (fun v => nmV (c (100 + 200 * t)) v x y z) k (dep c (104 + 200 * t) k - 2)) dX6_value_154 rfl ht.2.2.2.2.2.1.1 ht.2.2.2.2.2.1.2 (by omega) (by omega) (by omega) (by omega) (hst _ (by omega)) ?_
                refine j_aload_n (n := 156) dX6_value_155 rfl rfl ?_
                refine j_getr (n := 159) (k := 4) (b := a + 2) dX6_value_156 rfl fX6_23 ht.2.1 (by omega) (by omega) ht.2.2.2.1 ?_
                refine j_iload (n := 161) dX6_value_159 rfl rfl ?_
                refine j_iconst (n := 162) (v := nI 1) dX6_value_161 rfl rfl ?_
                refine j_iaddN (n := 163) (c := dep c (104 + 200 * t) k - 2 + 1) dX6_value_162 rfl rfl ?_
                refine j_ialdN (n := 164) (L := c (101 + 200 * t)) (a := a + 2) (i := dep c (104 + 200 * t) k - 2 + 1) (v := evS c (104 + 200 * t) (fun v => nmV (c (100 + 200 * t)) v x y z) k (dep c (104 + 200 * t) k - 1)) dX6_value_163 rfl ht.2.2.2.2.2.1.1 ht.2.2.2.2.2.1.2 (by omega) (by omega) (by omega) (by omega) (by rw [show dep c (104 + 200 * t) k - 2 + 1 = dep c (104 + 200 * t) k - 1 by omega]; exact hst _ (by omega)) ?_
                refine j_cS (n := 167) dX6_value_164 rfl sX6_26 (c_join d G _ _ (c (104 + 200 * t + 2 * k + 1)) hsg h33 _ _) (by omega) (by decide) rfl rfl (Nat.le_of_ble_eq_true rfl) (by decide) (by decide) ?_
                refine j_iastN (n := 168) (L := c (101 + 200 * t)) (a := a + 2) (i := dep c (104 + 200 * t) k - 2) (x := joinV (c (104 + 200 * t + 2 * k + 1)) (evS c (104 + 200 * t) (fun v => nmV (c (100 + 200 * t)) v x y z) k (dep c (104 + 200 * t) k - 2)) (evS c (104 + 200 * t) (fun v => nmV (c (100 + 200 * t)) v x y z) k (dep c (104 + 200 * t) k - 1))) (M2 := zs M1 (a + 2) (upd (M1 (a + 2)) (dep c (104 + 200 * t) k - 2) (joinV (c (104 + 200 * t + 2 * k + 1)) (evS c (104 + 200 * t) (fun v => nmV (c (100 + 200 * t)) v x y z) k (dep c (104 + 200 * t) k - 2)) (evS c (104 + 200 * t) (fun v => nmV (c (100 + 200 * t)) v x y z) k (dep c (104 + 200 * t) k - 1))))) dX6_value_167 rfl ht.2.2.2.2.2.1.1 ht.2.2.2.2.2.1.2 (by omega) (by omega) (by omega) (by omega) rfl ?_
                refine j_iinc (n := 171) (y := nI (k + 1)) (lv2 := [some (.ref a), some (.int x), some (.int y), some (.int z), some (.int (nI (dep c (104 + 200 * t) k - 2))), some (.int (nI (k + 1))), some (.int (-(nI (c (104 + 200 * t + 2 * k + 1))))), none]) dX6_value_168 rfl rfl (by decide) rfl (show nI k + nI 1 = nI (k + 1) by rw [nI_add]) rfl ?_
                refine j_goto (n := 6) dX6_value_171 rfl ?_
                refine j_lv (lv2 := [some (.ref a), some (.int x), some (.int y), some (.int z), some (.int (tp (dep c (104 + 200 * t) (k + 1)))), some (.int (nI (k + 1))), some (.int (-(nI (c (104 + 200 * t + 2 * k + 1))))), none]) (by rw [e1, tp_p (by omega)]; rw [show dep c (104 + 200 * t) k - 1 - 1 = dep c (104 + 200 * t) k - 2 by omega]) ?_
                refine j_wk (lv2 := [some (.ref a), some (.int x), some (.int y), some (.int z), some (.int (tp (dep c (104 + 200 * t) (k + 1)))), some (.int (nI (k + 1))), none, none]) ⟨rfl, rfl, rfl, rfl, rfl, rfl, trivial⟩ ?_
                exact ih _ (by omega) (k + 1) _ rfl (by omega) (hsc.tr (scT.s _ _ ⟨by omega, by omega⟩)) (fun i hi => by rw [zs_eq, evS_j w2 h33]; exact st_top hst (Nat.sub_le _ 1) i (by omega))
            · exfalso; omega
          · exfalso; first | omega | exact absurd (show ((-33 : Int32)).toInt < 0 from by decide) (by assumption)
  refine j_lv (lv2 := [some (.ref a), some (.int x), some (.int y), some (.int z), some (.int (tp (dep c (104 + 200 * t) 0))), some (.int (nI 0)), none, none]) (by rw [show dep c (104 + 200 * t) 0 = 0 from rfl, tp_0]) ?_
  exact loop _ 0 M rfl (Nat.zero_le _) (scT.rf M) (fun i hi => absurd hi (Nat.not_lt_zero _))
