-- CLASS P: by program (wip/whole/gen/c16.py)
theorem k_sortAt (d : Nat) (G : zG) (M : zMem) (X : zX) (hr : kR X) (hb : xR X 118 0 = some 122) (T : Nat → Nat) (hT : tpC M T) (hT2 : ∀ i, T i ≤ 255) (q : Nat → Nat) (R : Nat → Int32) (o : Nat → Nat) (hL : q 1 ≤ 96) (i : Nat) (hi : i ≤ 96) : zCall G miX2_sortAt (d + 0) [.ref 118, .int (nI i)] (zI (nI (sA T (q 1) i)) (pq M q R o) X) (pq M q R o) X 0 0 := by
  refine zCall.of (lv := [some (.ref 118), some (.int (nI i)), none]) (by decide) (Nat.le_of_ble_eq_true rfl) rfl ?_
  refine j_iload_n (n := 1) dX2_sortAt_0 rfl rfl ?_
  refine j_aload_n (n := 2) dX2_sortAt_1 rfl rfl ?_
  refine jc_get (n := 5) (k := 1) (v := nI (q 1)) dX2_sortAt_2 rfl fX2_57 (hr.a (a := 118) rfl (by decide) rfl).1 (by decide) (hr.hi (by decide)) (pq_q _ _ _ _ _) ?_
  refine j_icmp_ltT (n := 8) (tg := 10) dX2_sortAt_5 rfl rfl (i_N (by omega)) (i_N (by omega)) (fun h101 => ?_) (fun h101 => ?_)
  · have hsb := sb_int (hT2 i)
    refine j_aload_n (n := 11) dX2_sortAt_10 rfl rfl ?_
    refine j_getr (n := 14) (k := 0) (b := 122) dX2_sortAt_11 rfl fX2_9 (hr.a (a := 118) rfl (by decide) rfl).1 (by decide) (hr.hi (by decide)) hb ?_
    refine j_iload_n (n := 15) dX2_sortAt_14 rfl rfl ?_
    refine j_baldN (n := 16) (L := 96) (a := 122) (i := i) (v := sb (T i)) dX2_sortAt_15 rfl (hr.a (a := 122) rfl (by decide) rfl).1 (hr.a (a := 122) rfl (by decide) rfl).2 (by omega) (by decide) (by decide) (hr.hi (by decide)) ((congrFun (pq_n _ _ _ _ (by decide) (by decide) (by decide)) _).trans (hT _ (by omega))) ?_
    refine j_istore_n (n := 17) (lv2 := [some (.ref 118), some (.int (nI i)), some (.int (sb (T i)))]) dX2_sortAt_16 rfl rfl (by decide) rfl ?_
    refine j_iload_n (n := 18) dX2_sortAt_17 rfl rfl ?_
    refine j_bipush (n := 20) (v := nI 97) dX2_sortAt_18 rfl (by decide) ?_
    refine j_icmp_ltT (n := 23) (tg := 31) dX2_sortAt_20 rfl rfl rfl (i_N (by omega)) (fun h102 => ?_) (fun h102 => ?_)
    · refine j_iload_n (n := 32) dX2_sortAt_31 rfl rfl ?_
      refine j_bipush (n := 34) (v := nI 48) dX2_sortAt_32 rfl (by decide) ?_
      refine j_icmp_ltT (n := 37) (tg := 47) dX2_sortAt_34 rfl rfl rfl (i_N (by omega)) (fun h103 => ?_) (fun h103 => ?_)
      · refine j_iconst (n := 48) (v := nI 3) dX2_sortAt_47 rfl rfl ?_
        exact j_ri dX2_sortAt_48 rfl (Nat.le_refl _) (Nat.le_refl _) (congrArg nI (by first | (exfalso; omega) | (unfold sA; repeat (first | rw [if_pos (by omega)] | rw [if_neg (by omega)])))) rfl rfl
      · refine j_iload_n (n := 38) dX2_sortAt_37 rfl rfl ?_
        refine j_bipush (n := 40) (v := nI 57) dX2_sortAt_38 rfl (by decide) ?_
        refine j_icmp_gtT (n := 43) (tg := 47) dX2_sortAt_40 rfl rfl rfl (i_N (by omega)) (fun h104 => ?_) (fun h104 => ?_)
        · refine j_iconst (n := 48) (v := nI 3) dX2_sortAt_47 rfl rfl ?_
          exact j_ri dX2_sortAt_48 rfl (Nat.le_refl _) (Nat.le_refl _) (congrArg nI (by first | (exfalso; omega) | (unfold sA; repeat (first | rw [if_pos (by omega)] | rw [if_neg (by omega)])))) rfl rfl
        · refine j_iconst (n := 44) (v := nI 2) dX2_sortAt_43 rfl rfl ?_
          refine j_goto (n := 48) dX2_sortAt_44 rfl ?_
          exact j_ri dX2_sortAt_48 rfl (Nat.le_refl _) (Nat.le_refl _) (congrArg nI (by first | (exfalso; omega) | (unfold sA; repeat (first | rw [if_pos (by omega)] | rw [if_neg (by omega)])))) rfl rfl
    · refine j_iload_n (n := 24) dX2_sortAt_23 rfl rfl ?_
      refine j_bipush (n := 26) (v := nI 122) dX2_sortAt_24 rfl (by decide) ?_
      refine j_icmp_gtT (n := 29) (tg := 31) dX2_sortAt_26 rfl rfl rfl (i_N (by omega)) (fun h105 => ?_) (fun h105 => ?_)
      · refine j_iload_n (n := 32) dX2_sortAt_31 rfl rfl ?_
        refine j_bipush (n := 34) (v := nI 48) dX2_sortAt_32 rfl (by decide) ?_
        refine j_icmp_ltT (n := 37) (tg := 47) dX2_sortAt_34 rfl rfl rfl (i_N (by omega)) (fun h106 => ?_) (fun h106 => ?_)
        · refine j_iconst (n := 48) (v := nI 3) dX2_sortAt_47 rfl rfl ?_
          exact j_ri dX2_sortAt_48 rfl (Nat.le_refl _) (Nat.le_refl _) (congrArg nI (by first | (exfalso; omega) | (unfold sA; repeat (first | rw [if_pos (by omega)] | rw [if_neg (by omega)])))) rfl rfl
        · refine j_iload_n (n := 38) dX2_sortAt_37 rfl rfl ?_
          refine j_bipush (n := 40) (v := nI 57) dX2_sortAt_38 rfl (by decide) ?_
          refine j_icmp_gtT (n := 43) (tg := 47) dX2_sortAt_40 rfl rfl rfl (i_N (by omega)) (fun h107 => ?_) (fun h107 => ?_)
          · refine j_iconst (n := 48) (v := nI 3) dX2_sortAt_47 rfl rfl ?_
            exact j_ri dX2_sortAt_48 rfl (Nat.le_refl _) (Nat.le_refl _) (congrArg nI (by first | (exfalso; omega) | (unfold sA; repeat (first | rw [if_pos (by omega)] | rw [if_neg (by omega)])))) rfl rfl
          · refine j_iconst (n := 44) (v := nI 2) dX2_sortAt_43 rfl rfl ?_
            refine j_goto (n := 48) dX2_sortAt_44 rfl ?_
            exact j_ri dX2_sortAt_48 rfl (Nat.le_refl _) (Nat.le_refl _) (congrArg nI (by first | (exfalso; omega) | (unfold sA; repeat (first | rw [if_pos (by omega)] | rw [if_neg (by omega)])))) rfl rfl
      · refine j_iconst (n := 30) (v := nI 1) dX2_sortAt_29 rfl rfl ?_
        exact j_ri dX2_sortAt_30 rfl (Nat.le_refl _) (Nat.le_refl _) (congrArg nI (by first | (exfalso; omega) | (unfold sA; repeat (first | rw [if_pos (by omega)] | rw [if_neg (by omega)])))) rfl rfl
  · refine j_iconst (n := 9) (v := nI 0) dX2_sortAt_8 rfl rfl ?_
    exact j_ri dX2_sortAt_9 rfl (Nat.le_refl _) (Nat.le_refl _) (congrArg nI (by first | (exfalso; omega) | (unfold sA; repeat (first | rw [if_pos (by omega)] | rw [if_neg (by omega)])))) rfl rfl
theorem k_next (d : Nat) (G : zG) (M : zMem) (X : zX) (hr : kR X) (hb : xR X 118 0 = some 122) (T : Nat → Nat) (hT : tpC M T) (hT2 : ∀ i, T i ≤ 255) (q : Nat → Nat) (R : Nat → Int32) (o : Nat → Nat) (hL : q 1 ≤ 96) (h3 : q 3 ≤ q 1) (h4 : q 4 ≤ 3) : zCall G miX2_next (d + 1) [.ref 118] (zV (pq M (nextQ T q) R o) X) (pq M q R o) X 0 0 := by
  refine zCall.of (lv := [some (.ref 118), none, none]) (by decide) (Nat.le_of_ble_eq_true rfl) rfl ?_
  obtain ⟨b, hbE⟩ : ∃ b, b = skipT T (q 1) (q 3) := ⟨_, rfl⟩
  have hb1 : q 3 ≤ b := by rw [hbE]; exact fi_ge _ _ _
  have hb2 : b ≤ q 1 := by have := fi_le (fun i => ¬ T i = 32) (q 1 - q 3) (q 3); rw [hbE]; unfold skipT; omega
  have hs3 := sA_le T (q 1) b
  obtain ⟨bl, hbl⟩ : ∃ bl, bl = (if q 3 < b then 1 else 0) := ⟨_, rfl⟩
  have hbl1 : bl ≤ 1 := by rw [hbl]; split <;> omega
  have hbw1 : bwQ q ≤ 1 := by unfold bwQ; split <;> omega
  have e154 : ∀ (j x : Nat), q 1 - x = j → b ≤ x → x ≤ 97 → (sA T (q 1) b = 0 → x = b ∧ b = q 1) → (sA T (q 1) b = 3 → x = b + 1) → (¬ sA T (q 1) b = 0 → ¬ sA T (q 1) b = 3 → b + 1 ≤ x ∧ x ≤ q 1 ∧ fi (fun i => ¬ sA T (q 1) i = sA T (q 1) b) (q 1 - (b + 1)) (b + 1) = fi (fun i => ¬ sA T (q 1) i = sA T (q 1) b) (q 1 - x) x) → zAt G miX2_next (zRm (d + 1) 0 0) (zQ G (zV (pq M (nextQ T q) R o) X) 0 0) 154 [some (.ref 118), some (.int (nI (bwQ q))), some (.int (nI bl))] [] (pq M (pu (pu (pu (pu q 2 b) 4 (sA T (q 1) b)) 5 (nbQ (bwQ q) bl (sA T (q 1) b))) 3 x) R o) X (0, 0) := by
    intro j
    induction j using Nat.strongRecOn with
    | ind j ih =>
      intro x hj hbx hx97 hc0 hc3 hcF
      have hsx := sA_le T (q 1) x
      refine j_aload_n (n := 155) dX2_next_154 rfl rfl ?_
      refine jc_get (n := 158) (k := 4) (v := nI (sA T (q 1) b)) dX2_next_155 rfl fX2_40 (hr.a (a := 118) rfl (by decide) rfl).1 (by decide) (hr.hi (by decide)) ((pq_q _ _ _ _ _).trans (congrArg nI (by repeat (first | rw [pu_eq] | rw [pu_ne _ _ (by decide)])))) ?_
      refine j_iconst (n := 159) (v := nI 3) dX2_next_158 rfl rfl ?_
      refine j_icmp_eqT (n := 162) (tg := 201) dX2_next_159 rfl rfl (i_N (by omega)) (i_N (by omega)) (fun h101 => ?_) (fun h101 => ?_)
      · exact j_rv dX2_next_201 rfl (Nat.le_refl _) (Nat.le_refl _) (by have eE : x = enQ T (q 1) b (sA T (q 1) b) := (by unfold enQ; by_cases z0 : sA T (q 1) b = 0; (rw [if_pos z0]; exact (hc0 z0).1); (rw [if_neg z0]; by_cases z3 : sA T (q 1) b = 3; (rw [if_pos z3]; exact hc3 z3); (rw [if_neg z3, (hcF z0 z3).2.2]; first | exact (fi_n (by omega)).symm | exact (fi_t (by omega) (by omega)).symm))); rw [eE, hbl, hbE]; rfl) rfl
      · refine j_aload_n (n := 163) dX2_next_162 rfl rfl ?_
        refine jc_get (n := 166) (k := 3) (v := nI x) dX2_next_163 rfl fX2_87 (hr.a (a := 118) rfl (by decide) rfl).1 (by decide) (hr.hi (by decide)) ((pq_q _ _ _ _ _).trans (congrArg nI (by repeat (first | rw [pu_eq] | rw [pu_ne _ _ (by decide)])))) ?_
        refine j_aload_n (n := 167) dX2_next_166 rfl rfl ?_
        refine jc_get (n := 170) (k := 1) (v := nI (q 1)) dX2_next_167 rfl fX2_57 (hr.a (a := 118) rfl (by decide) rfl).1 (by decide) (hr.hi (by decide)) ((pq_q _ _ _ _ _).trans (congrArg nI (by repeat rw [pu_ne _ _ (by decide)]))) ?_
        refine j_icmp_geT (n := 173) (tg := 201) dX2_next_170 rfl rfl (i_N (by omega)) (i_N (by omega)) (fun h102 => ?_) (fun h102 => ?_)
        · exact j_rv dX2_next_201 rfl (Nat.le_refl _) (Nat.le_refl _) (by have eE : x = enQ T (q 1) b (sA T (q 1) b) := (by unfold enQ; by_cases z0 : sA T (q 1) b = 0; (rw [if_pos z0]; exact (hc0 z0).1); (rw [if_neg z0]; by_cases z3 : sA T (q 1) b = 3; (rw [if_pos z3]; exact hc3 z3); (rw [if_neg z3, (hcF z0 z3).2.2]; first | exact (fi_n (by omega)).symm | exact (fi_t (by omega) (by omega)).symm))); rw [eE, hbl, hbE]; rfl) rfl
        · refine j_aload_n (n := 174) dX2_next_173 rfl rfl ?_
          refine j_aload_n (n := 175) dX2_next_174 rfl rfl ?_
          refine jc_get (n := 178) (k := 3) (v := nI x) dX2_next_175 rfl fX2_87 (hr.a (a := 118) rfl (by decide) rfl).1 (by decide) (hr.hi (by decide)) ((pq_q _ _ _ _ _).trans (congrArg nI (by repeat (first | rw [pu_eq] | rw [pu_ne _ _ (by decide)])))) ?_
          refine j_cV (n := 181) dX2_next_178 rfl sX2_96 (k_sortAt d G _ _ hr hb T hT hT2 _ _ _ (by repeat (first | exact hL | rw [pu_ne _ _ (by decide)])) x (by omega)) (by omega) (by decide) rfl rfl (Nat.le_of_ble_eq_true rfl) (hr.a (a := 118) rfl (by decide) rfl).1 (by decide) (hr.hi (by decide)) (by decide) (by decide) ?_
          refine j_top (y := nI (sA T (q 1) x)) (by repeat (first | rfl | rw [pu_ne _ _ (by decide)])) ?_
          refine j_aload_n (n := 182) dX2_next_181 rfl rfl ?_
          refine jc_get (n := 185) (k := 4) (v := nI (sA T (q 1) b)) dX2_next_182 rfl fX2_40 (hr.a (a := 118) rfl (by decide) rfl).1 (by decide) (hr.hi (by decide)) ((pq_q _ _ _ _ _).trans (congrArg nI (by repeat (first | rw [pu_eq] | rw [pu_ne _ _ (by decide)])))) ?_
          refine j_icmp_neT (n := 188) (tg := 201) dX2_next_185 rfl rfl (i_N (by omega)) (i_N (by omega)) (fun h103 => ?_) (fun h103 => ?_)
          · exact j_rv dX2_next_201 rfl (Nat.le_refl _) (Nat.le_refl _) (by have eE : x = enQ T (q 1) b (sA T (q 1) b) := (by unfold enQ; by_cases z0 : sA T (q 1) b = 0; (rw [if_pos z0]; exact (hc0 z0).1); (rw [if_neg z0]; by_cases z3 : sA T (q 1) b = 3; (rw [if_pos z3]; exact hc3 z3); (rw [if_neg z3, (hcF z0 z3).2.2]; first | exact (fi_n (by omega)).symm | exact (fi_t (by omega) (by omega)).symm))); rw [eE, hbl, hbE]; rfl) rfl
          · refine j_aload_n (n := 189) dX2_next_188 rfl rfl ?_
            refine j_dup (n := 190) dX2_next_189 rfl rfl ?_
            refine jc_get (n := 193) (k := 3) (v := nI x) dX2_next_190 rfl fX2_87 (hr.a (a := 118) rfl (by decide) rfl).1 (by decide) (hr.hi (by decide)) ((pq_q _ _ _ _ _).trans (congrArg nI (by repeat (first | rw [pu_eq] | rw [pu_ne _ _ (by decide)])))) ?_
            refine j_iconst (n := 194) (v := nI 1) dX2_next_193 rfl rfl ?_
            refine j_iaddN (n := 195) (c := x + 1) dX2_next_194 rfl rfl ?_
            refine jc_put (n := 198) (k := 3) (x := nI (x + 1)) (M2 := pq M (pu (pu (pu (pu q 2 b) 4 (sA T (q 1) b)) 5 (nbQ (bwQ q) bl (sA T (q 1) b))) 3 (x + 1)) R o) dX2_next_195 rfl pX2_87 (fun h => by cases h) rfl rfl (hr.a (a := 118) rfl (by decide) rfl).1 (by decide) (hr.hi (by decide)) (pq_wq (by funext j; by_cases hb : j = 3 <;> simp [pu, hb])) ?_
            refine j_goto (n := 154) dX2_next_198 rfl ?_
            exact ih _ (by omega) (x + 1) rfl (by omega) (by omega) (fun z => by omega) (fun z => by omega) (fun z1 z2 => ⟨by omega, by omega, (hcF z1 z2).2.2.trans (fi_s (by omega) (by omega))⟩)
  have e130 : zAt G miX2_next (zRm (d + 1) 0 0) (zQ G (zV (pq M (nextQ T q) R o) X) 0 0) 130 [some (.ref 118), some (.int (nI (bwQ q))), some (.int (nI bl))] [] (pq M (pu (pu (pu q 2 b) 4 (sA T (q 1) b)) 5 (nbQ (bwQ q) bl (sA T (q 1) b))) R o) X (0, 0) := by
    refine j_aload_n (n := 131) dX2_next_130 rfl rfl ?_
    refine j_aload_n (n := 132) dX2_next_131 rfl rfl ?_
    refine jc_get (n := 135) (k := 4) (v := nI (sA T (q 1) b)) dX2_next_132 rfl fX2_40 (hr.a (a := 118) rfl (by decide) rfl).1 (by decide) (hr.hi (by decide)) ((pq_q _ _ _ _ _).trans (congrArg nI (by repeat (first | rw [pu_eq] | rw [pu_ne _ _ (by decide)])))) ?_
    refine j_if_neN (n := 138) (tg := 145) dX2_next_135 rfl rfl (by omega) (fun h104 => ?_) (fun h104 => ?_)
    · refine j_aload_n (n := 146) dX2_next_145 rfl rfl ?_
      refine jc_get (n := 149) (k := 2) (v := nI b) dX2_next_146 rfl fX2_37 (hr.a (a := 118) rfl (by decide) rfl).1 (by decide) (hr.hi (by decide)) ((pq_q _ _ _ _ _).trans (congrArg nI (by repeat (first | rw [pu_eq] | rw [pu_ne _ _ (by decide)])))) ?_
      refine j_iconst (n := 150) (v := nI 1) dX2_next_149 rfl rfl ?_
      refine j_iaddN (n := 151) (c := b + 1) dX2_next_150 rfl rfl ?_
      refine jc_put (n := 154) (k := 3) (x := nI (b + 1)) (M2 := pq M (pu (pu (pu (pu q 2 b) 4 (sA T (q 1) b)) 5 (nbQ (bwQ q) bl (sA T (q 1) b))) 3 (b + 1)) R o) dX2_next_151 rfl pX2_87 (fun h => by cases h) rfl rfl (hr.a (a := 118) rfl (by decide) rfl).1 (by decide) (hr.hi (by decide)) (pq_wq rfl) ?_
      exact e154 _ _ rfl (by omega) (by omega) (fun z => ⟨by omega, by have := sA_0 z; omega⟩) (fun z => by omega) (fun z1 z2 => ⟨by omega, by have : ¬ q 1 ≤ b := (fun z => z1 (by unfold sA; rw [if_pos z])); omega, by first | rfl | (exfalso; omega)⟩)
    · refine j_aload_n (n := 139) dX2_next_138 rfl rfl ?_
      refine jc_get (n := 142) (k := 2) (v := nI b) dX2_next_139 rfl fX2_37 (hr.a (a := 118) rfl (by decide) rfl).1 (by decide) (hr.hi (by decide)) ((pq_q _ _ _ _ _).trans (congrArg nI (by repeat (first | rw [pu_eq] | rw [pu_ne _ _ (by decide)])))) ?_
      refine j_goto (n := 151) dX2_next_142 rfl ?_
      refine jc_put (n := 154) (k := 3) (x := nI b) (M2 := pq M (pu (pu (pu (pu q 2 b) 4 (sA T (q 1) b)) 5 (nbQ (bwQ q) bl (sA T (q 1) b))) 3 b) R o) dX2_next_151 rfl pX2_87 (fun h => by cases h) rfl rfl (hr.a (a := 118) rfl (by decide) rfl).1 (by decide) (hr.hi (by decide)) (pq_wq rfl) ?_
      exact e154 _ _ rfl (by omega) (by omega) (fun z => ⟨by omega, by have := sA_0 z; omega⟩) (fun z => by omega) (fun z1 z2 => ⟨by omega, by have : ¬ q 1 ≤ b := (fun z => z1 (by unfold sA; rw [if_pos z])); omega, by first | rfl | (exfalso; omega)⟩)
  have e127 : zAt G miX2_next (zRm (d + 1) 0 0) (zQ G (zV (pq M (nextQ T q) R o) X) 0 0) 127 [some (.ref 118), some (.int (nI (bwQ q))), some (.int (nI bl))] [.int (nI (nbQ (bwQ q) bl (sA T (q 1) b))), .ref 118] (pq M (pu (pu q 2 b) 4 (sA T (q 1) b)) R o) X (0, 0) := by
    refine jc_put (n := 130) (k := 5) (x := nI (nbQ (bwQ q) bl (sA T (q 1) b))) (M2 := pq M (pu (pu (pu q 2 b) 4 (sA T (q 1) b)) 5 (nbQ (bwQ q) bl (sA T (q 1) b))) R o) dX2_next_127 rfl pX2_43 (fun h => by cases h) (nar_b (by unfold nbQ; split <;> omega)) (fit_b (by unfold nbQ; split <;> omega)) (hr.a (a := 118) rfl (by decide) rfl).1 (by decide) (hr.hi (by decide)) (pq_wq rfl) ?_
    exact e130
  have e85 : zAt G miX2_next (zRm (d + 1) 0 0) (zQ G (zV (pq M (nextQ T q) R o) X) 0 0) 85 [some (.ref 118), some (.int (nI (bwQ q))), some (.int (nI bl))] [] (pq M (pu q 2 b) R o) X (0, 0) := by
    refine j_aload_n (n := 86) dX2_next_85 rfl rfl ?_
    refine j_aload_n (n := 87) dX2_next_86 rfl rfl ?_
    refine j_aload_n (n := 88) dX2_next_87 rfl rfl ?_
    refine jc_get (n := 91) (k := 2) (v := nI b) dX2_next_88 rfl fX2_37 (hr.a (a := 118) rfl (by decide) rfl).1 (by decide) (hr.hi (by decide)) ((pq_q _ _ _ _ _).trans (congrArg nI (by repeat (first | rw [pu_eq] | rw [pu_ne _ _ (by decide)])))) ?_
    refine j_cV (n := 94) dX2_next_91 rfl sX2_96 (k_sortAt d G _ _ hr hb T hT hT2 _ _ _ (by repeat (first | exact hL | rw [pu_ne _ _ (by decide)])) b (by omega)) (by omega) (by decide) rfl rfl (Nat.le_of_ble_eq_true rfl) (hr.a (a := 118) rfl (by decide) rfl).1 (by decide) (hr.hi (by decide)) (by decide) (by decide) ?_
    refine j_top (y := nI (sA T (q 1) b)) (by repeat (first | rfl | rw [pu_ne _ _ (by decide)])) ?_
    refine jc_put (n := 97) (k := 4) (x := nI (sA T (q 1) b)) (M2 := pq M (pu (pu q 2 b) 4 (sA T (q 1) b)) R o) dX2_next_94 rfl pX2_40 (fun h => by cases h) rfl rfl (hr.a (a := 118) rfl (by decide) rfl).1 (by decide) (hr.hi (by decide)) (pq_wq rfl) ?_
    refine j_aload_n (n := 98) dX2_next_97 rfl rfl ?_
    refine j_iload_n (n := 99) dX2_next_98 rfl rfl ?_
    refine j_if_eqN (n := 102) (tg := 126) dX2_next_99 rfl rfl (by omega) (fun h105 => ?_) (fun h105 => ?_)
    · refine j_iconst (n := 127) (v := nI 0) dX2_next_126 rfl rfl ?_
      refine j_top (y := nI (nbQ (bwQ q) bl (sA T (q 1) b))) (congrArg nI (by unfold nbQ; first | rw [if_pos (by omega)] | rw [if_neg (by omega)])) ?_
      exact e127
    · refine j_iload_n (n := 103) dX2_next_102 rfl rfl ?_
      refine j_if_neN (n := 106) (tg := 126) dX2_next_103 rfl rfl (by omega) (fun h106 => ?_) (fun h106 => ?_)
      · refine j_iconst (n := 127) (v := nI 0) dX2_next_126 rfl rfl ?_
        refine j_top (y := nI (nbQ (bwQ q) bl (sA T (q 1) b))) (congrArg nI (by unfold nbQ; first | rw [if_pos (by omega)] | rw [if_neg (by omega)])) ?_
        exact e127
      · refine j_aload_n (n := 107) dX2_next_106 rfl rfl ?_
        refine jc_get (n := 110) (k := 4) (v := nI (sA T (q 1) b)) dX2_next_107 rfl fX2_40 (hr.a (a := 118) rfl (by decide) rfl).1 (by decide) (hr.hi (by decide)) ((pq_q _ _ _ _ _).trans (congrArg nI (by repeat (first | rw [pu_eq] | rw [pu_ne _ _ (by decide)])))) ?_
        refine j_iconst (n := 111) (v := nI 1) dX2_next_110 rfl rfl ?_
        refine j_icmp_eqT (n := 114) (tg := 122) dX2_next_111 rfl rfl (i_N (by omega)) (i_N (by omega)) (fun h107 => ?_) (fun h107 => ?_)
        · refine j_iconst (n := 123) (v := nI 1) dX2_next_122 rfl rfl ?_
          refine j_goto (n := 127) dX2_next_123 rfl ?_
          refine j_top (y := nI (nbQ (bwQ q) bl (sA T (q 1) b))) (congrArg nI (by unfold nbQ; first | rw [if_pos (by omega)] | rw [if_neg (by omega)])) ?_
          exact e127
        · refine j_aload_n (n := 115) dX2_next_114 rfl rfl ?_
          refine jc_get (n := 118) (k := 4) (v := nI (sA T (q 1) b)) dX2_next_115 rfl fX2_40 (hr.a (a := 118) rfl (by decide) rfl).1 (by decide) (hr.hi (by decide)) ((pq_q _ _ _ _ _).trans (congrArg nI (by repeat (first | rw [pu_eq] | rw [pu_ne _ _ (by decide)])))) ?_
          refine j_iconst (n := 119) (v := nI 2) dX2_next_118 rfl rfl ?_
          refine j_icmp_neT (n := 122) (tg := 126) dX2_next_119 rfl rfl (i_N (by omega)) (i_N (by omega)) (fun h108 => ?_) (fun h108 => ?_)
          · refine j_iconst (n := 127) (v := nI 0) dX2_next_126 rfl rfl ?_
            refine j_top (y := nI (nbQ (bwQ q) bl (sA T (q 1) b))) (congrArg nI (by unfold nbQ; first | rw [if_pos (by omega)] | rw [if_neg (by omega)])) ?_
            exact e127
          · refine j_iconst (n := 123) (v := nI 1) dX2_next_122 rfl rfl ?_
            refine j_goto (n := 127) dX2_next_123 rfl ?_
            refine j_top (y := nI (nbQ (bwQ q) bl (sA T (q 1) b))) (congrArg nI (by unfold nbQ; first | rw [if_pos (by omega)] | rw [if_neg (by omega)])) ?_
            exact e127
  have e84 : zAt G miX2_next (zRm (d + 1) 0 0) (zQ G (zV (pq M (nextQ T q) R o) X) 0 0) 84 [some (.ref 118), some (.int (nI (bwQ q))), none] [.int (nI bl)] (pq M (pu q 2 b) R o) X (0, 0) := by
    refine j_istore_n (n := 85) (lv2 := [some (.ref 118), some (.int (nI (bwQ q))), some (.int (nI bl))]) dX2_next_84 rfl rfl (by decide) rfl ?_
    exact e85
  have e68 : zAt G miX2_next (zRm (d + 1) 0 0) (zQ G (zV (pq M (nextQ T q) R o) X) 0 0) 68 [some (.ref 118), some (.int (nI (bwQ q))), none] [] (pq M (pu q 2 b) R o) X (0, 0) := by
    refine j_aload_n (n := 69) dX2_next_68 rfl rfl ?_
    refine jc_get (n := 72) (k := 2) (v := nI b) dX2_next_69 rfl fX2_37 (hr.a (a := 118) rfl (by decide) rfl).1 (by decide) (hr.hi (by decide)) ((pq_q _ _ _ _ _).trans (congrArg nI (by repeat (first | rw [pu_eq] | rw [pu_ne _ _ (by decide)])))) ?_
    refine j_aload_n (n := 73) dX2_next_72 rfl rfl ?_
    refine jc_get (n := 76) (k := 3) (v := nI (q 3)) dX2_next_73 rfl fX2_87 (hr.a (a := 118) rfl (by decide) rfl).1 (by decide) (hr.hi (by decide)) ((pq_q _ _ _ _ _).trans (congrArg nI (by repeat rw [pu_ne _ _ (by decide)]))) ?_
    refine j_icmp_leT (n := 79) (tg := 83) dX2_next_76 rfl rfl (i_N (by omega)) (i_N (by omega)) (fun h109 => ?_) (fun h109 => ?_)
    · refine j_iconst (n := 84) (v := nI 0) dX2_next_83 rfl rfl ?_
      refine j_top (y := nI bl) (congrArg nI (by rw [hbl]; first | rw [if_pos (by omega)] | rw [if_neg (by omega)])) ?_
      exact e84
    · refine j_iconst (n := 80) (v := nI 1) dX2_next_79 rfl rfl ?_
      refine j_goto (n := 84) dX2_next_80 rfl ?_
      refine j_top (y := nI bl) (congrArg nI (by rw [hbl]; first | rw [if_pos (by omega)] | rw [if_neg (by omega)])) ?_
      exact e84
  have e30 : ∀ (j x : Nat), q 1 - x = j → x ≤ q 1 → b = fi (fun i => ¬ T i = 32) (q 1 - x) x → zAt G miX2_next (zRm (d + 1) 0 0) (zQ G (zV (pq M (nextQ T q) R o) X) 0 0) 30 [some (.ref 118), some (.int (nI (bwQ q))), none] [] (pq M (pu q 2 x) R o) X (0, 0) := by
    intro j
    induction j using Nat.strongRecOn with
    | ind j ih =>
      intro x hj hx0 hF
      refine j_aload_n (n := 31) dX2_next_30 rfl rfl ?_
      refine jc_get (n := 34) (k := 2) (v := nI x) dX2_next_31 rfl fX2_37 (hr.a (a := 118) rfl (by decide) rfl).1 (by decide) (hr.hi (by decide)) ((pq_q _ _ _ _ _).trans (congrArg nI (by repeat (first | rw [pu_eq] | rw [pu_ne _ _ (by decide)])))) ?_
      refine j_aload_n (n := 35) dX2_next_34 rfl rfl ?_
      refine jc_get (n := 38) (k := 1) (v := nI (q 1)) dX2_next_35 rfl fX2_57 (hr.a (a := 118) rfl (by decide) rfl).1 (by decide) (hr.hi (by decide)) ((pq_q _ _ _ _ _).trans (congrArg nI (by repeat rw [pu_ne _ _ (by decide)]))) ?_
      refine j_icmp_geT (n := 41) (tg := 68) dX2_next_38 rfl rfl (i_N (by omega)) (i_N (by omega)) (fun h110 => ?_) (fun h110 => ?_)
      · have eb : b = x := hF.trans (by first | exact fi_n (by omega) | exact fi_t (by omega) (by omega))
        rw [← eb]
        exact e68
      · have hsb := sb_int (hT2 x)
        refine j_aload_n (n := 42) dX2_next_41 rfl rfl ?_
        refine j_getr (n := 45) (k := 0) (b := 122) dX2_next_42 rfl fX2_9 (hr.a (a := 118) rfl (by decide) rfl).1 (by decide) (hr.hi (by decide)) hb ?_
        refine j_aload_n (n := 46) dX2_next_45 rfl rfl ?_
        refine jc_get (n := 49) (k := 2) (v := nI x) dX2_next_46 rfl fX2_37 (hr.a (a := 118) rfl (by decide) rfl).1 (by decide) (hr.hi (by decide)) ((pq_q _ _ _ _ _).trans (congrArg nI (by repeat (first | rw [pu_eq] | rw [pu_ne _ _ (by decide)])))) ?_
        refine j_baldN (n := 50) (L := 96) (a := 122) (i := x) (v := sb (T x)) dX2_next_49 rfl (hr.a (a := 122) rfl (by decide) rfl).1 (hr.a (a := 122) rfl (by decide) rfl).2 (by omega) (by decide) (by decide) (hr.hi (by decide)) ((congrFun (pq_n _ _ _ _ (by decide) (by decide) (by decide)) _).trans (hT _ (by omega))) ?_
        refine j_bipush (n := 52) (v := nI 32) dX2_next_50 rfl (by decide) ?_
        refine j_icmp_neT (n := 55) (tg := 68) dX2_next_52 rfl rfl rfl (i_N (by omega)) (fun h111 => ?_) (fun h111 => ?_)
        · have eb : b = x := hF.trans (by first | exact fi_n (by omega) | exact fi_t (by omega) (by omega))
          rw [← eb]
          exact e68
        · refine j_aload_n (n := 56) dX2_next_55 rfl rfl ?_
          refine j_dup (n := 57) dX2_next_56 rfl rfl ?_
          refine jc_get (n := 60) (k := 2) (v := nI x) dX2_next_57 rfl fX2_37 (hr.a (a := 118) rfl (by decide) rfl).1 (by decide) (hr.hi (by decide)) ((pq_q _ _ _ _ _).trans (congrArg nI (by repeat (first | rw [pu_eq] | rw [pu_ne _ _ (by decide)])))) ?_
          refine j_iconst (n := 61) (v := nI 1) dX2_next_60 rfl rfl ?_
          refine j_iaddN (n := 62) (c := x + 1) dX2_next_61 rfl rfl ?_
          refine jc_put (n := 65) (k := 2) (x := nI (x + 1)) (M2 := pq M (pu q 2 (x + 1)) R o) dX2_next_62 rfl pX2_37 (fun h => by cases h) rfl rfl (hr.a (a := 118) rfl (by decide) rfl).1 (by decide) (hr.hi (by decide)) (pq_wq (by funext j; by_cases hb : j = 2 <;> simp [pu, hb])) ?_
          refine j_goto (n := 30) dX2_next_65 rfl ?_
          exact ih _ (by omega) (x + 1) rfl (by omega) (hF.trans (fi_s (by omega) (by omega)))
  have e21 : zAt G miX2_next (zRm (d + 1) 0 0) (zQ G (zV (pq M (nextQ T q) R o) X) 0 0) 21 [some (.ref 118), none, none] [.int (nI (bwQ q))] (pq M q R o) X (0, 0) := by
    refine j_istore_n (n := 22) (lv2 := [some (.ref 118), some (.int (nI (bwQ q))), none]) dX2_next_21 rfl rfl (by decide) rfl ?_
    refine j_aload_n (n := 23) dX2_next_22 rfl rfl ?_
    refine j_aload_n (n := 24) dX2_next_23 rfl rfl ?_
    refine jc_get (n := 27) (k := 3) (v := nI (q 3)) dX2_next_24 rfl fX2_87 (hr.a (a := 118) rfl (by decide) rfl).1 (by decide) (hr.hi (by decide)) (pq_q _ _ _ _ _) ?_
    refine jc_put (n := 30) (k := 2) (x := nI (q 3)) (M2 := pq M (pu q 2 (q 3)) R o) dX2_next_27 rfl pX2_37 (fun h => by cases h) rfl rfl (hr.a (a := 118) rfl (by decide) rfl).1 (by decide) (hr.hi (by decide)) (pq_wq rfl) ?_
    exact e30 _ (q 3) rfl h3 hbE
  refine j_aload_n (n := 1) dX2_next_0 rfl rfl ?_
  refine jc_get (n := 4) (k := 4) (v := nI (q 4)) dX2_next_1 rfl fX2_40 (hr.a (a := 118) rfl (by decide) rfl).1 (by decide) (hr.hi (by decide)) (pq_q _ _ _ _ _) ?_
  refine j_iconst (n := 5) (v := nI 1) dX2_next_4 rfl rfl ?_
  refine j_icmp_eqT (n := 8) (tg := 16) dX2_next_5 rfl rfl (i_N (by omega)) (i_N (by omega)) (fun h112 => ?_) (fun h112 => ?_)
  · refine j_iconst (n := 17) (v := nI 1) dX2_next_16 rfl rfl ?_
    refine j_goto (n := 21) dX2_next_17 rfl ?_
    refine j_top (y := nI (bwQ q)) (congrArg nI (by unfold bwQ; first | rw [if_pos (by omega)] | rw [if_neg (by omega)])) ?_
    exact e21
  · refine j_aload_n (n := 9) dX2_next_8 rfl rfl ?_
    refine jc_get (n := 12) (k := 4) (v := nI (q 4)) dX2_next_9 rfl fX2_40 (hr.a (a := 118) rfl (by decide) rfl).1 (by decide) (hr.hi (by decide)) (pq_q _ _ _ _ _) ?_
    refine j_iconst (n := 13) (v := nI 2) dX2_next_12 rfl rfl ?_
    refine j_icmp_neT (n := 16) (tg := 20) dX2_next_13 rfl rfl (i_N (by omega)) (i_N (by omega)) (fun h113 => ?_) (fun h113 => ?_)
    · refine j_iconst (n := 21) (v := nI 0) dX2_next_20 rfl rfl ?_
      refine j_top (y := nI (bwQ q)) (congrArg nI (by unfold bwQ; first | rw [if_pos (by omega)] | rw [if_neg (by omega)])) ?_
      exact e21
    · refine j_iconst (n := 17) (v := nI 1) dX2_next_16 rfl rfl ?_
      refine j_goto (n := 21) dX2_next_17 rfl ?_
      refine j_top (y := nI (bwQ q)) (congrArg nI (by unfold bwQ; first | rw [if_pos (by omega)] | rw [if_neg (by omega)])) ?_
      exact e21
theorem k_levelOf (d : Nat) (G : zG) (M : zMem) (X : zX) (v : Nat) (hv : v ≤ 255) : zCall G miX2_levelOf (d + 0) [.int (nI v)] (zI (nI (levN v)) M X) M X 0 0 := by
  refine zCall.of (lv := [some (.int (nI v))]) (by decide) (Nat.le_of_ble_eq_true rfl) rfl ?_
  refine j_iload_n (n := 1) dX2_levelOf_0 rfl rfl ?_
  have hs101 : v = 38 ∨ v = 42 ∨ v = 43 ∨ v = 45 ∨ v = 47 ∨ v = 60 ∨ v = 61 ∨ v = 62 ∨ v = 124 ∨ (¬ v = 38 ∧ ¬ v = 42 ∧ ¬ v = 43 ∧ ¬ v = 45 ∧ ¬ v = 47 ∧ ¬ v = 60 ∧ ¬ v = 61 ∧ ¬ v = 62 ∧ ¬ v = 124) := by omega
  rcases hs101 with hs101 | hs101 | hs101 | hs101 | hs101 | hs101 | hs101 | hs101 | hs101 | hs101
  · refine j_lookup (off := 85) (tg := 86) dX2_levelOf_1 (by decide) (by show Op.lookupswitch.offset ([(38, 85), (42, 91), (43, 89), (45, 89), (47, 91), (60, 87), (61, 87), (62, 87), (124, 83)] : List (Int × Int)) 93 _ = _; rw [i_N (by omega)]; (repeat (first | (rw [Op.lookupswitch.offset_cons, if_pos (by omega)]; done) | rw [Op.lookupswitch.offset_cons, if_neg (by omega)])); all_goals rfl) rfl ?_
    refine j_iconst (n := 87) (v := nI 2) dX2_levelOf_86 rfl rfl ?_
    exact j_ri dX2_levelOf_87 rfl (Nat.le_refl _) (Nat.le_refl _) (congrArg nI (by unfold levN; repeat (first | rw [if_pos (by omega)] | rw [if_neg (by omega)]))) rfl rfl
  · refine j_lookup (off := 91) (tg := 92) dX2_levelOf_1 (by decide) (by show Op.lookupswitch.offset ([(38, 85), (42, 91), (43, 89), (45, 89), (47, 91), (60, 87), (61, 87), (62, 87), (124, 83)] : List (Int × Int)) 93 _ = _; rw [i_N (by omega)]; (repeat (first | (rw [Op.lookupswitch.offset_cons, if_pos (by omega)]; done) | rw [Op.lookupswitch.offset_cons, if_neg (by omega)])); all_goals rfl) rfl ?_
    refine j_iconst (n := 93) (v := nI 5) dX2_levelOf_92 rfl rfl ?_
    exact j_ri dX2_levelOf_93 rfl (Nat.le_refl _) (Nat.le_refl _) (congrArg nI (by unfold levN; repeat (first | rw [if_pos (by omega)] | rw [if_neg (by omega)]))) rfl rfl
  · refine j_lookup (off := 89) (tg := 90) dX2_levelOf_1 (by decide) (by show Op.lookupswitch.offset ([(38, 85), (42, 91), (43, 89), (45, 89), (47, 91), (60, 87), (61, 87), (62, 87), (124, 83)] : List (Int × Int)) 93 _ = _; rw [i_N (by omega)]; (repeat (first | (rw [Op.lookupswitch.offset_cons, if_pos (by omega)]; done) | rw [Op.lookupswitch.offset_cons, if_neg (by omega)])); all_goals rfl) rfl ?_
    refine j_iconst (n := 91) (v := nI 4) dX2_levelOf_90 rfl rfl ?_
    exact j_ri dX2_levelOf_91 rfl (Nat.le_refl _) (Nat.le_refl _) (congrArg nI (by unfold levN; repeat (first | rw [if_pos (by omega)] | rw [if_neg (by omega)]))) rfl rfl
  · refine j_lookup (off := 89) (tg := 90) dX2_levelOf_1 (by decide) (by show Op.lookupswitch.offset ([(38, 85), (42, 91), (43, 89), (45, 89), (47, 91), (60, 87), (61, 87), (62, 87), (124, 83)] : List (Int × Int)) 93 _ = _; rw [i_N (by omega)]; (repeat (first | (rw [Op.lookupswitch.offset_cons, if_pos (by omega)]; done) | rw [Op.lookupswitch.offset_cons, if_neg (by omega)])); all_goals rfl) rfl ?_
    refine j_iconst (n := 91) (v := nI 4) dX2_levelOf_90 rfl rfl ?_
    exact j_ri dX2_levelOf_91 rfl (Nat.le_refl _) (Nat.le_refl _) (congrArg nI (by unfold levN; repeat (first | rw [if_pos (by omega)] | rw [if_neg (by omega)]))) rfl rfl
  · refine j_lookup (off := 91) (tg := 92) dX2_levelOf_1 (by decide) (by show Op.lookupswitch.offset ([(38, 85), (42, 91), (43, 89), (45, 89), (47, 91), (60, 87), (61, 87), (62, 87), (124, 83)] : List (Int × Int)) 93 _ = _; rw [i_N (by omega)]; (repeat (first | (rw [Op.lookupswitch.offset_cons, if_pos (by omega)]; done) | rw [Op.lookupswitch.offset_cons, if_neg (by omega)])); all_goals rfl) rfl ?_
    refine j_iconst (n := 93) (v := nI 5) dX2_levelOf_92 rfl rfl ?_
    exact j_ri dX2_levelOf_93 rfl (Nat.le_refl _) (Nat.le_refl _) (congrArg nI (by unfold levN; repeat (first | rw [if_pos (by omega)] | rw [if_neg (by omega)]))) rfl rfl
  · refine j_lookup (off := 87) (tg := 88) dX2_levelOf_1 (by decide) (by show Op.lookupswitch.offset ([(38, 85), (42, 91), (43, 89), (45, 89), (47, 91), (60, 87), (61, 87), (62, 87), (124, 83)] : List (Int × Int)) 93 _ = _; rw [i_N (by omega)]; (repeat (first | (rw [Op.lookupswitch.offset_cons, if_pos (by omega)]; done) | rw [Op.lookupswitch.offset_cons, if_neg (by omega)])); all_goals rfl) rfl ?_
    refine j_iconst (n := 89) (v := nI 3) dX2_levelOf_88 rfl rfl ?_
    exact j_ri dX2_levelOf_89 rfl (Nat.le_refl _) (Nat.le_refl _) (congrArg nI (by unfold levN; repeat (first | rw [if_pos (by omega)] | rw [if_neg (by omega)]))) rfl rfl
  · refine j_lookup (off := 87) (tg := 88) dX2_levelOf_1 (by decide) (by show Op.lookupswitch.offset ([(38, 85), (42, 91), (43, 89), (45, 89), (47, 91), (60, 87), (61, 87), (62, 87), (124, 83)] : List (Int × Int)) 93 _ = _; rw [i_N (by omega)]; (repeat (first | (rw [Op.lookupswitch.offset_cons, if_pos (by omega)]; done) | rw [Op.lookupswitch.offset_cons, if_neg (by omega)])); all_goals rfl) rfl ?_
    refine j_iconst (n := 89) (v := nI 3) dX2_levelOf_88 rfl rfl ?_
    exact j_ri dX2_levelOf_89 rfl (Nat.le_refl _) (Nat.le_refl _) (congrArg nI (by unfold levN; repeat (first | rw [if_pos (by omega)] | rw [if_neg (by omega)]))) rfl rfl
  · refine j_lookup (off := 87) (tg := 88) dX2_levelOf_1 (by decide) (by show Op.lookupswitch.offset ([(38, 85), (42, 91), (43, 89), (45, 89), (47, 91), (60, 87), (61, 87), (62, 87), (124, 83)] : List (Int × Int)) 93 _ = _; rw [i_N (by omega)]; (repeat (first | (rw [Op.lookupswitch.offset_cons, if_pos (by omega)]; done) | rw [Op.lookupswitch.offset_cons, if_neg (by omega)])); all_goals rfl) rfl ?_
    refine j_iconst (n := 89) (v := nI 3) dX2_levelOf_88 rfl rfl ?_
    exact j_ri dX2_levelOf_89 rfl (Nat.le_refl _) (Nat.le_refl _) (congrArg nI (by unfold levN; repeat (first | rw [if_pos (by omega)] | rw [if_neg (by omega)]))) rfl rfl
  · refine j_lookup (off := 83) (tg := 84) dX2_levelOf_1 (by decide) (by show Op.lookupswitch.offset ([(38, 85), (42, 91), (43, 89), (45, 89), (47, 91), (60, 87), (61, 87), (62, 87), (124, 83)] : List (Int × Int)) 93 _ = _; rw [i_N (by omega)]; (repeat (first | (rw [Op.lookupswitch.offset_cons, if_pos (by omega)]; done) | rw [Op.lookupswitch.offset_cons, if_neg (by omega)])); all_goals rfl) rfl ?_
    refine j_iconst (n := 85) (v := nI 1) dX2_levelOf_84 rfl rfl ?_
    exact j_ri dX2_levelOf_85 rfl (Nat.le_refl _) (Nat.le_refl _) (congrArg nI (by unfold levN; repeat (first | rw [if_pos (by omega)] | rw [if_neg (by omega)]))) rfl rfl
  · refine j_lookup (off := 93) (tg := 94) dX2_levelOf_1 (by decide) (by show Op.lookupswitch.offset ([(38, 85), (42, 91), (43, 89), (45, 89), (47, 91), (60, 87), (61, 87), (62, 87), (124, 83)] : List (Int × Int)) 93 _ = _; rw [i_N (by omega)]; (repeat (first | (rw [Op.lookupswitch.offset_cons, if_pos (by omega)]; done) | rw [Op.lookupswitch.offset_cons, if_neg (by omega)])); all_goals rfl) rfl ?_
    refine j_iconst (n := 95) (v := nI 0) dX2_levelOf_94 rfl rfl ?_
    exact j_ri dX2_levelOf_95 rfl (Nat.le_refl _) (Nat.le_refl _) (congrArg nI (by unfold levN; repeat (first | rw [if_pos (by omega)] | rw [if_neg (by omega)]))) rfl rfl
theorem k_levelOfS (d : Nat) (G : zG) (M : zMem) (X : zX) (x : Int32) (hx : x.toInt < 0) : zCall G miX2_levelOf (d + 0) [.int x] (zI (nI 0) M X) M X 0 0 := by
  refine zCall.of (lv := [some (.int x)]) (by decide) (Nat.le_of_ble_eq_true rfl) rfl ?_
  refine j_iload_n (n := 1) dX2_levelOf_0 rfl rfl ?_
  have hs101 : (x).toInt = 38 ∨ (x).toInt = 42 ∨ (x).toInt = 43 ∨ (x).toInt = 45 ∨ (x).toInt = 47 ∨ (x).toInt = 60 ∨ (x).toInt = 61 ∨ (x).toInt = 62 ∨ (x).toInt = 124 ∨ (¬ (x).toInt = 38 ∧ ¬ (x).toInt = 42 ∧ ¬ (x).toInt = 43 ∧ ¬ (x).toInt = 45 ∧ ¬ (x).toInt = 47 ∧ ¬ (x).toInt = 60 ∧ ¬ (x).toInt = 61 ∧ ¬ (x).toInt = 62 ∧ ¬ (x).toInt = 124) := by omega
  rcases hs101 with hs101 | hs101 | hs101 | hs101 | hs101 | hs101 | hs101 | hs101 | hs101 | hs101
  · refine j_lookup (off := 85) (tg := 86) dX2_levelOf_1 (by decide) (by show Op.lookupswitch.offset ([(38, 85), (42, 91), (43, 89), (45, 89), (47, 91), (60, 87), (61, 87), (62, 87), (124, 83)] : List (Int × Int)) 93 _ = _; (repeat (first | (rw [Op.lookupswitch.offset_cons, if_pos (by omega)]; done) | rw [Op.lookupswitch.offset_cons, if_neg (by omega)])); all_goals rfl) rfl ?_
    refine j_iconst (n := 87) (v := nI 2) dX2_levelOf_86 rfl rfl ?_
    exact j_ri dX2_levelOf_87 rfl (Nat.le_refl _) (Nat.le_refl _) (by first | rfl | (exfalso; omega)) rfl rfl
  · refine j_lookup (off := 91) (tg := 92) dX2_levelOf_1 (by decide) (by show Op.lookupswitch.offset ([(38, 85), (42, 91), (43, 89), (45, 89), (47, 91), (60, 87), (61, 87), (62, 87), (124, 83)] : List (Int × Int)) 93 _ = _; (repeat (first | (rw [Op.lookupswitch.offset_cons, if_pos (by omega)]; done) | rw [Op.lookupswitch.offset_cons, if_neg (by omega)])); all_goals rfl) rfl ?_
    refine j_iconst (n := 93) (v := nI 5) dX2_levelOf_92 rfl rfl ?_
    exact j_ri dX2_levelOf_93 rfl (Nat.le_refl _) (Nat.le_refl _) (by first | rfl | (exfalso; omega)) rfl rfl
  · refine j_lookup (off := 89) (tg := 90) dX2_levelOf_1 (by decide) (by show Op.lookupswitch.offset ([(38, 85), (42, 91), (43, 89), (45, 89), (47, 91), (60, 87), (61, 87), (62, 87), (124, 83)] : List (Int × Int)) 93 _ = _; (repeat (first | (rw [Op.lookupswitch.offset_cons, if_pos (by omega)]; done) | rw [Op.lookupswitch.offset_cons, if_neg (by omega)])); all_goals rfl) rfl ?_
    refine j_iconst (n := 91) (v := nI 4) dX2_levelOf_90 rfl rfl ?_
    exact j_ri dX2_levelOf_91 rfl (Nat.le_refl _) (Nat.le_refl _) (by first | rfl | (exfalso; omega)) rfl rfl
  · refine j_lookup (off := 89) (tg := 90) dX2_levelOf_1 (by decide) (by show Op.lookupswitch.offset ([(38, 85), (42, 91), (43, 89), (45, 89), (47, 91), (60, 87), (61, 87), (62, 87), (124, 83)] : List (Int × Int)) 93 _ = _; (repeat (first | (rw [Op.lookupswitch.offset_cons, if_pos (by omega)]; done) | rw [Op.lookupswitch.offset_cons, if_neg (by omega)])); all_goals rfl) rfl ?_
    refine j_iconst (n := 91) (v := nI 4) dX2_levelOf_90 rfl rfl ?_
    exact j_ri dX2_levelOf_91 rfl (Nat.le_refl _) (Nat.le_refl _) (by first | rfl | (exfalso; omega)) rfl rfl
  · refine j_lookup (off := 91) (tg := 92) dX2_levelOf_1 (by decide) (by show Op.lookupswitch.offset ([(38, 85), (42, 91), (43, 89), (45, 89), (47, 91), (60, 87), (61, 87), (62, 87), (124, 83)] : List (Int × Int)) 93 _ = _; (repeat (first | (rw [Op.lookupswitch.offset_cons, if_pos (by omega)]; done) | rw [Op.lookupswitch.offset_cons, if_neg (by omega)])); all_goals rfl) rfl ?_
    refine j_iconst (n := 93) (v := nI 5) dX2_levelOf_92 rfl rfl ?_
    exact j_ri dX2_levelOf_93 rfl (Nat.le_refl _) (Nat.le_refl _) (by first | rfl | (exfalso; omega)) rfl rfl
  · refine j_lookup (off := 87) (tg := 88) dX2_levelOf_1 (by decide) (by show Op.lookupswitch.offset ([(38, 85), (42, 91), (43, 89), (45, 89), (47, 91), (60, 87), (61, 87), (62, 87), (124, 83)] : List (Int × Int)) 93 _ = _; (repeat (first | (rw [Op.lookupswitch.offset_cons, if_pos (by omega)]; done) | rw [Op.lookupswitch.offset_cons, if_neg (by omega)])); all_goals rfl) rfl ?_
    refine j_iconst (n := 89) (v := nI 3) dX2_levelOf_88 rfl rfl ?_
    exact j_ri dX2_levelOf_89 rfl (Nat.le_refl _) (Nat.le_refl _) (by first | rfl | (exfalso; omega)) rfl rfl
  · refine j_lookup (off := 87) (tg := 88) dX2_levelOf_1 (by decide) (by show Op.lookupswitch.offset ([(38, 85), (42, 91), (43, 89), (45, 89), (47, 91), (60, 87), (61, 87), (62, 87), (124, 83)] : List (Int × Int)) 93 _ = _; (repeat (first | (rw [Op.lookupswitch.offset_cons, if_pos (by omega)]; done) | rw [Op.lookupswitch.offset_cons, if_neg (by omega)])); all_goals rfl) rfl ?_
    refine j_iconst (n := 89) (v := nI 3) dX2_levelOf_88 rfl rfl ?_
    exact j_ri dX2_levelOf_89 rfl (Nat.le_refl _) (Nat.le_refl _) (by first | rfl | (exfalso; omega)) rfl rfl
  · refine j_lookup (off := 87) (tg := 88) dX2_levelOf_1 (by decide) (by show Op.lookupswitch.offset ([(38, 85), (42, 91), (43, 89), (45, 89), (47, 91), (60, 87), (61, 87), (62, 87), (124, 83)] : List (Int × Int)) 93 _ = _; (repeat (first | (rw [Op.lookupswitch.offset_cons, if_pos (by omega)]; done) | rw [Op.lookupswitch.offset_cons, if_neg (by omega)])); all_goals rfl) rfl ?_
    refine j_iconst (n := 89) (v := nI 3) dX2_levelOf_88 rfl rfl ?_
    exact j_ri dX2_levelOf_89 rfl (Nat.le_refl _) (Nat.le_refl _) (by first | rfl | (exfalso; omega)) rfl rfl
  · refine j_lookup (off := 83) (tg := 84) dX2_levelOf_1 (by decide) (by show Op.lookupswitch.offset ([(38, 85), (42, 91), (43, 89), (45, 89), (47, 91), (60, 87), (61, 87), (62, 87), (124, 83)] : List (Int × Int)) 93 _ = _; (repeat (first | (rw [Op.lookupswitch.offset_cons, if_pos (by omega)]; done) | rw [Op.lookupswitch.offset_cons, if_neg (by omega)])); all_goals rfl) rfl ?_
    refine j_iconst (n := 85) (v := nI 1) dX2_levelOf_84 rfl rfl ?_
    exact j_ri dX2_levelOf_85 rfl (Nat.le_refl _) (Nat.le_refl _) (by first | rfl | (exfalso; omega)) rfl rfl
  · refine j_lookup (off := 93) (tg := 94) dX2_levelOf_1 (by decide) (by show Op.lookupswitch.offset ([(38, 85), (42, 91), (43, 89), (45, 89), (47, 91), (60, 87), (61, 87), (62, 87), (124, 83)] : List (Int × Int)) 93 _ = _; (repeat (first | (rw [Op.lookupswitch.offset_cons, if_pos (by omega)]; done) | rw [Op.lookupswitch.offset_cons, if_neg (by omega)])); all_goals rfl) rfl ?_
    refine j_iconst (n := 95) (v := nI 0) dX2_levelOf_94 rfl rfl ?_
    exact j_ri dX2_levelOf_95 rfl (Nat.le_refl _) (Nat.le_refl _) (by first | rfl | (exfalso; omega)) rfl rfl
theorem k_putOff (d : Nat) (G : zG) (M : zMem) (X : zX) (hr : kR X) (q : Nat → Nat) (R : Nat → Int32) (o : Nat → Nat) (h11 : q 11 < 96) (v : Nat) : zCall G miX2_putOff (d + 0) [.ref 118, .int (nI v)] (zV (pq M (pu q 11 (q 11 + 1)) R (pu o (q 11) v)) X) (pq M q R o) X 0 0 := by
  refine zCall.of (lv := [some (.ref 118), some (.int (nI v))]) (by decide) (Nat.le_of_ble_eq_true rfl) rfl ?_
  refine j_aload_n (n := 1) dX2_putOff_0 rfl rfl ?_
  refine jc_get (n := 4) (k := 11) (v := nI (q 11)) dX2_putOff_1 rfl fX2_90 (hr.a (a := 118) rfl (by decide) rfl).1 (by decide) (hr.hi (by decide)) (pq_q _ _ _ _ _) ?_
  refine j_aload_n (n := 5) dX2_putOff_4 rfl rfl ?_
  refine j_getr (n := 8) (k := 10) (b := 121) dX2_putOff_5 rfl fX2_19 (hr.a (a := 118) rfl (by decide) rfl).1 (by decide) (hr.hi (by decide)) hr.p10 ?_
  refine j_alen (n := 9) (t := 0) (L := 96) dX2_putOff_8 rfl (hr.a (a := 121) rfl (by decide) rfl).1 (by decide) (hr.a (a := 121) rfl (by decide) rfl).2 (by decide) (hr.hi (by decide)) ?_
  refine j_icmp_geT (n := 12) (tg := 32) dX2_putOff_9 rfl rfl (i_N (by omega)) (i_N (by omega)) (fun h101 => ?_) (fun h101 => ?_)
  · exfalso; omega
  · refine j_aload_n (n := 13) dX2_putOff_12 rfl rfl ?_
    refine j_getr (n := 16) (k := 10) (b := 121) dX2_putOff_13 rfl fX2_19 (hr.a (a := 118) rfl (by decide) rfl).1 (by decide) (hr.hi (by decide)) hr.p10 ?_
    refine j_aload_n (n := 17) dX2_putOff_16 rfl rfl ?_
    refine jc_get (n := 20) (k := 11) (v := nI (q 11)) dX2_putOff_17 rfl fX2_90 (hr.a (a := 118) rfl (by decide) rfl).1 (by decide) (hr.hi (by decide)) (pq_q _ _ _ _ _) ?_
    refine j_iload_n (n := 21) dX2_putOff_20 rfl rfl ?_
    refine j_iastN (n := 22) (L := 96) (a := 121) (i := q 11) (x := nI v) (M2 := pq M q R (pu o (q 11) v)) dX2_putOff_21 rfl (hr.a (a := 121) rfl (by decide) rfl).1 (hr.a (a := 121) rfl (by decide) rfl).2 (by omega) (by decide) (by decide) (hr.hi (by decide)) (pq_wo _ _ _ _ _ _) ?_
    refine j_aload_n (n := 23) dX2_putOff_22 rfl rfl ?_
    refine j_dup (n := 24) dX2_putOff_23 rfl rfl ?_
    refine jc_get (n := 27) (k := 11) (v := nI (q 11)) dX2_putOff_24 rfl fX2_90 (hr.a (a := 118) rfl (by decide) rfl).1 (by decide) (hr.hi (by decide)) (pq_q _ _ _ _ _) ?_
    refine j_iconst (n := 28) (v := nI 1) dX2_putOff_27 rfl rfl ?_
    refine j_iaddN (n := 29) (c := q 11 + 1) dX2_putOff_28 rfl rfl ?_
    refine jc_put (n := 32) (k := 11) (x := nI (q 11 + 1)) (M2 := pq M (pu q 11 (q 11 + 1)) R (pu o (q 11) v)) dX2_putOff_29 rfl pX2_90 (fun h => by cases h) rfl rfl (hr.a (a := 118) rfl (by decide) rfl).1 (by decide) (hr.hi (by decide)) (pq_wq rfl) ?_
    exact j_rv dX2_putOff_32 rfl (Nat.le_refl _) (Nat.le_refl _) rfl rfl
theorem k_write (d : Nat) (G : zG) (M : zMem) (X : zX) (hr : kR X) (q : Nat → Nat) (R : Nat → Int32) (o : Nat → Nat) (h9 : q 9 < 96) (x : Int32) : zCall G miX2_write (d + 0) [.ref 118, .int x] (zV (pq M (pu q 9 (q 9 + 1)) (upd R (q 9) x) o) X) (pq M q R o) X 0 0 := by
  refine zCall.of (lv := [some (.ref 118), some (.int x)]) (by decide) (Nat.le_of_ble_eq_true rfl) rfl ?_
  refine j_aload_n (n := 1) dX2_write_0 rfl rfl ?_
  refine jc_get (n := 4) (k := 9) (v := nI (q 9)) dX2_write_1 rfl fX2_69 (hr.a (a := 118) rfl (by decide) rfl).1 (by decide) (hr.hi (by decide)) (pq_q _ _ _ _ _) ?_
  refine j_aload_n (n := 5) dX2_write_4 rfl rfl ?_
  refine j_getr (n := 8) (k := 8) (b := 120) dX2_write_5 rfl fX2_15 (hr.a (a := 118) rfl (by decide) rfl).1 (by decide) (hr.hi (by decide)) hr.p8 ?_
  refine j_alen (n := 9) (t := 0) (L := 96) dX2_write_8 rfl (hr.a (a := 120) rfl (by decide) rfl).1 (by decide) (hr.a (a := 120) rfl (by decide) rfl).2 (by decide) (hr.hi (by decide)) ?_
  refine j_icmp_geT (n := 12) (tg := 32) dX2_write_9 rfl rfl (i_N (by omega)) (i_N (by omega)) (fun h101 => ?_) (fun h101 => ?_)
  · exfalso; omega
  · refine j_aload_n (n := 13) dX2_write_12 rfl rfl ?_
    refine j_getr (n := 16) (k := 8) (b := 120) dX2_write_13 rfl fX2_15 (hr.a (a := 118) rfl (by decide) rfl).1 (by decide) (hr.hi (by decide)) hr.p8 ?_
    refine j_aload_n (n := 17) dX2_write_16 rfl rfl ?_
    refine jc_get (n := 20) (k := 9) (v := nI (q 9)) dX2_write_17 rfl fX2_69 (hr.a (a := 118) rfl (by decide) rfl).1 (by decide) (hr.hi (by decide)) (pq_q _ _ _ _ _) ?_
    refine j_iload_n (n := 21) dX2_write_20 rfl rfl ?_
    refine j_iastN (n := 22) (L := 96) (a := 120) (i := q 9) (x := x) (M2 := pq M q (upd R (q 9) x) o) dX2_write_21 rfl (hr.a (a := 120) rfl (by decide) rfl).1 (hr.a (a := 120) rfl (by decide) rfl).2 (by omega) (by decide) (by decide) (hr.hi (by decide)) (pq_wR _ _ _ _ _ _) ?_
    refine j_aload_n (n := 23) dX2_write_22 rfl rfl ?_
    refine j_dup (n := 24) dX2_write_23 rfl rfl ?_
    refine jc_get (n := 27) (k := 9) (v := nI (q 9)) dX2_write_24 rfl fX2_69 (hr.a (a := 118) rfl (by decide) rfl).1 (by decide) (hr.hi (by decide)) (pq_q _ _ _ _ _) ?_
    refine j_iconst (n := 28) (v := nI 1) dX2_write_27 rfl rfl ?_
    refine j_iaddN (n := 29) (c := q 9 + 1) dX2_write_28 rfl rfl ?_
    refine jc_put (n := 32) (k := 9) (x := nI (q 9 + 1)) (M2 := pq M (pu q 9 (q 9 + 1)) (upd R (q 9) x) o) dX2_write_29 rfl pX2_69 (fun h => by cases h) rfl rfl (hr.a (a := 118) rfl (by decide) rfl).1 (by decide) (hr.hi (by decide)) (pq_wq rfl) ?_
    exact j_rv dX2_write_32 rfl (Nat.le_refl _) (Nat.le_refl _) rfl rfl
