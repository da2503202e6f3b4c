-- CLASS E: by program (wip/whole/gen/c5.py)
theorem as_eq {c e : Nat → Nat} {i : Nat} (hi : i < 100) (h0 : e 0 ≤ 8) (h8 : e 8 ≤ 10) : pu (pu (pu (pu (pu (pu (pu (pu (cpP (pu (cpP (pu c 0 (e 0)) e 10 (5 * e 0)) 8 (e 8)) e 50 (5 * e 8)) 1 (e 1)) 6 (e 6)) 7 (e 7)) 3 (e 3)) 4 (e 4)) 5 (e 5)) 2 (e 2)) 9 (e 9) i = asP c e i := by
  unfold asP
  by_cases h10 : i < 10
  · rw [if_pos h10]
    have : i = 0 ∨ i = 1 ∨ i = 2 ∨ i = 3 ∨ i = 4 ∨ i = 5 ∨ i = 6 ∨ i = 7 ∨ i = 8 ∨ i = 9 := by omega
    rcases this with rfl | rfl | rfl | rfl | rfl | rfl | rfl | rfl | rfl | rfl <;> (unfold cpP; (repeat (first | rw [pu_eq] | rw [pu_ne _ _ (by omega)] | rw [if_neg (by omega)])))
  · rw [if_neg h10]
    (repeat rw [pu_ne _ _ (by omega)])
    unfold cpP
    by_cases h50 : i < 50
    · rw [if_pos h50, if_neg (by omega), pu_ne _ _ (by omega)]
      by_cases h1 : i < 10 + 5 * e 0
      · rw [if_pos h1, if_pos (by omega)]
      · rw [if_neg h1, if_neg (by omega), pu_ne _ _ (by omega)]
    · rw [if_neg h50, if_pos hi]
      by_cases h1 : i < 50 + 5 * e 8
      · rw [if_pos h1, if_pos (by omega)]
      · rw [if_neg h1, if_neg (by omega), pu_ne _ _ (by omega), if_neg (by omega), pu_ne _ _ (by omega)]
theorem c_becomeAsT (d : Nat) (G : zG) (M : zMem) (X : zX) (B F : Nat) (hT : kT X B) (hF : kT X F) (hBF : F + 31 ≤ B ∨ B + 31 ≤ F) (c e : Nat → Nat) (he : wfO e) (hel : wfL e) (hR : tR X F) : zCall G miX7_becomeAs (d + 2) [.ref B, .ref F] (zV (cm (cm M F e) B (asP c e)) (cpX X B F)) (cm (cm M F e) B c) X 0 0 := by
  refine zCall.of (lv := [some (.ref B), some (.ref F), none]) (by decide) (Nat.le_of_ble_eq_true rfl) rfl ?_
  have hB1 := hT.lo
  have hF1 := hF.lo
  have h0 := he.1
  have h8 := hel.1
  have eD : ∀ q : Nat → Nat, (∀ i, i < 100 → pu (pu (pu (pu (pu (pu (pu q 6 (e 6)) 7 (e 7)) 3 (e 3)) 4 (e 4)) 5 (e 5)) 2 (e 2)) 9 (e 9) i = asP c e i) → zAt G miX7_becomeAs (zRm (d + 2) 0 0) (zQ G (zV (cm (cm M F e) B (asP c e)) (cpX X B F)) 0 0) 137 [some (.ref B), some (.ref F), none] [] (cm (cm M F e) B q) (cpX X B F) (0, 0) := by
    intro q hq
    have hT2 : kT (cpX X B F) B := kT_cpX hT (.inl rfl)
    have hF2 : kT (cpX X B F) F := kT_cpX hF (by omega)
    refine j_aload_n (n := 138) dX7_becomeAs_137 rfl rfl ?_
    refine j_aload_n (n := 139) dX7_becomeAs_138 rfl rfl ?_
    refine jc_get (n := 142) (k := 7) (v := nI (e 6)) dX7_becomeAs_139 rfl fX7_32 (hF2).c (hF2).lo ((hF2).hi (by omega)) ((cm_k (ix_far hBF (ix_t rfl))).trans (cm_r (ix_t rfl))) ?_
    refine jc_put (n := 145) (k := 7) (x := nI (e 6)) (M2 := cm (cm M F e) B (pu q 6 (e 6))) dX7_becomeAs_142 rfl pX7_32 (fun h => by cases h) rfl rfl (hT2).c (hT2).lo ((hT2).hi (by omega)) (cm_w (ix_t rfl) _) ?_
    refine j_aload_n (n := 146) dX7_becomeAs_145 rfl rfl ?_
    refine j_aload_n (n := 147) dX7_becomeAs_146 rfl rfl ?_
    refine jc_get (n := 150) (k := 8) (v := nI (e 7)) dX7_becomeAs_147 rfl fX7_36 (hF2).c (hF2).lo ((hF2).hi (by omega)) ((cm_k (ix_far hBF (ix_t rfl))).trans (cm_r (ix_t rfl))) ?_
    refine jc_put (n := 153) (k := 8) (x := nI (e 7)) (M2 := cm (cm M F e) B (pu (pu q 6 (e 6)) 7 (e 7))) dX7_becomeAs_150 rfl pX7_36 (fun h => by cases h) rfl rfl (hT2).c (hT2).lo ((hT2).hi (by omega)) (cm_w (ix_t rfl) _) ?_
    refine j_aload_n (n := 154) dX7_becomeAs_153 rfl rfl ?_
    refine j_aload_n (n := 155) dX7_becomeAs_154 rfl rfl ?_
    refine jc_get (n := 158) (k := 9) (v := nI (e 3)) dX7_becomeAs_155 rfl fX7_60 (hF2).c (hF2).lo ((hF2).hi (by omega)) ((cm_k (ix_far hBF (ix_t rfl))).trans (cm_r (ix_t rfl))) ?_
    refine jc_put (n := 161) (k := 9) (x := nI (e 3)) (M2 := cm (cm M F e) B (pu (pu (pu q 6 (e 6)) 7 (e 7)) 3 (e 3))) dX7_becomeAs_158 rfl pX7_60 (fun h => by cases h) rfl rfl (hT2).c (hT2).lo ((hT2).hi (by omega)) (cm_w (ix_t rfl) _) ?_
    refine j_aload_n (n := 162) dX7_becomeAs_161 rfl rfl ?_
    refine j_aload_n (n := 163) dX7_becomeAs_162 rfl rfl ?_
    refine jc_get (n := 166) (k := 10) (v := nI (e 4)) dX7_becomeAs_163 rfl fX7_63 (hF2).c (hF2).lo ((hF2).hi (by omega)) ((cm_k (ix_far hBF (ix_t rfl))).trans (cm_r (ix_t rfl))) ?_
    refine jc_put (n := 169) (k := 10) (x := nI (e 4)) (M2 := cm (cm M F e) B (pu (pu (pu (pu q 6 (e 6)) 7 (e 7)) 3 (e 3)) 4 (e 4))) dX7_becomeAs_166 rfl pX7_63 (fun h => by cases h) rfl rfl (hT2).c (hT2).lo ((hT2).hi (by omega)) (cm_w (ix_t rfl) _) ?_
    refine j_aload_n (n := 170) dX7_becomeAs_169 rfl rfl ?_
    refine j_aload_n (n := 171) dX7_becomeAs_170 rfl rfl ?_
    refine jc_get (n := 174) (k := 11) (v := nI (e 5)) dX7_becomeAs_171 rfl fX7_66 (hF2).c (hF2).lo ((hF2).hi (by omega)) ((cm_k (ix_far hBF (ix_t rfl))).trans (cm_r (ix_t rfl))) ?_
    refine jc_put (n := 177) (k := 11) (x := nI (e 5)) (M2 := cm (cm M F e) B (pu (pu (pu (pu (pu q 6 (e 6)) 7 (e 7)) 3 (e 3)) 4 (e 4)) 5 (e 5))) dX7_becomeAs_174 rfl pX7_66 (fun h => by cases h) rfl rfl (hT2).c (hT2).lo ((hT2).hi (by omega)) (cm_w (ix_t rfl) _) ?_
    refine j_aload_n (n := 178) dX7_becomeAs_177 rfl rfl ?_
    refine j_aload_n (n := 179) dX7_becomeAs_178 rfl rfl ?_
    refine jc_get (n := 182) (k := 12) (v := nI (e 2)) dX7_becomeAs_179 rfl fX7_69 (hF2).c (hF2).lo ((hF2).hi (by omega)) ((cm_k (ix_far hBF (ix_t rfl))).trans (cm_r (ix_t rfl))) ?_
    refine jc_put (n := 185) (k := 12) (x := nI (e 2)) (M2 := cm (cm M F e) B (pu (pu (pu (pu (pu (pu q 6 (e 6)) 7 (e 7)) 3 (e 3)) 4 (e 4)) 5 (e 5)) 2 (e 2))) dX7_becomeAs_182 rfl pX7_69 (fun h => by cases h) rfl rfl (hT2).c (hT2).lo ((hT2).hi (by omega)) (cm_w (ix_t rfl) _) ?_
    refine j_aload_n (n := 186) dX7_becomeAs_185 rfl rfl ?_
    refine j_aload_n (n := 187) dX7_becomeAs_186 rfl rfl ?_
    refine jc_get (n := 190) (k := 13) (v := nI (e 9)) dX7_becomeAs_187 rfl fX7_39 (hF2).c (hF2).lo ((hF2).hi (by omega)) ((cm_k (ix_far hBF (ix_t rfl))).trans (cm_r (ix_t rfl))) ?_
    refine jc_put (n := 193) (k := 13) (x := nI (e 9)) (M2 := cm (cm M F e) B (pu (pu (pu (pu (pu (pu (pu q 6 (e 6)) 7 (e 7)) 3 (e 3)) 4 (e 4)) 5 (e 5)) 2 (e 2)) 9 (e 9))) dX7_becomeAs_190 rfl pX7_39 (fun h => by cases h) rfl rfl (hT2).c (hT2).lo ((hT2).hi (by omega)) (cm_w (ix_t rfl) _) ?_
    exact j_rv dX7_becomeAs_193 rfl (Nat.le_refl _) (Nat.le_refl _) (cm_lo hq) rfl
  have eC : ∀ (q : Nat → Nat) (X0 : zX), kT X0 B → kT X0 F → tR X0 F → (zAt G miX7_becomeAs (zRm (d + 2) 0 0) (zQ G (zV (cm (cm M F e) B (asP c e)) (cpX X B F)) 0 0) 137 [some (.ref B), some (.ref F), none] [] (cm (cm M F e) B q) (zsR X0 (B + 4) (cpO (xR X0 (F + 4)) (xR X0 (B + 4)) 3)) (0, 0)) → ∀ (j k : Nat), 3 - k = j → k ≤ 3 → zAt G miX7_becomeAs (zRm (d + 2) 0 0) (zQ G (zV (cm (cm M F e) B (asP c e)) (cpX X B F)) 0 0) 114 [some (.ref B), some (.ref F), some (.int (nI k))] [] (cm (cm M F e) B q) (zsR X0 (B + 4) (cpO (xR X0 (F + 4)) (xR X0 (B + 4)) k)) (0, 0) := by
    intro q X0 hT0 hF0 hR0 cont j
    induction j using Nat.strongRecOn with
    | ind j ih =>
      intro k hj hk0
      have hT2 : kT (zsR X0 (B + 4) (cpO (xR X0 (F + 4)) (xR X0 (B + 4)) k)) B := kT_R hT0 _ (by omega)
      have hF2 : kT (zsR X0 (B + 4) (cpO (xR X0 (F + 4)) (xR X0 (B + 4)) k)) F := kT_R hF0 _ (by omega)
      have eF : xR (zsR X0 (B + 4) (cpO (xR X0 (F + 4)) (xR X0 (B + 4)) k)) (F + 4) = xR X0 (F + 4) := zsR_ne _ _ (by omega)
      have eB : xR (zsR X0 (B + 4) (cpO (xR X0 (F + 4)) (xR X0 (B + 4)) k)) (B + 4) = cpO (xR X0 (F + 4)) (xR X0 (B + 4)) k := zsR_eq _ _ _
      refine j_iload_n (n := 115) dX7_becomeAs_114 rfl rfl ?_
      refine j_iconst (n := 116) (v := nI 3) dX7_becomeAs_115 rfl rfl ?_
      refine j_icmp_geT (n := 119) (tg := 137) dX7_becomeAs_116 rfl rfl (i_N (by omega)) (i_N (by omega)) (fun h101 => ?_) (fun h101 => ?_)
      · have ek : k = 3 := by omega
        subst ek
        refine j_wk (lv2 := [some (.ref B), some (.ref F), none]) ⟨rfl, rfl, trivial⟩ ?_
        exact cont
      · refine j_aload_n (n := 120) dX7_becomeAs_119 rfl rfl ?_
        refine j_getr (n := 123) (k := 6) (b := B + 4) dX7_becomeAs_120 rfl fX7_29 (hT2).c (hT2).lo ((hT2).hi (by omega)) (hT2).r6 ?_
        refine j_iload_n (n := 124) dX7_becomeAs_123 rfl rfl ?_
        refine j_aload_n (n := 125) dX7_becomeAs_124 rfl rfl ?_
        refine j_getr (n := 128) (k := 6) (b := F + 4) dX7_becomeAs_125 rfl fX7_29 (hF2).c (hF2).lo ((hF2).hi (by omega)) (hF2).r6 ?_
        refine j_iload_n (n := 129) dX7_becomeAs_128 rfl rfl ?_
        cases hb : xR X0 (F + 4) k with
        | none =>
          refine jc_aaldN (n := 130) (t := 4) (L := 3) (i := k) dX7_becomeAs_129 rfl ((hF2).a4).1 (by decide) rfl ((hF2).a4).2 (by omega) (by decide) (by have := (hF2).lo; omega) ((hF2).hi (by omega)) (by rw [eF, hb]) ?_
          refine j_aastN (n := 131) (t := 4) (L := 3) dX7_becomeAs_130 rfl ((hT2).a4).1 (by decide) rfl ((hT2).a4).2 (vp_inN (by omega) (by decide)) (by have := (hT2).lo; omega) ((hT2).hi (by omega)) ?_
          have eX : zsR (zsR X0 (B + 4) (cpO (xR X0 (F + 4)) (xR X0 (B + 4)) k)) (B + 4) (zup (xR (zsR X0 (B + 4) (cpO (xR X0 (F + 4)) (xR X0 (B + 4)) k)) (B + 4)) (nI k).toNatClampNeg none) = zsR X0 (B + 4) (cpO (xR X0 (F + 4)) (xR X0 (B + 4)) (k + 1)) := by rw [eB, zsR_zsR, nI_clamp (by omega), ← hb, cpO_s]
          rw [eX]
          refine j_iinc (n := 134) (y := nI (k + 1)) (lv2 := [some (.ref B), some (.ref F), some (.int (nI (k + 1)))]) dX7_becomeAs_131 rfl rfl (by decide) rfl (show nI k + nI 1 = nI (k + 1) by rw [nI_add]) rfl ?_
          refine j_goto (n := 114) dX7_becomeAs_134 rfl ?_
          exact ih _ (by omega) (k + 1) rfl (by omega)
        | some b =>
          have hbb := hR0 k b (.inr hb)
          refine jc_aald (n := 130) (t := 4) (L := 3) (i := k) (b := b) dX7_becomeAs_129 rfl ((hF2).a4).1 (by decide) rfl ((hF2).a4).2 (by omega) (by decide) (by have := (hF2).lo; omega) ((hF2).hi (by omega)) (by rw [eF, hb]) ?_
          refine j_aast (n := 131) (c := 5) (t := 4) (L := 3) dX7_becomeAs_130 rfl ((hT2).a4).1 (by decide) rfl ((hT2).a4).2 (vp_inN (by omega) (by decide)) (by have := (hT2).lo; omega) ((hT2).hi (by omega)) hbb.1 rfl (by decide) (by omega) hbb.2.2 ?_
          have eX : zsR (zsR X0 (B + 4) (cpO (xR X0 (F + 4)) (xR X0 (B + 4)) k)) (B + 4) (zup (xR (zsR X0 (B + 4) (cpO (xR X0 (F + 4)) (xR X0 (B + 4)) k)) (B + 4)) (nI k).toNatClampNeg (some b)) = zsR X0 (B + 4) (cpO (xR X0 (F + 4)) (xR X0 (B + 4)) (k + 1)) := by rw [eB, zsR_zsR, nI_clamp (by omega), ← hb, cpO_s]
          rw [eX]
          refine j_iinc (n := 134) (y := nI (k + 1)) (lv2 := [some (.ref B), some (.ref F), some (.int (nI (k + 1)))]) dX7_becomeAs_131 rfl rfl (by decide) rfl (show nI k + nI 1 = nI (k + 1) by rw [nI_add]) rfl ?_
          refine j_goto (n := 114) dX7_becomeAs_134 rfl ?_
          exact ih _ (by omega) (k + 1) rfl (by omega)
  have eB : ∀ (q : Nat → Nat) (X0 : zX), kT X0 B → kT X0 F → tR X0 F → (zAt G miX7_becomeAs (zRm (d + 2) 0 0) (zQ G (zV (cm (cm M F e) B (asP c e)) (cpX X B F)) 0 0) 112 [some (.ref B), some (.ref F), none] [] (cm (cm M F e) B q) (zsR X0 (B + 3) (cpO (xR X0 (F + 3)) (xR X0 (B + 3)) 14)) (0, 0)) → ∀ (j k : Nat), 14 - k = j → k ≤ 14 → zAt G miX7_becomeAs (zRm (d + 2) 0 0) (zQ G (zV (cm (cm M F e) B (asP c e)) (cpX X B F)) 0 0) 88 [some (.ref B), some (.ref F), some (.int (nI k))] [] (cm (cm M F e) B q) (zsR X0 (B + 3) (cpO (xR X0 (F + 3)) (xR X0 (B + 3)) k)) (0, 0) := by
    intro q X0 hT0 hF0 hR0 cont j
    induction j using Nat.strongRecOn with
    | ind j ih =>
      intro k hj hk0
      have hT2 : kT (zsR X0 (B + 3) (cpO (xR X0 (F + 3)) (xR X0 (B + 3)) k)) B := kT_R hT0 _ (by omega)
      have hF2 : kT (zsR X0 (B + 3) (cpO (xR X0 (F + 3)) (xR X0 (B + 3)) k)) F := kT_R hF0 _ (by omega)
      have eF : xR (zsR X0 (B + 3) (cpO (xR X0 (F + 3)) (xR X0 (B + 3)) k)) (F + 3) = xR X0 (F + 3) := zsR_ne _ _ (by omega)
      have eB : xR (zsR X0 (B + 3) (cpO (xR X0 (F + 3)) (xR X0 (B + 3)) k)) (B + 3) = cpO (xR X0 (F + 3)) (xR X0 (B + 3)) k := zsR_eq _ _ _
      refine j_iload_n (n := 89) dX7_becomeAs_88 rfl rfl ?_
      refine j_bipush (n := 91) (v := nI 14) dX7_becomeAs_89 rfl (by decide) ?_
      refine j_icmp_geT (n := 94) (tg := 112) dX7_becomeAs_91 rfl rfl (i_N (by omega)) (i_N (by omega)) (fun h102 => ?_) (fun h102 => ?_)
      · have ek : k = 14 := by omega
        subst ek
        refine j_wk (lv2 := [some (.ref B), some (.ref F), none]) ⟨rfl, rfl, trivial⟩ ?_
        exact cont
      · refine j_aload_n (n := 95) dX7_becomeAs_94 rfl rfl ?_
        refine j_getr (n := 98) (k := 4) (b := B + 3) dX7_becomeAs_95 rfl fX7_25 (hT2).c (hT2).lo ((hT2).hi (by omega)) (hT2).r4 ?_
        refine j_iload_n (n := 99) dX7_becomeAs_98 rfl rfl ?_
        refine j_aload_n (n := 100) dX7_becomeAs_99 rfl rfl ?_
        refine j_getr (n := 103) (k := 4) (b := F + 3) dX7_becomeAs_100 rfl fX7_25 (hF2).c (hF2).lo ((hF2).hi (by omega)) (hF2).r4 ?_
        refine j_iload_n (n := 104) dX7_becomeAs_103 rfl rfl ?_
        cases hb : xR X0 (F + 3) k with
        | none =>
          refine jc_aaldN (n := 105) (t := 4) (L := 14) (i := k) dX7_becomeAs_104 rfl ((hF2).a3).1 (by decide) rfl ((hF2).a3).2 (by omega) (by decide) (by have := (hF2).lo; omega) ((hF2).hi (by omega)) (by rw [eF, hb]) ?_
          refine j_aastN (n := 106) (t := 4) (L := 14) dX7_becomeAs_105 rfl ((hT2).a3).1 (by decide) rfl ((hT2).a3).2 (vp_inN (by omega) (by decide)) (by have := (hT2).lo; omega) ((hT2).hi (by omega)) ?_
          have eX : zsR (zsR X0 (B + 3) (cpO (xR X0 (F + 3)) (xR X0 (B + 3)) k)) (B + 3) (zup (xR (zsR X0 (B + 3) (cpO (xR X0 (F + 3)) (xR X0 (B + 3)) k)) (B + 3)) (nI k).toNatClampNeg none) = zsR X0 (B + 3) (cpO (xR X0 (F + 3)) (xR X0 (B + 3)) (k + 1)) := by rw [eB, zsR_zsR, nI_clamp (by omega), ← hb, cpO_s]
          rw [eX]
          refine j_iinc (n := 109) (y := nI (k + 1)) (lv2 := [some (.ref B), some (.ref F), some (.int (nI (k + 1)))]) dX7_becomeAs_106 rfl rfl (by decide) rfl (show nI k + nI 1 = nI (k + 1) by rw [nI_add]) rfl ?_
          refine j_goto (n := 88) dX7_becomeAs_109 rfl ?_
          exact ih _ (by omega) (k + 1) rfl (by omega)
        | some b =>
          have hbb := hR0 k b (.inl hb)
          refine jc_aald (n := 105) (t := 4) (L := 14) (i := k) (b := b) dX7_becomeAs_104 rfl ((hF2).a3).1 (by decide) rfl ((hF2).a3).2 (by omega) (by decide) (by have := (hF2).lo; omega) ((hF2).hi (by omega)) (by rw [eF, hb]) ?_
          refine j_aast (n := 106) (c := 5) (t := 4) (L := 14) dX7_becomeAs_105 rfl ((hT2).a3).1 (by decide) rfl ((hT2).a3).2 (vp_inN (by omega) (by decide)) (by have := (hT2).lo; omega) ((hT2).hi (by omega)) hbb.1 rfl (by decide) (by omega) hbb.2.2 ?_
          have eX : zsR (zsR X0 (B + 3) (cpO (xR X0 (F + 3)) (xR X0 (B + 3)) k)) (B + 3) (zup (xR (zsR X0 (B + 3) (cpO (xR X0 (F + 3)) (xR X0 (B + 3)) k)) (B + 3)) (nI k).toNatClampNeg (some b)) = zsR X0 (B + 3) (cpO (xR X0 (F + 3)) (xR X0 (B + 3)) (k + 1)) := by rw [eB, zsR_zsR, nI_clamp (by omega), ← hb, cpO_s]
          rw [eX]
          refine j_iinc (n := 109) (y := nI (k + 1)) (lv2 := [some (.ref B), some (.ref F), some (.int (nI (k + 1)))]) dX7_becomeAs_106 rfl rfl (by decide) rfl (show nI k + nI 1 = nI (k + 1) by rw [nI_add]) rfl ?_
          refine j_goto (n := 88) dX7_becomeAs_109 rfl ?_
          exact ih _ (by omega) (k + 1) rfl (by omega)
  have e78 : zAt G miX7_becomeAs (zRm (d + 2) 0 0) (zQ G (zV (cm (cm M F e) B (asP c e)) (cpX X B F)) 0 0) 78 [some (.ref B), some (.ref F), none] [] (cm (cm M F e) B (cpP (pu (cpP (pu c 0 (e 0)) e 10 (5 * e 0)) 8 (e 8)) e 50 (5 * e 8))) X (0, 0) := by
    refine j_aload_n (n := 79) dX7_becomeAs_78 rfl rfl ?_
    refine j_aload_n (n := 80) dX7_becomeAs_79 rfl rfl ?_
    refine jc_get (n := 83) (k := 5) (v := nI (e 1)) dX7_becomeAs_80 rfl fX7_57 (hF).c (hF).lo ((hF).hi (by omega)) ((cm_k (ix_far hBF (ix_t rfl))).trans (cm_r (ix_t rfl))) ?_
    refine jc_put (n := 86) (k := 5) (x := nI (e 1)) (M2 := cm (cm M F e) B (pu (cpP (pu (cpP (pu c 0 (e 0)) e 10 (5 * e 0)) 8 (e 8)) e 50 (5 * e 8)) 1 (e 1))) dX7_becomeAs_83 rfl pX7_57 (fun h => by cases h) rfl rfl (hT).c (hT).lo ((hT).hi (by omega)) (cm_w (ix_t rfl) _) ?_
    refine j_iconst (n := 87) (v := nI 0) dX7_becomeAs_86 rfl rfl ?_
    refine j_istore_n (n := 88) (lv2 := [some (.ref B), some (.ref F), some (.int (nI 0))]) dX7_becomeAs_87 rfl rfl (by decide) rfl ?_
    have hX0 : zsR X (B + 3) (cpO (xR X (F + 3)) (xR X (B + 3)) 0) = X := by rw [cpO_0, zsR_id]
    have g := eB (pu (cpP (pu (cpP (pu c 0 (e 0)) e 10 (5 * e 0)) 8 (e 8)) e 50 (5 * e 8)) 1 (e 1)) X hT hF hR ?_ 14 0 rfl (Nat.zero_le _)
    · rw [hX0] at g; exact g
    · refine j_iconst (n := 113) (v := nI 0) dX7_becomeAs_112 rfl rfl ?_
      refine j_istore_n (n := 114) (lv2 := [some (.ref B), some (.ref F), some (.int (nI 0))]) dX7_becomeAs_113 rfl rfl (by decide) rfl ?_
      have hT1 : kT (zsR X (B + 3) (cpO (xR X (F + 3)) (xR X (B + 3)) 14)) B := kT_R hT _ (by omega)
      have hF1 : kT (zsR X (B + 3) (cpO (xR X (F + 3)) (xR X (B + 3)) 14)) F := kT_R hF _ (by omega)
      have hR1 : tR (zsR X (B + 3) (cpO (xR X (F + 3)) (xR X (B + 3)) 14)) F := fun k b hb => hR k b (by rw [zsR_ne _ _ (by omega), zsR_ne _ _ (by omega)] at hb; exact hb)
      have hX1 : zsR (zsR X (B + 3) (cpO (xR X (F + 3)) (xR X (B + 3)) 14)) (B + 4) (cpO (xR (zsR X (B + 3) (cpO (xR X (F + 3)) (xR X (B + 3)) 14)) (F + 4)) (xR (zsR X (B + 3) (cpO (xR X (F + 3)) (xR X (B + 3)) 14)) (B + 4)) 0) = zsR X (B + 3) (cpO (xR X (F + 3)) (xR X (B + 3)) 14) := by rw [cpO_0, zsR_id]
      have g := eC (pu (cpP (pu (cpP (pu c 0 (e 0)) e 10 (5 * e 0)) 8 (e 8)) e 50 (5 * e 8)) 1 (e 1)) (zsR X (B + 3) (cpO (xR X (F + 3)) (xR X (B + 3)) 14)) hT1 hF1 hR1 ?_ 3 0 rfl (Nat.zero_le _)
      · rw [hX1] at g; exact g
      · have eX : zsR (zsR X (B + 3) (cpO (xR X (F + 3)) (xR X (B + 3)) 14)) (B + 4) (cpO (xR (zsR X (B + 3) (cpO (xR X (F + 3)) (xR X (B + 3)) 14)) (F + 4)) (xR (zsR X (B + 3) (cpO (xR X (F + 3)) (xR X (B + 3)) 14)) (B + 4)) 3) = cpX X B F := by unfold cpX; rw [zsR_ne _ _ (by omega), zsR_ne _ _ (by omega)]
        rw [eX]
        refine eD _ (fun i hi => ?_)
        exact as_eq hi h0 h8
  have eL : ∀ (j k : Nat), e 8 - k = j → k ≤ e 8 → zAt G miX7_becomeAs (zRm (d + 2) 0 0) (zQ G (zV (cm (cm M F e) B (asP c e)) (cpX X B F)) 0 0) 49 [some (.ref B), some (.ref F), some (.int (nI k))] [] (cm (cm M F e) B (cpP (pu (cpP (pu c 0 (e 0)) e 10 (5 * e 0)) 8 (e 8)) e 50 (5 * k))) X (0, 0) := by
    intro j
    induction j using Nat.strongRecOn with
    | ind j ih =>
      intro k hj hk0
      have hq8 : cpP (pu (cpP (pu c 0 (e 0)) e 10 (5 * e 0)) 8 (e 8)) e 50 (5 * k) 8 = e 8 := by unfold cpP; rw [if_neg (by omega), pu_eq]
      refine j_iload_n (n := 50) dX7_becomeAs_49 rfl rfl ?_
      refine j_aload_n (n := 51) dX7_becomeAs_50 rfl rfl ?_
      refine jc_get (n := 54) (k := 3) (v := nI (e 8)) dX7_becomeAs_51 rfl fX7_51 (hT).c (hT).lo ((hT).hi (by omega)) ((cm_r (ix_t rfl)).trans (congrArg nI hq8)) ?_
      refine j_icmp_geT (n := 57) (tg := 78) dX7_becomeAs_54 rfl rfl (i_N (by omega)) (i_N (by omega)) (fun h103 => ?_) (fun h103 => ?_)
      · have ek : k = e 8 := by omega
        rw [ek]
        refine j_wk (lv2 := [some (.ref B), some (.ref F), none]) ⟨rfl, rfl, trivial⟩ ?_
        exact e78
      · have hl := hel.2 k (by omega)
        refine j_aload_n (n := 58) dX7_becomeAs_57 rfl rfl ?_
        refine j_getr (n := 61) (k := 2) (b := B + 2) dX7_becomeAs_58 rfl fX7_19 (hT).c (hT).lo ((hT).hi (by omega)) (hT).r2 ?_
        refine j_iload_n (n := 62) dX7_becomeAs_61 rfl rfl ?_
        refine jc_aald (n := 63) (t := 3) (L := 10) (i := k) (b := B + 21 + k) dX7_becomeAs_62 rfl ((hT).a2).1 (by decide) rfl ((hT).a2).2 (by omega) (by decide) (by have := (hT).lo; omega) ((hT).hi (by omega)) ((hT).e2 (by omega)) ?_
        refine j_aload_n (n := 64) dX7_becomeAs_63 rfl rfl ?_
        refine j_getr (n := 67) (k := 2) (b := F + 2) dX7_becomeAs_64 rfl fX7_19 (hF).c (hF).lo ((hF).hi (by omega)) (hF).r2 ?_
        refine j_iload_n (n := 68) dX7_becomeAs_67 rfl rfl ?_
        refine jc_aald (n := 69) (t := 3) (L := 10) (i := k) (b := F + 21 + k) dX7_becomeAs_68 rfl ((hF).a2).1 (by decide) rfl ((hF).a2).2 (by omega) (by decide) (by have := (hF).lo; omega) ((hF).hi (by omega)) ((hF).e2 (by omega)) ?_
        refine j_cVv (n := 72) dX7_becomeAs_69 rfl sX7_54 (c_becomeAsL d G _ _ (B + 21 + k) ⟨((hT).l (by omega)), (by have := (hT).lo; omega), ((hT).hi (by omega))⟩ (F + 21 + k) ⟨((hF).l (by omega)), (by have := (hF).lo; omega), ((hF).hi (by omega))⟩ (by omega) (e (50 + 5 * k + 4)) ((cm_k (ix_far hBF (ix_l (by omega) (by decide) rfl))).trans (cm_r (ix_l (by omega) (by decide) rfl))) (by omega)) (by omega) (by decide) rfl rfl (Nat.le_of_ble_eq_true rfl) ((hT).l (by omega)) (by have := (hT).lo; omega) ((hT).hi (by omega)) (by decide) (by decide) ?_
        refine j_mem (M2 := cm (cm M F e) B (pu (pu (pu (pu (pu (cpP (pu (cpP (pu c 0 (e 0)) e 10 (5 * e 0)) 8 (e 8)) e 50 (5 * k)) (50 + 5 * k + 0) (e (50 + 5 * k + 0))) (50 + 5 * k + 1) (e (50 + 5 * k + 1))) (50 + 5 * k + 2) (e (50 + 5 * k + 2))) (50 + 5 * k + 3) (e (50 + 5 * k + 3))) (50 + 5 * k + 4) (e (50 + 5 * k + 4)))) (by rw [show _ = nI (e (50 + 5 * k + 0)) from ((cm_k (ix_far hBF (ix_l (by omega) (by decide) rfl))).trans (cm_r (ix_l (by omega) (by decide) rfl))), show _ = nI (e (50 + 5 * k + 1)) from ((cm_k (ix_far hBF (ix_l (by omega) (by decide) rfl))).trans (cm_r (ix_l (by omega) (by decide) rfl))), show _ = nI (e (50 + 5 * k + 2)) from ((cm_k (ix_far hBF (ix_l (by omega) (by decide) rfl))).trans (cm_r (ix_l (by omega) (by decide) rfl))), show _ = nI (e (50 + 5 * k + 3)) from ((cm_k (ix_far hBF (ix_l (by omega) (by decide) rfl))).trans (cm_r (ix_l (by omega) (by decide) rfl)))]; exact cm_bl (by omega)) ?_
        refine j_iinc (n := 75) (y := nI (k + 1)) (lv2 := [some (.ref B), some (.ref F), some (.int (nI (k + 1)))]) dX7_becomeAs_72 rfl rfl (by decide) rfl (show nI k + nI 1 = nI (k + 1) by rw [nI_add]) rfl ?_
        refine j_goto (n := 49) dX7_becomeAs_75 rfl ?_
        refine j_mem (M2 := cm (cm M F e) B (cpP (pu (cpP (pu c 0 (e 0)) e 10 (5 * e 0)) 8 (e 8)) e 50 (5 * (k + 1)))) (congrArg (cm _ B) (cpP_5 _ _ _ _)) ?_
        exact ih _ (by omega) (k + 1) rfl (by omega)
  have e39 : zAt G miX7_becomeAs (zRm (d + 2) 0 0) (zQ G (zV (cm (cm M F e) B (asP c e)) (cpX X B F)) 0 0) 39 [some (.ref B), some (.ref F), none] [] (cm (cm M F e) B (cpP (pu c 0 (e 0)) e 10 (5 * e 0))) X (0, 0) := by
    refine j_aload_n (n := 40) dX7_becomeAs_39 rfl rfl ?_
    refine j_aload_n (n := 41) dX7_becomeAs_40 rfl rfl ?_
    refine jc_get (n := 44) (k := 3) (v := nI (e 8)) dX7_becomeAs_41 rfl fX7_51 (hF).c (hF).lo ((hF).hi (by omega)) ((cm_k (ix_far hBF (ix_t rfl))).trans (cm_r (ix_t rfl))) ?_
    refine jc_put (n := 47) (k := 3) (x := nI (e 8)) (M2 := cm (cm M F e) B (pu (cpP (pu c 0 (e 0)) e 10 (5 * e 0)) 8 (e 8))) dX7_becomeAs_44 rfl pX7_51 (fun h => by cases h) rfl rfl (hT).c (hT).lo ((hT).hi (by omega)) (cm_w (ix_t rfl) _) ?_
    refine j_iconst (n := 48) (v := nI 0) dX7_becomeAs_47 rfl rfl ?_
    refine j_istore_n (n := 49) (lv2 := [some (.ref B), some (.ref F), some (.int (nI 0))]) dX7_becomeAs_48 rfl rfl (by decide) rfl ?_
    have g := eL _ 0 rfl (Nat.zero_le _)
    rw [Nat.mul_zero, cpP_0] at g
    exact g
  have eP : ∀ (j k : Nat), e 0 - k = j → k ≤ e 0 → zAt G miX7_becomeAs (zRm (d + 2) 0 0) (zQ G (zV (cm (cm M F e) B (asP c e)) (cpX X B F)) 0 0) 10 [some (.ref B), some (.ref F), some (.int (nI k))] [] (cm (cm M F e) B (cpP (pu c 0 (e 0)) e 10 (5 * k))) X (0, 0) := by
    intro j
    induction j using Nat.strongRecOn with
    | ind j ih =>
      intro k hj hk0
      have hq0 : cpP (pu c 0 (e 0)) e 10 (5 * k) 0 = e 0 := by unfold cpP; rw [if_neg (by omega), pu_eq]
      refine j_iload_n (n := 11) dX7_becomeAs_10 rfl rfl ?_
      refine j_aload_n (n := 12) dX7_becomeAs_11 rfl rfl ?_
      refine jc_get (n := 15) (k := 1) (v := nI (e 0)) dX7_becomeAs_12 rfl fX7_44 (hT).c (hT).lo ((hT).hi (by omega)) ((cm_r (ix_t rfl)).trans (congrArg nI hq0)) ?_
      refine j_icmp_geT (n := 18) (tg := 39) dX7_becomeAs_15 rfl rfl (i_N (by omega)) (i_N (by omega)) (fun h104 => ?_) (fun h104 => ?_)
      · have ek : k = e 0 := by omega
        rw [ek]
        refine j_wk (lv2 := [some (.ref B), some (.ref F), none]) ⟨rfl, rfl, trivial⟩ ?_
        exact e39
      · refine j_aload_n (n := 19) dX7_becomeAs_18 rfl rfl ?_
        refine j_getr (n := 22) (k := 0) (b := B + 1) dX7_becomeAs_19 rfl fX7_11 (hT).c (hT).lo ((hT).hi (by omega)) (hT).r0 ?_
        refine j_iload_n (n := 23) dX7_becomeAs_22 rfl rfl ?_
        refine jc_aald (n := 24) (t := 2) (L := 8) (i := k) (b := B + 5 + 2 * k) dX7_becomeAs_23 rfl ((hT).a1).1 (by decide) rfl ((hT).a1).2 (by omega) (by decide) (by have := (hT).lo; omega) ((hT).hi (by omega)) ((hT).e1 (by omega)) ?_
        refine j_aload_n (n := 25) dX7_becomeAs_24 rfl rfl ?_
        refine j_getr (n := 28) (k := 0) (b := F + 1) dX7_becomeAs_25 rfl fX7_11 (hF).c (hF).lo ((hF).hi (by omega)) (hF).r0 ?_
        refine j_iload_n (n := 29) dX7_becomeAs_28 rfl rfl ?_
        refine jc_aald (n := 30) (t := 2) (L := 8) (i := k) (b := F + 5 + 2 * k) dX7_becomeAs_29 rfl ((hF).a1).1 (by decide) rfl ((hF).a1).2 (by omega) (by decide) (by have := (hF).lo; omega) ((hF).hi (by omega)) ((hF).e1 (by omega)) ?_
        refine j_cVv (n := 33) dX7_becomeAs_30 rfl sX7_47 (c_becomeAsP d G _ _ (B + 5 + 2 * k) ((hT).p (by omega)) (F + 5 + 2 * k) ((hF).p (by omega))) (by omega) (by decide) rfl rfl (Nat.le_of_ble_eq_true rfl) ((hT).p (by omega)).2.2.1 ((hT).p (by omega)).1 ((hT).hi (by omega)) (by decide) (by decide) ?_
        refine j_mem (M2 := cm (cm M F e) B (pu (pu (pu (pu (pu (cpP (pu c 0 (e 0)) e 10 (5 * k)) (10 + 5 * k + 0) (e (10 + 5 * k + 0))) (10 + 5 * k + 1) (e (10 + 5 * k + 1))) (10 + 5 * k + 2) (e (10 + 5 * k + 2))) (10 + 5 * k + 3) (e (10 + 5 * k + 3))) (10 + 5 * k + 4) (e (10 + 5 * k + 4)))) (by rw [show _ = nI (e (10 + 5 * k + 0)) from ((cm_k (ix_far hBF (ix_p (by omega) (by decide) rfl))).trans (cm_r (ix_p (by omega) (by decide) rfl))), show _ = nI (e (10 + 5 * k + 1)) from ((cm_k (ix_far hBF (ix_p (by omega) (by decide) rfl))).trans (cm_r (ix_p (by omega) (by decide) rfl))), show _ = nI (e (10 + 5 * k + 2)) from ((cm_k (ix_far hBF (ix_r1 (by omega) (by omega) rfl))).trans (cm_r (ix_r1 (by omega) (by omega) rfl))), show _ = nI (e (10 + 5 * k + 3)) from ((cm_k (ix_far hBF (ix_r1 (by omega) (by omega) rfl))).trans (cm_r (ix_r1 (by omega) (by omega) rfl))), show _ = nI (e (10 + 5 * k + 4)) from ((cm_k (ix_far hBF (ix_r1 (by omega) (by omega) rfl))).trans (cm_r (ix_r1 (by omega) (by omega) rfl)))]; exact cm_be (by omega)) ?_
        refine j_iinc (n := 36) (y := nI (k + 1)) (lv2 := [some (.ref B), some (.ref F), some (.int (nI (k + 1)))]) dX7_becomeAs_33 rfl rfl (by decide) rfl (show nI k + nI 1 = nI (k + 1) by rw [nI_add]) rfl ?_
        refine j_goto (n := 10) dX7_becomeAs_36 rfl ?_
        refine j_mem (M2 := cm (cm M F e) B (cpP (pu c 0 (e 0)) e 10 (5 * (k + 1)))) (congrArg (cm _ B) (cpP_5 _ _ _ _)) ?_
        exact ih _ (by omega) (k + 1) rfl (by omega)
  refine j_aload_n (n := 1) dX7_becomeAs_0 rfl rfl ?_
  refine j_aload_n (n := 2) dX7_becomeAs_1 rfl rfl ?_
  refine jc_get (n := 5) (k := 1) (v := nI (e 0)) dX7_becomeAs_2 rfl fX7_44 (hF).c (hF).lo ((hF).hi (by omega)) ((cm_k (ix_far hBF (ix_t rfl))).trans (cm_r (ix_t rfl))) ?_
  refine jc_put (n := 8) (k := 1) (x := nI (e 0)) (M2 := cm (cm M F e) B (pu c 0 (e 0))) dX7_becomeAs_5 rfl pX7_44 (fun h => by cases h) rfl rfl (hT).c (hT).lo ((hT).hi (by omega)) (cm_w (ix_t rfl) _) ?_
  refine j_iconst (n := 9) (v := nI 0) dX7_becomeAs_8 rfl rfl ?_
  refine j_istore_n (n := 10) (lv2 := [some (.ref B), some (.ref F), some (.int (nI 0))]) dX7_becomeAs_9 rfl rfl (by decide) rfl ?_
  have g := eP _ 0 rfl (Nat.zero_le _)
  rw [Nat.mul_zero, cpP_0] at g
  exact g
