-- MODEL G: by program (wip/whole/gen/b7.py)
theorem mend_end {q : Nat → Nat} {k : Nat} (h : ¬ (k < q 8 ∧ q 2 % 5 = 4)) (hm : k = 0 ∨ q 2 % 5 = 4) (hk : k ≤ q 8) : pu (if q 2 % 5 = 4 then mendP q (q 8) else q) 2 (q 2 + 1) = pu (mendP q k) 2 (q 2 + 1) := by
  by_cases h4 : q 2 % 5 = 4
  · rw [if_pos h4, show q 8 = k by omega]
  · rw [if_neg h4, show k = 0 by omega]
    rfl
theorem c_goesOn (d : Nat) (G : zG) (M : zMem) (X : zX) (hk : kM X) (p : Nat → Nat) (b D : Nat) (hw0 : wf p b D) (hb : b ≤ 1000000000) (hD : D ≤ 1000000000) : zCall G miX10_goesOn (d + 5) [.ref 160] (zVr (fun M1 X1 => X1 = X ∧ ∃ M2, scr M M2 ∧ M1 = mm M2 (dayP p))) (mm M p) X 0 0 := by
  refine zCall.of (lv := [some (.ref 160), none, none]) (by decide) (Nat.le_of_ble_eq_true rfl) rfl ?_
  have e257 : ∀ (q : Nat → Nat) (M1 : zMem), scr M M1 → q 2 ≤ 1000000000 → dayP p = pu q 2 (q 2 + 1) → zAt G miX10_goesOn (zRm (d + 5) 0 0) (zQ G (zVr (fun M1 X1 => X1 = X ∧ ∃ M2, scr M M2 ∧ M1 = mm M2 (dayP p))) 0 0) 257 [some (.ref 160), none, none] [] (mm M1 q) X (0, 0) := by
    intro q M1 hsc h2 he
    refine j_aload_n (n := 258) dX10_goesOn_257 rfl rfl ?_
    refine jm_get (n := 261) (k := 0) (b := 161) dX10_goesOn_258 rfl fX10_7 rfl (by decide) hk ?_
    refine j_iconst (n := 262) (v := nI 2) dX10_goesOn_261 rfl rfl ?_
    refine j_dup2 (n := 263) dX10_goesOn_262 rfl rfl rfl ?_
    refine jm_ald (n := 264) (L := 3100) (a := 161) (i := 2) (v := nI (q 2)) dX10_goesOn_263 rfl hk rfl (by omega) rfl ?_
    refine j_iconst (n := 265) (v := nI 1) dX10_goesOn_264 rfl rfl ?_
    refine j_iaddN (n := 266) (c := q 2 + 1) dX10_goesOn_265 rfl rfl ?_
    refine jm_ast (n := 267) (L := 3100) (a := 161) (i := 2) (x := nI (q 2 + 1)) (M2 := mm M1 (pu q 2 (q 2 + 1))) dX10_goesOn_266 rfl hk rfl (by omega) (mm_w _ _ _ _) ?_
    exact j_vret dX10_goesOn_267 rfl (Nat.le_refl _) (Nat.le_refl _) ⟨rfl, rfl, _, hsc, by rw [he]⟩
  have e212 : ∀ (q : Nat → Nat) (M1 : zMem), scr M M1 → wf q (b + 8) D → dayP p = pu (if q 2 % 5 = 4 then mendP q (q 8) else q) 2 (q 2 + 1) → zAt G miX10_goesOn (zRm (d + 5) 0 0) (zQ G (zVr (fun M1 X1 => X1 = X ∧ ∃ M2, scr M M2 ∧ M1 = mm M2 (dayP p))) 0 0) 212 [some (.ref 160), none, none] [] (mm M1 q) X (0, 0) := by
    intro q M1 hsc hw he
    have h8 := hw.2.1.1
    have h2 := hw.day
    refine j_iconst (n := 213) (v := nI 0) dX10_goesOn_212 rfl rfl ?_
    refine j_istore_n (n := 214) (lv2 := [some (.ref 160), some (.int (nI 0)), none]) dX10_goesOn_213 rfl rfl (by decide) rfl ?_
    have loop : ∀ (j k : Nat), q 8 - k = j → k ≤ q 8 → (k = 0 ∨ q 2 % 5 = 4) → zAt G miX10_goesOn (zRm (d + 5) 0 0) (zQ G (zVr (fun M1 X1 => X1 = X ∧ ∃ M2, scr M M2 ∧ M1 = mm M2 (dayP p))) 0 0) 214 [some (.ref 160), some (.int (nI k)), none] [] (mm M1 (mendP q k)) X (0, 0) := by
      intro j
      induction j using Nat.strongRecOn with
      | ind j ih =>
        intro k hj hk0 hm
        have km := (wf_mend hw k (by omega)).2
        refine j_iload_n (n := 215) dX10_goesOn_214 rfl rfl ?_
        refine j_aload_n (n := 216) dX10_goesOn_215 rfl rfl ?_
        refine jm_get (n := 219) (k := 0) (b := 161) dX10_goesOn_216 rfl fX10_7 rfl (by decide) hk ?_
        refine j_bipush (n := 221) (v := nI 8) dX10_goesOn_219 rfl (by decide) ?_
        refine jm_ald (n := 222) (L := 3100) (a := 161) (i := 8) (v := nI (q 8)) dX10_goesOn_221 rfl hk rfl (by omega) (congrArg nI km.n8) ?_
        refine j_icmp_geT (n := 225) (tg := 257) dX10_goesOn_222 rfl rfl (i_N (by omega)) (i_N (by omega)) (fun h1 => ?_) (fun h1 => ?_)
        · refine j_wk (lv2 := [some (.ref 160), none, none]) ⟨rfl, trivial⟩ ?_
          exact e257 _ M1 hsc (by rw [km.n2]; omega) (he.trans (by rw [km.n2]; exact mend_end (by omega) hm (by omega)))
        · refine j_aload_n (n := 226) dX10_goesOn_225 rfl rfl ?_
          refine jm_get (n := 229) (k := 0) (b := 161) dX10_goesOn_226 rfl fX10_7 rfl (by decide) hk ?_
          refine j_iconst (n := 230) (v := nI 2) dX10_goesOn_229 rfl rfl ?_
          refine jm_ald (n := 231) (L := 3100) (a := 161) (i := 2) (v := nI (q 2)) dX10_goesOn_230 rfl hk rfl (by omega) (congrArg nI km.n2) ?_
          refine j_iconst (n := 232) (v := nI 5) dX10_goesOn_231 rfl rfl ?_
          refine j_iremN (n := 233) (c := (q 2) % 5) dX10_goesOn_232 rfl (by omega) (by omega) (by omega) rfl ?_
          refine j_iconst (n := 234) (v := nI 4) dX10_goesOn_233 rfl rfl ?_
          refine j_icmp_neT (n := 237) (tg := 257) dX10_goesOn_234 rfl rfl (i_N (by omega)) (i_N (by omega)) (fun h2 => ?_) (fun h2 => ?_)
          · refine j_wk (lv2 := [some (.ref 160), none, none]) ⟨rfl, trivial⟩ ?_
            exact e257 _ M1 hsc (by rw [km.n2]; omega) (he.trans (by rw [km.n2]; exact mend_end (by omega) hm (by omega)))
          · refine j_aload_n (n := 238) dX10_goesOn_237 rfl rfl ?_
            refine jm_get (n := 241) (k := 0) (b := 161) dX10_goesOn_238 rfl fX10_7 rfl (by decide) hk ?_
            refine j_bipush (n := 243) (v := nI 50) dX10_goesOn_241 rfl (by decide) ?_
            refine j_iconst (n := 244) (v := nI 5) dX10_goesOn_243 rfl rfl ?_
            refine j_iload_n (n := 245) dX10_goesOn_244 rfl rfl ?_
            refine j_imulN (n := 246) (c := 5 * k) dX10_goesOn_245 rfl rfl ?_
            refine j_iaddN (n := 247) (c := 50 + 5 * k) dX10_goesOn_246 rfl rfl ?_
            refine j_iconst (n := 248) (v := nI 4) dX10_goesOn_247 rfl rfl ?_
            refine j_iaddN (n := 249) (c := 50 + 5 * k + 4) dX10_goesOn_248 rfl rfl ?_
            refine j_iconst (n := 250) (v := nI 0) dX10_goesOn_249 rfl rfl ?_
            refine jm_ast (n := 251) (L := 3100) (a := 161) (i := 50 + 5 * k + 4) (x := nI 0) (M2 := mm M1 (pu (mendP q k) (50 + 5 * k + 4) 0)) dX10_goesOn_250 rfl hk rfl (by omega) (mm_w _ _ _ _) ?_
            refine j_iinc (n := 254) (y := nI (k + 1)) (lv2 := [some (.ref 160), some (.int (nI (k + 1))), none]) dX10_goesOn_251 rfl rfl (by decide) rfl (show nI k + nI 1 = nI (k + 1) by rw [nI_add]) rfl ?_
            refine j_goto (n := 214) dX10_goesOn_254 rfl ?_
            exact ih _ (by omega) (k + 1) rfl (by omega) (Or.inr (by omega))
    exact loop _ 0 rfl (Nat.zero_le _) (Or.inl rfl)
  have e171 : ∀ (q : Nat → Nat) (M1 : zMem), scr M M1 → wf q (b + 8) D → dayP p = pu (if pardonP q 2 % 5 = 4 then mendP (pardonP q) (pardonP q 8) else pardonP q) 2 (pardonP q 2 + 1) → zAt G miX10_goesOn (zRm (d + 5) 0 0) (zQ G (zVr (fun M1 X1 => X1 = X ∧ ∃ M2, scr M M2 ∧ M1 = mm M2 (dayP p))) 0 0) 171 [some (.ref 160), none, none] [] (mm M1 q) X (0, 0) := by
    intro q M1 hsc hw he
    have h0 := hw.1.1
    have hv := drawV_lt q
    have hv1 := drawV_lt (drawZ q)
    have h7 := hw.2.2.2.2.2.2.2.2
    have k2 := (keep_draw q).tr (keep_draw (drawZ q))
    refine j_aload_n (n := 172) dX10_goesOn_171 rfl rfl ?_
    refine j_cV (n := 175) dX10_goesOn_172 rfl sX10_161 (c_drawn (d + 4) G _ _ hk _) (by omega) (by decide) rfl rfl (Nat.le_of_ble_eq_true rfl) (hk).2.1 (by decide) (kM_lt hk) (by decide) (by decide) ?_
    refine j_bipush (n := 177) (v := nI 100) dX10_goesOn_175 rfl (by decide) ?_
    refine j_iremN (n := 178) (c := (drawV q) % 100) dX10_goesOn_177 rfl (by omega) (by omega) (by omega) rfl ?_
    refine j_aload_n (n := 179) dX10_goesOn_178 rfl rfl ?_
    refine jm_get (n := 182) (k := 0) (b := 161) dX10_goesOn_179 rfl fX10_7 rfl (by decide) hk ?_
    refine j_bipush (n := 184) (v := nI 7) dX10_goesOn_182 rfl (by decide) ?_
    refine jm_ald (n := 185) (L := 3100) (a := 161) (i := 7) (v := nI (q 7)) dX10_goesOn_184 rfl hk rfl (by omega) (congrArg nI (by repeat (first | rw [pu_eq] | rw [pu_ne _ _ (by omega)] | rw [drawZ_ne _ (by omega)]))) ?_
    refine j_icmp_geT (n := 188) (tg := 212) dX10_goesOn_185 rfl rfl (i_N (by omega)) (i_N (by omega)) (fun h3 => ?_) (fun h3 => ?_)
    · refine j_wk (lv2 := [some (.ref 160), none, none]) ⟨rfl, trivial⟩ ?_
      have ep : pardonP q = drawZ q := by unfold pardonP; first | rw [if_pos (by omega)] | rw [if_neg (by omega)]
      exact e212 _ M1 hsc (wf_draw hw) (he.trans (by rw [ep]))
    · refine j_aload_n (n := 189) dX10_goesOn_188 rfl rfl ?_
      refine jm_get (n := 192) (k := 0) (b := 161) dX10_goesOn_189 rfl fX10_7 rfl (by decide) hk ?_
      refine j_iconst (n := 193) (v := nI 0) dX10_goesOn_192 rfl rfl ?_
      refine jm_ald (n := 194) (L := 3100) (a := 161) (i := 0) (v := nI (q 0)) dX10_goesOn_193 rfl hk rfl (by omega) (congrArg nI (by repeat (first | rw [pu_eq] | rw [pu_ne _ _ (by omega)] | rw [drawZ_ne _ (by omega)]))) ?_
      refine j_if_leM (n := 197) (tg := 212) dX10_goesOn_194 rfl rfl (by omega) (fun h4 => ?_) (fun h4 => ?_)
      · refine j_wk (lv2 := [some (.ref 160), none, none]) ⟨rfl, trivial⟩ ?_
        have ep : pardonP q = drawZ q := by unfold pardonP; first | rw [if_pos (by omega)] | rw [if_neg (by omega)]
        exact e212 _ M1 hsc (wf_draw hw) (he.trans (by rw [ep]))
      · refine j_aload_n (n := 198) dX10_goesOn_197 rfl rfl ?_
        refine j_aload_n (n := 199) dX10_goesOn_198 rfl rfl ?_
        refine j_cV (n := 202) dX10_goesOn_199 rfl sX10_161 (c_drawn (d + 4) G _ _ hk _) (by omega) (by decide) rfl rfl (Nat.le_of_ble_eq_true rfl) (hk).2.1 (by decide) (kM_lt hk) (by decide) (by decide) ?_
        refine j_aload_n (n := 203) dX10_goesOn_202 rfl rfl ?_
        refine jm_get (n := 206) (k := 0) (b := 161) dX10_goesOn_203 rfl fX10_7 rfl (by decide) hk ?_
        refine j_iconst (n := 207) (v := nI 0) dX10_goesOn_206 rfl rfl ?_
        refine jm_ald (n := 208) (L := 3100) (a := 161) (i := 0) (v := nI (q 0)) dX10_goesOn_207 rfl hk rfl (by omega) (congrArg nI (by repeat (first | rw [pu_eq] | rw [pu_ne _ _ (by omega)] | rw [drawZ_ne _ (by omega)]))) ?_
        refine j_iremN (n := 209) (c := (drawV (drawZ q)) % (q 0)) dX10_goesOn_208 rfl (by omega) (by omega) (by omega) rfl ?_
        have hm : drawV (drawZ q) % q 0 < q 0 := Nat.mod_lt _ (by omega)
        have hr := (wf_draw (wf_draw hw)).1.2 (drawV (drawZ q) % q 0) (by rw [k2.n0]; exact hm)
        refine j_cVv (n := 212) dX10_goesOn_209 rfl sX10_179 (c_halves (d + 3) G _ _ hk _ ((drawV (drawZ q)) % (q 0)) (by omega) (by omega) (by omega) (by omega)) (by omega) (by decide) rfl rfl (Nat.le_of_ble_eq_true rfl) (hk).2.1 (by decide) (kM_lt hk) (by decide) (by decide) ?_
        refine j_wk (lv2 := [some (.ref 160), none, none]) ⟨rfl, trivial⟩ ?_
        have ep : pardonP q = halvesP (drawZ (drawZ q)) ((drawV (drawZ q)) % (q 0)) := by unfold pardonP; first | rw [if_pos (by omega)] | rw [if_neg (by omega)]
        exact e212 _ M1 hsc (wf_halves (wf_draw (wf_draw hw)) (by rw [k2.n0]; omega)) (he.trans (by rw [ep]))
  have e120 : ∀ (q : Nat → Nat) (M1 : zMem), scr M M1 → wf q (b + 8) D → dayP p = restP q → zAt G miX10_goesOn (zRm (d + 5) 0 0) (zQ G (zVr (fun M1 X1 => X1 = X ∧ ∃ M2, scr M M2 ∧ M1 = mm M2 (dayP p))) 0 0) 120 [some (.ref 160), none, none] [] (mm M1 q) X (0, 0) := by
    intro q M1 hsc hw he
    have h0 := hw.1.1
    have hv := drawV_lt q
    have hv1 := drawV_lt (drawZ q)
    have hv2 := drawV_lt (drawZ (drawZ q))
    have h6 := hw.2.2.2.2.2.2.2.1
    have k3 := ((keep_draw q).tr (keep_draw (drawZ q))).tr (keep_draw (drawZ (drawZ q)))
    refine j_aload_n (n := 121) dX10_goesOn_120 rfl rfl ?_
    refine j_cV (n := 124) dX10_goesOn_121 rfl sX10_161 (c_drawn (d + 4) G _ _ hk _) (by omega) (by decide) rfl rfl (Nat.le_of_ble_eq_true rfl) (hk).2.1 (by decide) (kM_lt hk) (by decide) (by decide) ?_
    refine j_bipush (n := 126) (v := nI 100) dX10_goesOn_124 rfl (by decide) ?_
    refine j_iremN (n := 127) (c := (drawV q) % 100) dX10_goesOn_126 rfl (by omega) (by omega) (by omega) rfl ?_
    refine j_aload_n (n := 128) dX10_goesOn_127 rfl rfl ?_
    refine jm_get (n := 131) (k := 0) (b := 161) dX10_goesOn_128 rfl fX10_7 rfl (by decide) hk ?_
    refine j_bipush (n := 133) (v := nI 6) dX10_goesOn_131 rfl (by decide) ?_
    refine jm_ald (n := 134) (L := 3100) (a := 161) (i := 6) (v := nI (q 6)) dX10_goesOn_133 rfl hk rfl (by omega) (congrArg nI (by repeat (first | rw [pu_eq] | rw [pu_ne _ _ (by omega)] | rw [drawZ_ne _ (by omega)]))) ?_
    refine j_icmp_geT (n := 137) (tg := 171) dX10_goesOn_134 rfl rfl (i_N (by omega)) (i_N (by omega)) (fun h5 => ?_) (fun h5 => ?_)
    · refine j_wk (lv2 := [some (.ref 160), none, none]) ⟨rfl, trivial⟩ ?_
      have ed : deedP q = drawZ q := by unfold deedP; first | rw [if_pos (by omega)] | rw [if_neg (by omega)]
      exact e171 _ M1 hsc (wf_draw hw) (he.trans (by unfold restP; rw [ed]))
    · refine j_aload_n (n := 138) dX10_goesOn_137 rfl rfl ?_
      refine jm_get (n := 141) (k := 0) (b := 161) dX10_goesOn_138 rfl fX10_7 rfl (by decide) hk ?_
      refine j_iconst (n := 142) (v := nI 0) dX10_goesOn_141 rfl rfl ?_
      refine jm_ald (n := 143) (L := 3100) (a := 161) (i := 0) (v := nI (q 0)) dX10_goesOn_142 rfl hk rfl (by omega) (congrArg nI (by repeat (first | rw [pu_eq] | rw [pu_ne _ _ (by omega)] | rw [drawZ_ne _ (by omega)]))) ?_
      refine j_if_leM (n := 146) (tg := 171) dX10_goesOn_143 rfl rfl (by omega) (fun h6 => ?_) (fun h6 => ?_)
      · refine j_wk (lv2 := [some (.ref 160), none, none]) ⟨rfl, trivial⟩ ?_
        have ed : deedP q = drawZ q := by unfold deedP; first | rw [if_pos (by omega)] | rw [if_neg (by omega)]
        exact e171 _ M1 hsc (wf_draw hw) (he.trans (by unfold restP; rw [ed]))
      · refine j_aload_n (n := 147) dX10_goesOn_146 rfl rfl ?_
        refine j_cV (n := 150) dX10_goesOn_147 rfl sX10_161 (c_drawn (d + 4) G _ _ hk _) (by omega) (by decide) rfl rfl (Nat.le_of_ble_eq_true rfl) (hk).2.1 (by decide) (kM_lt hk) (by decide) (by decide) ?_
        refine j_aload_n (n := 151) dX10_goesOn_150 rfl rfl ?_
        refine jm_get (n := 154) (k := 0) (b := 161) dX10_goesOn_151 rfl fX10_7 rfl (by decide) hk ?_
        refine j_iconst (n := 155) (v := nI 0) dX10_goesOn_154 rfl rfl ?_
        refine jm_ald (n := 156) (L := 3100) (a := 161) (i := 0) (v := nI (q 0)) dX10_goesOn_155 rfl hk rfl (by omega) (congrArg nI (by repeat (first | rw [pu_eq] | rw [pu_ne _ _ (by omega)] | rw [drawZ_ne _ (by omega)]))) ?_
        refine j_iremN (n := 157) (c := (drawV (drawZ q)) % (q 0)) dX10_goesOn_156 rfl (by omega) (by omega) (by omega) rfl ?_
        have hm : drawV (drawZ q) % q 0 < q 0 := Nat.mod_lt _ (by omega)
        refine j_istore_n (n := 158) (lv2 := [some (.ref 160), some (.int (nI ((drawV (drawZ q)) % (q 0)))), none]) dX10_goesOn_157 rfl rfl (by decide) rfl ?_
        refine j_aload_n (n := 159) dX10_goesOn_158 rfl rfl ?_
        refine j_iload_n (n := 160) dX10_goesOn_159 rfl rfl ?_
        refine j_aload_n (n := 161) dX10_goesOn_160 rfl rfl ?_
        refine j_cV (n := 164) dX10_goesOn_161 rfl sX10_161 (c_drawn (d + 4) G _ _ hk _) (by omega) (by decide) rfl rfl (Nat.le_of_ble_eq_true rfl) (hk).2.1 (by decide) (kM_lt hk) (by decide) (by decide) ?_
        refine j_iconst (n := 165) (v := nI 3) dX10_goesOn_164 rfl rfl ?_
        refine j_iremN (n := 166) (c := (drawV (drawZ (drawZ q))) % 3) dX10_goesOn_165 rfl (by omega) (by omega) (by omega) rfl ?_
        refine j_bipush (n := 168) (v := nI 10) dX10_goesOn_166 rfl (by decide) ?_
        have hr := (wf_draw (wf_draw (wf_draw hw))).1.reg (k := drawV (drawZ q) % q 0) (j := drawV (drawZ (drawZ q)) % 3) (by rw [k3.n0]; exact hm) (by omega)
        refine j_cVv (n := 171) dX10_goesOn_168 rfl sX10_176 (c_more (d + 3) G _ _ hk _ ((drawV (drawZ q)) % (q 0)) ((drawV (drawZ (drawZ q))) % 3) 10 (by omega) (by omega) (by omega) hr) (by omega) (by decide) rfl rfl (Nat.le_of_ble_eq_true rfl) (hk).2.1 (by decide) (kM_lt hk) (by decide) (by decide) ?_
        refine j_wk (lv2 := [some (.ref 160), none, none]) ⟨rfl, trivial⟩ ?_
        have ed : deedP q = moreP (drawZ (drawZ (drawZ q))) ((drawV (drawZ q)) % (q 0)) ((drawV (drawZ (drawZ q))) % 3) 10 := by unfold deedP; first | rw [if_pos (by omega)] | rw [if_neg (by omega)]
        exact e171 _ M1 hsc (wf_more (wf_draw (wf_draw (wf_draw hw))) (by rw [k3.n0]; omega) (by omega)) (he.trans (by unfold restP; rw [ed]))
  have e27 : ∀ (q : Nat → Nat) (M1 : zMem) (k : Nat), scr M M1 → wf q (b + 8) D → k < q 0 → (∀ M2, scr M M2 → zAt G miX10_goesOn (zRm (d + 5) 0 0) (zQ G (zVr (fun M1 X1 => X1 = X ∧ ∃ M2, scr M M2 ∧ M1 = mm M2 (dayP p))) 0 0) 2 [some (.ref 160), some (.int (nI (k + 1))), none] [] (mm M2 (onP q k)) X (0, 0)) → zAt G miX10_goesOn (zRm (d + 5) 0 0) (zQ G (zVr (fun M1 X1 => X1 = X ∧ ∃ M2, scr M M2 ∧ M1 = mm M2 (dayP p))) 0 0) 27 [some (.ref 160), some (.int (nI k)), none] [] (mm M1 q) X (0, 0) := by
    intro q M1 k hsc hw hk1 cont
    have h0 := hw.1.1
    have h8 := hw.2.1.1
    have ho := hw.1.2 k hk1
    have h2 := hw.day
    have h3 := hw.2.2.2.2.1
    have h4 := hw.2.2.2.2.2.1
    refine j_iconst (n := 28) (v := nI 0) dX10_goesOn_27 rfl rfl ?_
    refine j_istore_n (n := 29) (lv2 := [some (.ref 160), some (.int (nI k)), some (.int (nI 0))]) dX10_goesOn_28 rfl rfl (by decide) rfl ?_
    have fin : ∀ l : Nat, l = fi (fun l => q (50 + 5 * l + 0) = q (10 + 5 * k + 1) ∧ q (50 + 5 * l + 4) = 0 ∧ q (50 + 5 * l + 3) ≤ feelsN (q (10 + 5 * k + 0)) (q (10 + 5 * k + (2 + q (50 + 5 * l + 2))))) (q 8 - 0) 0 → zAt G miX10_goesOn (zRm (d + 5) 0 0) (zQ G (zVr (fun M1 X1 => X1 = X ∧ ∃ M2, scr M M2 ∧ M1 = mm M2 (dayP p))) 0 0) 70 [some (.ref 160), some (.int (nI k)), some (.int (nI l))] [] (mm M1 q) X (0, 0) := by
      intro l el
      have hfl : fi (fun l => q (50 + 5 * l + 0) = q (10 + 5 * k + 1) ∧ q (50 + 5 * l + 4) = 0 ∧ q (50 + 5 * l + 3) ≤ feelsN (q (10 + 5 * k + 0)) (q (10 + 5 * k + (2 + q (50 + 5 * l + 2))))) (q 8 - 0) 0 ≤ q 8 := by have := fi_le (fun l => q (50 + 5 * l + 0) = q (10 + 5 * k + 1) ∧ q (50 + 5 * l + 4) = 0 ∧ q (50 + 5 * l + 3) ≤ feelsN (q (10 + 5 * k + 0)) (q (10 + 5 * k + (2 + q (50 + 5 * l + 2))))) (q 8 - 0) 0; omega
      have el : l = doorP q k := el
      refine j_iload_n (n := 71) dX10_goesOn_70 rfl rfl ?_
      refine j_aload_n (n := 72) dX10_goesOn_71 rfl rfl ?_
      refine jm_get (n := 75) (k := 0) (b := 161) dX10_goesOn_72 rfl fX10_7 rfl (by decide) hk ?_
      refine j_bipush (n := 77) (v := nI 8) dX10_goesOn_75 rfl (by decide) ?_
      refine jm_ald (n := 78) (L := 3100) (a := 161) (i := 8) (v := nI (q 8)) dX10_goesOn_77 rfl hk rfl (by omega) rfl ?_
      refine j_icmp_geT (n := 81) (tg := 90) dX10_goesOn_78 rfl rfl (i_N (by omega)) (i_N (by omega)) (fun h7 => ?_) (fun h7 => ?_)
      · refine j_aload_n (n := 91) dX10_goesOn_90 rfl rfl ?_
        refine jm_get (n := 94) (k := 0) (b := 161) dX10_goesOn_91 rfl fX10_7 rfl (by decide) hk ?_
        refine j_iconst (n := 95) (v := nI 4) dX10_goesOn_94 rfl rfl ?_
        refine j_dup2 (n := 96) dX10_goesOn_95 rfl rfl rfl ?_
        refine jm_ald (n := 97) (L := 3100) (a := 161) (i := 4) (v := nI (q 4)) dX10_goesOn_96 rfl hk rfl (by omega) rfl ?_
        refine j_iconst (n := 98) (v := nI 1) dX10_goesOn_97 rfl rfl ?_
        refine j_iaddN (n := 99) (c := q 4 + 1) dX10_goesOn_98 rfl rfl ?_
        refine jm_ast (n := 100) (L := 3100) (a := 161) (i := 4) (x := nI (q 4 + 1)) (M2 := mm M1 (pu q 4 (q 4 + 1))) dX10_goesOn_99 rfl hk rfl (by omega) (mm_w _ _ _ _) ?_
        refine j_aload_n (n := 101) dX10_goesOn_100 rfl rfl ?_
        refine j_iload_n (n := 102) dX10_goesOn_101 rfl rfl ?_
        refine j_aload_n (n := 103) dX10_goesOn_102 rfl rfl ?_
        refine jm_get (n := 106) (k := 0) (b := 161) dX10_goesOn_103 rfl fX10_7 rfl (by decide) hk ?_
        refine j_iconst (n := 107) (v := nI 2) dX10_goesOn_106 rfl rfl ?_
        refine jm_ald (n := 108) (L := 3100) (a := 161) (i := 2) (v := nI (q 2)) dX10_goesOn_107 rfl hk rfl (by omega) (congrArg nI (by repeat (first | rw [pu_eq] | rw [pu_ne _ _ (by omega)] | rw [drawZ_ne _ (by omega)]))) ?_
        refine j_iconst (n := 109) (v := nI 3) dX10_goesOn_108 rfl rfl ?_
        refine j_iremN (n := 110) (c := (q 2) % 3) dX10_goesOn_109 rfl (by omega) (by omega) (by omega) rfl ?_
        refine j_iconst (n := 111) (v := nI 1) dX10_goesOn_110 rfl rfl ?_
        refine j_cVv (n := 114) dX10_goesOn_111 rfl sX10_176 (c_more (d + 3) G _ _ hk _ k ((q 2) % 3) 1 (by omega) (by omega) (by omega) (by rw [pu_ne _ _ (by omega)]; exact hw.1.reg hk1 (by omega))) (by omega) (by decide) rfl rfl (Nat.le_of_ble_eq_true rfl) (hk).2.1 (by decide) (kM_lt hk) (by decide) (by decide) ?_
        refine j_iinc (n := 117) (y := nI (k + 1)) (lv2 := [some (.ref 160), some (.int (nI (k + 1))), some (.int (nI l))]) dX10_goesOn_114 rfl rfl (by decide) rfl (show nI k + nI 1 = nI (k + 1) by rw [nI_add]) rfl ?_
        refine j_goto (n := 2) dX10_goesOn_117 rfl ?_
        refine j_mem (M2 := mm M1 (onP q k)) (congrArg (mm _) (by unfold onP; rw [← el]; first | rw [if_pos (by omega)] | rw [if_neg (by omega)])) ?_
        refine j_wk (lv2 := [some (.ref 160), some (.int (nI (k + 1))), none]) ⟨rfl, rfl, trivial⟩ ?_
        exact cont _ (hsc)
      · refine j_aload_n (n := 82) dX10_goesOn_81 rfl rfl ?_
        refine j_iload_n (n := 83) dX10_goesOn_82 rfl rfl ?_
        refine j_iload_n (n := 84) dX10_goesOn_83 rfl rfl ?_
        refine j_cVvr (n := 87) dX10_goesOn_84 rfl sX10_168 (c_goesThrough d G _ _ hk _ hw.1 hw.2.1 hw.2.2.1 (by omega) k l (by omega) (by omega)) (by omega) (by decide) rfl rfl (Nat.le_of_ble_eq_true rfl) (hk).2.1 (by decide) (kM_lt hk) (by decide) (by decide) (fun N8 Y8 hh8 => ?_)
        obtain ⟨e28, M_8, hs8, e38⟩ := hh8
        rw [e28, e38]
        refine j_goto (n := 114) dX10_goesOn_87 rfl ?_
        refine j_iinc (n := 117) (y := nI (k + 1)) (lv2 := [some (.ref 160), some (.int (nI (k + 1))), some (.int (nI l))]) dX10_goesOn_114 rfl rfl (by decide) rfl (show nI k + nI 1 = nI (k + 1) by rw [nI_add]) rfl ?_
        refine j_goto (n := 2) dX10_goesOn_117 rfl ?_
        refine j_mem (M2 := mm M_8 (onP q k)) (congrArg (mm _) (by unfold onP; rw [← el]; first | rw [if_pos (by omega)] | rw [if_neg (by omega)])) ?_
        refine j_wk (lv2 := [some (.ref 160), some (.int (nI (k + 1))), none]) ⟨rfl, rfl, trivial⟩ ?_
        exact cont _ ((hsc).tr hs8)
    have loop : ∀ (j l : Nat), q 8 - l = j → l ≤ q 8 → fi (fun l => q (50 + 5 * l + 0) = q (10 + 5 * k + 1) ∧ q (50 + 5 * l + 4) = 0 ∧ q (50 + 5 * l + 3) ≤ feelsN (q (10 + 5 * k + 0)) (q (10 + 5 * k + (2 + q (50 + 5 * l + 2))))) (q 8 - 0) 0 = fi (fun l => q (50 + 5 * l + 0) = q (10 + 5 * k + 1) ∧ q (50 + 5 * l + 4) = 0 ∧ q (50 + 5 * l + 3) ≤ feelsN (q (10 + 5 * k + 0)) (q (10 + 5 * k + (2 + q (50 + 5 * l + 2))))) (q 8 - l) l → zAt G miX10_goesOn (zRm (d + 5) 0 0) (zQ G (zVr (fun M1 X1 => X1 = X ∧ ∃ M2, scr M M2 ∧ M1 = mm M2 (dayP p))) 0 0) 29 [some (.ref 160), some (.int (nI k)), some (.int (nI l))] [] (mm M1 q) X (0, 0) := by
      intro j
      induction j using Nat.strongRecOn with
      | ind j ih =>
        intro l hj hl0 hF
        refine j_iload_n (n := 30) dX10_goesOn_29 rfl rfl ?_
        refine j_aload_n (n := 31) dX10_goesOn_30 rfl rfl ?_
        refine jm_get (n := 34) (k := 0) (b := 161) dX10_goesOn_31 rfl fX10_7 rfl (by decide) hk ?_
        refine j_bipush (n := 36) (v := nI 8) dX10_goesOn_34 rfl (by decide) ?_
        refine jm_ald (n := 37) (L := 3100) (a := 161) (i := 8) (v := nI (q 8)) dX10_goesOn_36 rfl hk rfl (by omega) rfl ?_
        refine j_icmp_geT (n := 40) (tg := 70) dX10_goesOn_37 rfl rfl (i_N (by omega)) (i_N (by omega)) (fun h9 => ?_) (fun h9 => ?_)
        · exact fin l (hF.trans (by first | exact fi_n (by omega) | exact fi_t (by omega) (by omega))).symm
        · have hl := hw.2.1.2 l (by omega)
          refine j_aload_n (n := 41) dX10_goesOn_40 rfl rfl ?_
          refine j_iload_n (n := 42) dX10_goesOn_41 rfl rfl ?_
          refine j_iconst (n := 43) (v := nI 0) dX10_goesOn_42 rfl rfl ?_
          refine j_cV (n := 46) dX10_goesOn_43 rfl sX10_147 (c_lockOf (d + 4) G _ _ hk _ l 0 (by omega)) (by omega) (by decide) rfl rfl (Nat.le_of_ble_eq_true rfl) (hk).2.1 (by decide) (kM_lt hk) (by decide) (by decide) ?_
          refine j_aload_n (n := 47) dX10_goesOn_46 rfl rfl ?_
          refine j_iload_n (n := 48) dX10_goesOn_47 rfl rfl ?_
          refine j_iconst (n := 49) (v := nI 1) dX10_goesOn_48 rfl rfl ?_
          refine j_cV (n := 52) dX10_goesOn_49 rfl sX10_114 (c_of (d + 4) G _ _ hk _ k 1 (by omega)) (by omega) (by decide) rfl rfl (Nat.le_of_ble_eq_true rfl) (hk).2.1 (by decide) (kM_lt hk) (by decide) (by decide) ?_
          refine j_icmp_neT (n := 55) (tg := 64) dX10_goesOn_52 rfl rfl (i_N (by omega)) (i_N (by omega)) (fun h10 => ?_) (fun h10 => ?_)
          · refine j_iinc (n := 67) (y := nI (l + 1)) (lv2 := [some (.ref 160), some (.int (nI k)), some (.int (nI (l + 1)))]) dX10_goesOn_64 rfl rfl (by decide) rfl (show nI l + nI 1 = nI (l + 1) by rw [nI_add]) rfl ?_
            refine j_goto (n := 29) dX10_goesOn_67 rfl ?_
            exact ih _ (by omega) (l + 1) rfl (by omega) (hF.trans (fi_s (by omega) (by omega)))
          · refine j_aload_n (n := 56) dX10_goesOn_55 rfl rfl ?_
            refine j_iload_n (n := 57) dX10_goesOn_56 rfl rfl ?_
            refine j_iload_n (n := 58) dX10_goesOn_57 rfl rfl ?_
            refine j_cV (n := 61) dX10_goesOn_58 rfl sX10_153 (c_isOpen (d + 3) G _ _ hk _ hw.1 hw.2.1 l k (by omega) (by omega)) (by omega) (by decide) rfl rfl (Nat.le_of_ble_eq_true rfl) (hk).2.1 (by decide) (kM_lt hk) (by decide) (by decide) ?_
            refine j_if_neB (n := 64) (tg := 70) dX10_goesOn_61 rfl rfl (fun h11 => ?_) (fun h11 => ?_)
            · exact fin l (hF.trans (by first | exact fi_n (by omega) | exact fi_t (by omega) (by omega))).symm
            · refine j_iinc (n := 67) (y := nI (l + 1)) (lv2 := [some (.ref 160), some (.int (nI k)), some (.int (nI (l + 1)))]) dX10_goesOn_64 rfl rfl (by decide) rfl (show nI l + nI 1 = nI (l + 1) by rw [nI_add]) rfl ?_
              refine j_goto (n := 29) dX10_goesOn_67 rfl ?_
              exact ih _ (by omega) (l + 1) rfl (by omega) (hF.trans (fi_s (by omega) (by omega)))
    exact loop _ 0 rfl (Nat.zero_le _) rfl
  have loop : ∀ (j k : Nat) (M1 : zMem), p 0 - k = j → k ≤ p 0 → scr M M1 → zAt G miX10_goesOn (zRm (d + 5) 0 0) (zQ G (zVr (fun M1 X1 => X1 = X ∧ ∃ M2, scr M M2 ∧ M1 = mm M2 (dayP p))) 0 0) 2 [some (.ref 160), some (.int (nI k)), none] [] (mm M1 (peopleP p k)) X (0, 0) := by
    intro j
    induction j using Nat.strongRecOn with
    | ind j ih =>
      intro k M1 hj hk0 hsc
      have hp0 := hw0.1.1
      obtain ⟨hw1, kq⟩ := wf_people hw0 k hk0
      have hw := wf_mono hw1 (b' := b + 8) (D' := D) (by omega) (Nat.le_refl _)
      refine j_iload_n (n := 3) dX10_goesOn_2 rfl rfl ?_
      refine j_aload_n (n := 4) dX10_goesOn_3 rfl rfl ?_
      refine jm_get (n := 7) (k := 0) (b := 161) dX10_goesOn_4 rfl fX10_7 rfl (by decide) hk ?_
      refine j_iconst (n := 8) (v := nI 0) dX10_goesOn_7 rfl rfl ?_
      refine jm_ald (n := 9) (L := 3100) (a := 161) (i := 0) (v := nI (p 0)) dX10_goesOn_8 rfl hk rfl (by omega) (congrArg nI kq.n0) ?_
      refine j_icmp_geT (n := 12) (tg := 120) dX10_goesOn_9 rfl rfl (i_N (by omega)) (i_N (by omega)) (fun h12 => ?_) (fun h12 => ?_)
      · refine j_wk (lv2 := [some (.ref 160), none, none]) ⟨rfl, trivial⟩ ?_
        exact e120 _ M1 hsc hw (by rw [dayP_eq, show k = p 0 by omega])
      · have hk1 : k < peopleP p k 0 := by rw [kq.n0]; omega
        have ho := hw.1.2 k hk1
        have hj5 := hw.2.2.2.2.2.2.1
        refine j_aload_n (n := 13) dX10_goesOn_12 rfl rfl ?_
        refine j_iload_n (n := 14) dX10_goesOn_13 rfl rfl ?_
        refine j_iconst (n := 15) (v := nI 0) dX10_goesOn_14 rfl rfl ?_
        refine j_cV (n := 18) dX10_goesOn_15 rfl sX10_114 (c_of (d + 4) G _ _ hk _ k 0 (by omega)) (by omega) (by decide) rfl rfl (Nat.le_of_ble_eq_true rfl) (hk).2.1 (by decide) (kM_lt hk) (by decide) (by decide) ?_
        refine j_iconst (n := 19) (v := nI 5) dX10_goesOn_18 rfl rfl ?_
        refine j_icmp_neT (n := 22) (tg := 27) dX10_goesOn_19 rfl rfl (i_N (by omega)) (i_N (by omega)) (fun h13 => ?_) (fun h13 => ?_)
        · refine j_wk (lv2 := [some (.ref 160), some (.int (nI k)), none]) ⟨rfl, rfl, trivial⟩ ?_
          exact e27 _ _ k (hsc) hw (by rw [kq.n0]; omega) (fun M2 hs2 => by have hi := ih _ (by omega) (k + 1) M2 rfl (by omega) hs2; rw [peopleP, personP, if_neg (by omega)] at hi; exact hi)
        · refine j_aload_n (n := 23) dX10_goesOn_22 rfl rfl ?_
          refine j_iload_n (n := 24) dX10_goesOn_23 rfl rfl ?_
          refine j_cVv (n := 27) dX10_goesOn_24 rfl sX10_172 (c_tries (d + 3) G _ _ hk _ hw.1 hw.2.1 k (by omega) (by omega)) (by omega) (by decide) rfl rfl (Nat.le_of_ble_eq_true rfl) (hk).2.1 (by decide) (kM_lt hk) (by decide) (by decide) ?_
          refine j_wk (lv2 := [some (.ref 160), some (.int (nI k)), none]) ⟨rfl, rfl, trivial⟩ ?_
          exact e27 _ _ k (hsc) (wf_mono (wf_tries hw1 k).1 (by omega) (Nat.le_refl _)) (by rw [(keep_tries k hw.2.1.1).n0, kq.n0]; omega) (fun M2 hs2 => by have hi := ih _ (by omega) (k + 1) M2 rfl (by omega) hs2; rw [peopleP, personP, if_pos (by omega)] at hi; exact hi)
  refine j_iconst (n := 1) (v := nI 0) dX10_goesOn_0 rfl rfl ?_
  refine j_istore_n (n := 2) (lv2 := [some (.ref 160), some (.int (nI 0)), none]) dX10_goesOn_1 rfl rfl (by decide) rfl ?_
  exact loop _ 0 M rfl (Nat.zero_le _) (scr.rf M)
