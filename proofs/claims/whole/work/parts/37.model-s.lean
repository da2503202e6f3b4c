-- MODEL S: by program (wip/whole/gen/b19.py)
theorem fi_ge (P : Nat → Prop) [DecidablePred P] : ∀ j k, k ≤ fi P j k
  | 0, k => Nat.le_refl _
  | j + 1, k => by
    have := fi_ge P j (k + 1)
    unfold fi
    split <;> omega
/-- the next word, number or sign, from the fields F on -/
def nextB (T F : Nat → Nat) (b : Nat) : Nat → Nat :=
  if b = F 16 then pu (pu (pu F 18 b) 17 b) 19 0
  else if 97 ≤ T b ∧ T b ≤ 122 then pu (pu (pu (pu F 17 b) 18 (letE T (F 16) b)) 19 (if ((0 < F 18 ∧ (F 19 = 1 ∨ F 19 = 2)) ∧ F 18 = b) then 4 else 1)) 21 (if letE T (F 16) b - b = 1 then T b else 0)
  else if 48 ≤ T b ∧ T b ≤ 57 then pu (pu (pu (pu F 17 b) 20 (numT T b (digE T (F 16) b - b))) 18 (digE T (F 16) b)) 19 (if ((0 < F 18 ∧ (F 19 = 1 ∨ F 19 = 2)) ∧ F 18 = b) ∨ 4 < digE T (F 16) b - b then 4 else 2)
  else pu (pu (pu (pu F 17 b) 19 3) 21 (T b)) 18 (b + 1)
def nextF (T F : Nat → Nat) : Nat → Nat := nextB T F (skipT T (F 16) (F 18))
theorem numT_le (T : Nat → Nat) {b : Nat} (h : ∀ i, T i ≤ 255) : ∀ k, numT T b k ≤ 255 * 12 ^ (min k 4)
  | 0 => Nat.zero_le _
  | k + 1 => by
    have h1 := numT_le T h (b := b) k
    have h2 := h (b + k)
    unfold numT
    split
    · rw [show min (k + 1) 4 = min k 4 + 1 by omega, Nat.pow_succ]
      have : 1 ≤ 12 ^ min k 4 := Nat.le_trans (Nat.le_of_eq (Nat.pow_zero 12).symm) (Nat.pow_le_pow_right (by decide) (Nat.zero_le _))
      omega
    · rw [show min (k + 1) 4 = min k 4 by omega]
      exact h1
theorem c_nextToken (d : Nat) (G : zG) (M : zMem) (X : zX) (hk : kM X) (F p : Nat → Nat) (T : Nat → Nat) (hT : tpN M T) (hL : F 16 ≤ 96) (hT2 : ∀ i, T i ≤ 255) (h18 : F 18 ≤ F 16) (h19 : F 19 ≤ 4) : zCall G miX10_nextToken (d + 2) [.ref 160] (zV (mf M (nextF T F) p) X) (mf M F p) X 0 0 := by
  refine zCall.of (lv := [some (.ref 160), none, none]) (by decide) (Nat.le_of_ble_eq_true rfl) rfl ?_
  have e90 : ∀ b : Nat, b = skipT T (F 16) (F 18) → F 18 ≤ b → b ≤ F 16 → zAt G miX10_nextToken (zRm (d + 2) 0 0) (zQ G (zV (mf M (nextF T F) p) X) 0 0) 90 [some (.ref 160), some (.int (zB ((0 < F 18 ∧ (F 19 = 1 ∨ F 19 = 2)) ∧ F 18 = b))), none] [] (mf M (pu F 18 b) p) X (0, 0) := by
    intro b eb hb1 hb2
    have hTb := hT2 b
    refine j_aload_n (n := 91) dX10_nextToken_90 rfl rfl ?_
    refine j_aload_n (n := 92) dX10_nextToken_91 rfl rfl ?_
    refine jm_geti (n := 95) (k := 18) (v := nI b) dX10_nextToken_92 rfl fX10_223 hk ((mf_f _ _ _ 18).trans (congrArg nI (by repeat (first | rw [pu_eq] | rw [pu_ne _ _ (by decide)])))) ?_
    refine jm_put (n := 98) (k := 17) (x := nI b) (M2 := mf M (pu (pu F 18 b) 17 b) p) dX10_nextToken_95 rfl pX10_229 rfl rfl hk (mf_w rfl) ?_
    refine j_aload_n (n := 99) dX10_nextToken_98 rfl rfl ?_
    refine jm_geti (n := 102) (k := 17) (v := nI b) dX10_nextToken_99 rfl fX10_229 hk ((mf_f _ _ _ 17).trans (congrArg nI (by repeat (first | rw [pu_eq] | rw [pu_ne _ _ (by decide)])))) ?_
    refine j_aload_n (n := 103) dX10_nextToken_102 rfl rfl ?_
    refine jm_geti (n := 106) (k := 16) (v := nI (F 16)) dX10_nextToken_103 rfl fX10_211 hk ((mf_f _ _ _ 16).trans (congrArg nI (by repeat (first | rw [pu_eq] | rw [pu_ne _ _ (by decide)])))) ?_
    refine j_icmp_neT (n := 109) (tg := 117) dX10_nextToken_106 rfl rfl (i_N (by omega)) (i_N (by omega)) (fun h1 => ?_) (fun h1 => ?_)
    · refine j_aload_n (n := 118) dX10_nextToken_117 rfl rfl ?_
      refine j_aload_n (n := 119) dX10_nextToken_118 rfl rfl ?_
      refine jm_geti (n := 122) (k := 17) (v := nI b) dX10_nextToken_119 rfl fX10_229 hk ((mf_f _ _ _ 17).trans (congrArg nI (by repeat (first | rw [pu_eq] | rw [pu_ne _ _ (by decide)])))) ?_
      refine j_cV (n := 125) dX10_nextToken_122 rfl sX10_232 (c_isLetter d G _ _ hk _ _ T hT (by (repeat rw [pu_ne _ _ (by decide)]); exact hL) b (by omega)) (by omega) (by decide) rfl rfl (Nat.le_of_ble_eq_true rfl) (hk).2.1 (by decide) (kM_lt hk) (by decide) (by decide) ?_
      refine j_top (y := zB (b < F 16 ∧ 97 ≤ T b ∧ T b ≤ 122)) (zB_congr (by rw [show (pu (pu F 18 b) 17 b) 16 = F 16 by repeat rw [pu_ne _ _ (by decide)]])) ?_
      refine j_if_eqB (n := 128) (tg := 198) dX10_nextToken_125 rfl rfl (fun h2 => ?_) (fun h2 => ?_)
      · refine j_aload_n (n := 199) dX10_nextToken_198 rfl rfl ?_
        refine j_aload_n (n := 200) dX10_nextToken_199 rfl rfl ?_
        refine jm_geti (n := 203) (k := 17) (v := nI b) dX10_nextToken_200 rfl fX10_229 hk ((mf_f _ _ _ 17).trans (congrArg nI (by repeat (first | rw [pu_eq] | rw [pu_ne _ _ (by decide)])))) ?_
        refine j_cV (n := 206) dX10_nextToken_203 rfl sX10_238 (c_isDigit d G _ _ hk _ _ T hT (by (repeat rw [pu_ne _ _ (by decide)]); exact hL) b (by omega)) (by omega) (by decide) rfl rfl (Nat.le_of_ble_eq_true rfl) (hk).2.1 (by decide) (kM_lt hk) (by decide) (by decide) ?_
        refine j_top (y := zB (b < F 16 ∧ 48 ≤ T b ∧ T b ≤ 57)) (zB_congr (by rw [show (pu (pu F 18 b) 17 b) 16 = F 16 by repeat rw [pu_ne _ _ (by decide)]])) ?_
        refine j_if_eqB (n := 209) (tg := 311) dX10_nextToken_206 rfl rfl (fun h3 => ?_) (fun h3 => ?_)
        · refine j_aload_n (n := 312) dX10_nextToken_311 rfl rfl ?_
          refine j_iconst (n := 313) (v := nI 3) dX10_nextToken_312 rfl rfl ?_
          refine jm_put (n := 316) (k := 19) (x := nI 3) (M2 := mf M (pu (pu (pu F 18 b) 17 b) 19 3) p) dX10_nextToken_313 rfl pX10_226 rfl rfl hk (mf_w rfl) ?_
          refine j_aload_n (n := 317) dX10_nextToken_316 rfl rfl ?_
          refine j_aload_n (n := 318) dX10_nextToken_317 rfl rfl ?_
          refine jm_get (n := 321) (k := 15) (b := 175) dX10_nextToken_318 rfl fX10_52 rfl (by decide) hk ?_
          refine j_aload_n (n := 322) dX10_nextToken_321 rfl rfl ?_
          refine jm_geti (n := 325) (k := 17) (v := nI b) dX10_nextToken_322 rfl fX10_229 hk ((mf_f _ _ _ 17).trans (congrArg nI (by repeat (first | rw [pu_eq] | rw [pu_ne _ _ (by decide)])))) ?_
          refine jm_ald (n := 326) (L := 96) (a := 175) (i := b) (v := nI (T b)) dX10_nextToken_325 rfl hk rfl (by omega) ((congrFun (mf_o _ _ _ (by decide) (by decide)) _).trans (hT _ (by omega)).1) ?_
          refine jm_put (n := 329) (k := 21) (x := nI (T b)) (M2 := mf M (pu (pu (pu (pu F 18 b) 17 b) 19 3) 21 (T b)) p) dX10_nextToken_326 rfl pX10_235 rfl rfl hk (mf_w rfl) ?_
          refine j_aload_n (n := 330) dX10_nextToken_329 rfl rfl ?_
          refine j_dup (n := 331) dX10_nextToken_330 rfl rfl ?_
          refine jm_geti (n := 334) (k := 18) (v := nI b) dX10_nextToken_331 rfl fX10_223 hk ((mf_f _ _ _ 18).trans (congrArg nI (by repeat (first | rw [pu_eq] | rw [pu_ne _ _ (by decide)])))) ?_
          refine j_iconst (n := 335) (v := nI 1) dX10_nextToken_334 rfl rfl ?_
          refine j_iaddN (n := 336) (c := b + 1) dX10_nextToken_335 rfl rfl ?_
          refine jm_put (n := 339) (k := 18) (x := nI (b + 1)) (M2 := mf M (pu (pu (pu (pu F 17 b) 19 3) 21 (T b)) 18 (b + 1)) p) dX10_nextToken_336 rfl pX10_223 rfl rfl hk (mf_w (by funext j; by_cases hb : j = 18 <;> simp [pu, hb])) ?_
          have hfin : pu (pu (pu (pu F 17 b) 19 3) 21 (T b)) 18 (b + 1) = nextF T F := by unfold nextF; rw [← eb]; unfold nextB; (try rw [← ek]); (repeat (first | rw [if_pos (by omega)] | rw [if_neg (by omega)]))
          exact j_rv dX10_nextToken_339 rfl (Nat.le_refl _) (Nat.le_refl _) (congrArg (fun z => mf M z p) hfin) rfl
        · refine j_aload_n (n := 210) dX10_nextToken_209 rfl rfl ?_
          refine j_iconst (n := 211) (v := nI 0) dX10_nextToken_210 rfl rfl ?_
          refine jm_put (n := 214) (k := 20) (x := nI 0) (M2 := mf M (pu (pu (pu F 18 b) 17 b) 20 0) p) dX10_nextToken_211 rfl pX10_241 rfl rfl hk (mf_w rfl) ?_
          have hEg := fi_ge (fun i => ¬ (48 ≤ T i ∧ T i ≤ 57)) (F 16 - b) b
          have hEl := fi_le (fun i => ¬ (48 ≤ T i ∧ T i ≤ 57)) (F 16 - b) b
          have hx : ∀ k : Nat, k = digE T (F 16) b → b ≤ k → k ≤ F 16 → zAt G miX10_nextToken (zRm (d + 2) 0 0) (zQ G (zV (mf M (nextF T F) p) X) 0 0) 282 [some (.ref 160), some (.int (zB ((0 < F 18 ∧ (F 19 = 1 ∨ F 19 = 2)) ∧ F 18 = b))), none] [] (mf M (pu (pu (pu F 17 b) 20 (numT T b (k - b))) 18 k) p) X (0, 0) := by
            intro k ek hkb hkl
            refine j_aload_n (n := 283) dX10_nextToken_282 rfl rfl ?_
            refine j_iload_n (n := 284) dX10_nextToken_283 rfl rfl ?_
            refine j_if_neB (n := 287) (tg := 300) dX10_nextToken_284 rfl rfl (fun h4 => ?_) (fun h4 => ?_)
            · refine j_iconst (n := 301) (v := nI 4) dX10_nextToken_300 rfl rfl ?_
              refine j_goto (n := 305) dX10_nextToken_301 rfl ?_
              refine jm_put (n := 308) (k := 19) (x := nI 4) (M2 := mf M (pu (pu (pu (pu F 17 b) 20 (numT T b (k - b))) 18 k) 19 4) p) dX10_nextToken_305 rfl pX10_226 rfl rfl hk (mf_w rfl) ?_
              refine j_goto (n := 339) dX10_nextToken_308 rfl ?_
              have hfin : pu (pu (pu (pu F 17 b) 20 (numT T b (k - b))) 18 k) 19 4 = nextF T F := by unfold nextF; rw [← eb]; unfold nextB; (try rw [← ek]); (repeat (first | rw [if_pos (by omega)] | rw [if_neg (by omega)]))
              exact j_rv dX10_nextToken_339 rfl (Nat.le_refl _) (Nat.le_refl _) (congrArg (fun z => mf M z p) hfin) rfl
            · refine j_aload_n (n := 288) dX10_nextToken_287 rfl rfl ?_
              refine jm_geti (n := 291) (k := 18) (v := nI k) dX10_nextToken_288 rfl fX10_223 hk ((mf_f _ _ _ 18).trans (congrArg nI (by repeat (first | rw [pu_eq] | rw [pu_ne _ _ (by decide)])))) ?_
              refine j_aload_n (n := 292) dX10_nextToken_291 rfl rfl ?_
              refine jm_geti (n := 295) (k := 17) (v := nI b) dX10_nextToken_292 rfl fX10_229 hk ((mf_f _ _ _ 17).trans (congrArg nI (by repeat (first | rw [pu_eq] | rw [pu_ne _ _ (by decide)])))) ?_
              refine j_isubN (n := 296) (c := k - b) dX10_nextToken_295 rfl (by omega) (by omega) ?_
              refine j_iconst (n := 297) (v := nI 4) dX10_nextToken_296 rfl rfl ?_
              refine j_icmp_leT (n := 300) (tg := 304) dX10_nextToken_297 rfl rfl (i_N (by omega)) (i_N (by omega)) (fun h5 => ?_) (fun h5 => ?_)
              · refine j_iconst (n := 305) (v := nI 2) dX10_nextToken_304 rfl rfl ?_
                refine jm_put (n := 308) (k := 19) (x := nI 2) (M2 := mf M (pu (pu (pu (pu F 17 b) 20 (numT T b (k - b))) 18 k) 19 2) p) dX10_nextToken_305 rfl pX10_226 rfl rfl hk (mf_w rfl) ?_
                refine j_goto (n := 339) dX10_nextToken_308 rfl ?_
                have hfin : pu (pu (pu (pu F 17 b) 20 (numT T b (k - b))) 18 k) 19 2 = nextF T F := by unfold nextF; rw [← eb]; unfold nextB; (try rw [← ek]); (repeat (first | rw [if_pos (by omega)] | rw [if_neg (by omega)]))
                exact j_rv dX10_nextToken_339 rfl (Nat.le_refl _) (Nat.le_refl _) (congrArg (fun z => mf M z p) hfin) rfl
              · refine j_iconst (n := 301) (v := nI 4) dX10_nextToken_300 rfl rfl ?_
                refine j_goto (n := 305) dX10_nextToken_301 rfl ?_
                refine jm_put (n := 308) (k := 19) (x := nI 4) (M2 := mf M (pu (pu (pu (pu F 17 b) 20 (numT T b (k - b))) 18 k) 19 4) p) dX10_nextToken_305 rfl pX10_226 rfl rfl hk (mf_w rfl) ?_
                refine j_goto (n := 339) dX10_nextToken_308 rfl ?_
                have hfin : pu (pu (pu (pu F 17 b) 20 (numT T b (k - b))) 18 k) 19 4 = nextF T F := by unfold nextF; rw [← eb]; unfold nextB; (try rw [← ek]); (repeat (first | rw [if_pos (by omega)] | rw [if_neg (by omega)]))
                exact j_rv dX10_nextToken_339 rfl (Nat.le_refl _) (Nat.le_refl _) (congrArg (fun z => mf M z p) hfin) rfl
          have loop : ∀ (j k : Nat), F 16 - k = j → b ≤ k → k ≤ F 16 → digE T (F 16) b = fi (fun i => ¬ (48 ≤ T i ∧ T i ≤ 57)) (F 16 - k) k → zAt G miX10_nextToken (zRm (d + 2) 0 0) (zQ G (zV (mf M (nextF T F) p) X) 0 0) 214 [some (.ref 160), some (.int (zB ((0 < F 18 ∧ (F 19 = 1 ∨ F 19 = 2)) ∧ F 18 = b))), none] [] (mf M (pu (pu (pu F 17 b) 20 (numT T b (k - b))) 18 k) p) X (0, 0) := by
            intro j
            induction j using Nat.strongRecOn with
            | ind j ih =>
              intro k hj hkb hkl hF
              have hTk := hT2 k
              have hnl := numT_le T hT2 (b := b) (k - b)
              have hpw : 12 ^ min (k - b) 4 ≤ 12 ^ 4 := Nat.pow_le_pow_right (by decide) (by omega)
              have hn2 : numT T b (k - b) ≤ 5287680 := by omega
              refine j_aload_n (n := 215) dX10_nextToken_214 rfl rfl ?_
              refine j_aload_n (n := 216) dX10_nextToken_215 rfl rfl ?_
              refine jm_geti (n := 219) (k := 18) (v := nI k) dX10_nextToken_216 rfl fX10_223 hk ((mf_f _ _ _ 18).trans (congrArg nI (by repeat (first | rw [pu_eq] | rw [pu_ne _ _ (by decide)])))) ?_
              refine j_cV (n := 222) dX10_nextToken_219 rfl sX10_238 (c_isDigit d G _ _ hk _ _ T hT (by (repeat rw [pu_ne _ _ (by decide)]); exact hL) k (by omega)) (by omega) (by decide) rfl rfl (Nat.le_of_ble_eq_true rfl) (hk).2.1 (by decide) (kM_lt hk) (by decide) (by decide) ?_
              refine j_top (y := zB (k < F 16 ∧ 48 ≤ T k ∧ T k ≤ 57)) (zB_congr (by rw [show (pu (pu (pu F 17 b) 20 (numT T b (k - b))) 18 k) 16 = F 16 by repeat rw [pu_ne _ _ (by decide)]])) ?_
              refine j_if_eqB (n := 225) (tg := 282) dX10_nextToken_222 rfl rfl (fun h6 => ?_) (fun h6 => ?_)
              · exact hx k (hF.trans (by by_cases hk9 : k < F 16; exact fi_t hk9 (by omega); exact fi_n (by omega))).symm hkb hkl
              · refine j_aload_n (n := 226) dX10_nextToken_225 rfl rfl ?_
                refine j_aload_n (n := 227) dX10_nextToken_226 rfl rfl ?_
                refine jm_geti (n := 230) (k := 18) (v := nI k) dX10_nextToken_227 rfl fX10_223 hk ((mf_f _ _ _ 18).trans (congrArg nI (by repeat (first | rw [pu_eq] | rw [pu_ne _ _ (by decide)])))) ?_
                refine j_aload_n (n := 231) dX10_nextToken_230 rfl rfl ?_
                refine jm_geti (n := 234) (k := 17) (v := nI b) dX10_nextToken_231 rfl fX10_229 hk ((mf_f _ _ _ 17).trans (congrArg nI (by repeat (first | rw [pu_eq] | rw [pu_ne _ _ (by decide)])))) ?_
                refine j_isubN (n := 235) (c := k - b) dX10_nextToken_234 rfl (by omega) (by omega) ?_
                refine j_iconst (n := 236) (v := nI 4) dX10_nextToken_235 rfl rfl ?_
                refine j_icmp_geT (n := 239) (tg := 262) dX10_nextToken_236 rfl rfl (i_N (by omega)) (i_N (by omega)) (fun h7 => ?_) (fun h7 => ?_)
                · refine j_aload_n (n := 263) dX10_nextToken_262 rfl rfl ?_
                  refine jm_geti (n := 266) (k := 20) (v := nI (numT T b (k - b))) dX10_nextToken_263 rfl fX10_241 hk ((mf_f _ _ _ 20).trans (congrArg nI (by repeat (first | rw [pu_eq] | rw [pu_ne _ _ (by decide)])))) ?_
                  refine j_top (y := nI (numT T b (k + 1 - b))) (congrArg nI (by rw [show k + 1 - b = (k - b) + 1 by omega, numT]; first | rw [if_pos (by omega), show b + (k - b) = k by omega] | rw [if_neg (by omega)])) ?_
                  refine jm_put (n := 269) (k := 20) (x := nI (numT T b (k + 1 - b))) (M2 := mf M (pu (pu (pu F 17 b) 18 k) 20 (numT T b (k + 1 - b))) p) dX10_nextToken_266 rfl pX10_241 rfl rfl hk (mf_w (by funext j; by_cases hb : j = 20 <;> simp [pu, hb])) ?_
                  refine j_aload_n (n := 270) dX10_nextToken_269 rfl rfl ?_
                  refine j_dup (n := 271) dX10_nextToken_270 rfl rfl ?_
                  refine jm_geti (n := 274) (k := 18) (v := nI k) dX10_nextToken_271 rfl fX10_223 hk ((mf_f _ _ _ 18).trans (congrArg nI (by repeat (first | rw [pu_eq] | rw [pu_ne _ _ (by decide)])))) ?_
                  refine j_iconst (n := 275) (v := nI 1) dX10_nextToken_274 rfl rfl ?_
                  refine j_iaddN (n := 276) (c := k + 1) dX10_nextToken_275 rfl rfl ?_
                  refine jm_put (n := 279) (k := 18) (x := nI (k + 1)) (M2 := mf M (pu (pu (pu F 17 b) 20 (numT T b (k + 1 - b))) 18 (k + 1)) p) dX10_nextToken_276 rfl pX10_223 rfl rfl hk (mf_w (by funext j; by_cases hb : j = 18 <;> simp [pu, hb])) ?_
                  refine j_goto (n := 214) dX10_nextToken_279 rfl ?_
                  exact ih _ (by omega) (k + 1) rfl (by omega) (by omega) (hF.trans (fi_s (by omega) (by omega)))
                · refine j_bipush (n := 241) (v := nI 10) dX10_nextToken_239 rfl (by decide) ?_
                  refine j_aload_n (n := 242) dX10_nextToken_241 rfl rfl ?_
                  refine jm_geti (n := 245) (k := 20) (v := nI (numT T b (k - b))) dX10_nextToken_242 rfl fX10_241 hk ((mf_f _ _ _ 20).trans (congrArg nI (by repeat (first | rw [pu_eq] | rw [pu_ne _ _ (by decide)])))) ?_
                  refine j_imulN (n := 246) (c := 10 * (numT T b (k - b))) dX10_nextToken_245 rfl rfl ?_
                  refine j_aload_n (n := 247) dX10_nextToken_246 rfl rfl ?_
                  refine jm_get (n := 250) (k := 15) (b := 175) dX10_nextToken_247 rfl fX10_52 rfl (by decide) hk ?_
                  refine j_aload_n (n := 251) dX10_nextToken_250 rfl rfl ?_
                  refine jm_geti (n := 254) (k := 18) (v := nI k) dX10_nextToken_251 rfl fX10_223 hk ((mf_f _ _ _ 18).trans (congrArg nI (by repeat (first | rw [pu_eq] | rw [pu_ne _ _ (by decide)])))) ?_
                  refine jm_ald (n := 255) (L := 96) (a := 175) (i := k) (v := nI (T k)) dX10_nextToken_254 rfl hk rfl (by omega) ((congrFun (mf_o _ _ _ (by decide) (by decide)) _).trans (hT _ (by omega)).1) ?_
                  refine j_iaddN (n := 256) (c := 10 * (numT T b (k - b)) + T k) dX10_nextToken_255 rfl rfl ?_
                  refine j_bipush (n := 258) (v := nI 48) dX10_nextToken_256 rfl (by decide) ?_
                  refine j_isubN (n := 259) (c := 10 * (numT T b (k - b)) + T k - 48) dX10_nextToken_258 rfl (by omega) (by omega) ?_
                  refine j_goto (n := 266) dX10_nextToken_259 rfl ?_
                  refine j_top (y := nI (numT T b (k + 1 - b))) (congrArg nI (by rw [show k + 1 - b = (k - b) + 1 by omega, numT]; first | rw [if_pos (by omega), show b + (k - b) = k by omega] | rw [if_neg (by omega)])) ?_
                  refine jm_put (n := 269) (k := 20) (x := nI (numT T b (k + 1 - b))) (M2 := mf M (pu (pu (pu F 17 b) 18 k) 20 (numT T b (k + 1 - b))) p) dX10_nextToken_266 rfl pX10_241 rfl rfl hk (mf_w (by funext j; by_cases hb : j = 20 <;> simp [pu, hb])) ?_
                  refine j_aload_n (n := 270) dX10_nextToken_269 rfl rfl ?_
                  refine j_dup (n := 271) dX10_nextToken_270 rfl rfl ?_
                  refine jm_geti (n := 274) (k := 18) (v := nI k) dX10_nextToken_271 rfl fX10_223 hk ((mf_f _ _ _ 18).trans (congrArg nI (by repeat (first | rw [pu_eq] | rw [pu_ne _ _ (by decide)])))) ?_
                  refine j_iconst (n := 275) (v := nI 1) dX10_nextToken_274 rfl rfl ?_
                  refine j_iaddN (n := 276) (c := k + 1) dX10_nextToken_275 rfl rfl ?_
                  refine jm_put (n := 279) (k := 18) (x := nI (k + 1)) (M2 := mf M (pu (pu (pu F 17 b) 20 (numT T b (k + 1 - b))) 18 (k + 1)) p) dX10_nextToken_276 rfl pX10_223 rfl rfl hk (mf_w (by funext j; by_cases hb : j = 18 <;> simp [pu, hb])) ?_
                  refine j_goto (n := 214) dX10_nextToken_279 rfl ?_
                  exact ih _ (by omega) (k + 1) rfl (by omega) (by omega) (hF.trans (fi_s (by omega) (by omega)))
          refine j_mem (M2 := mf M (pu (pu (pu F 17 b) 20 (numT T b (b - b))) 18 b) p) (congrArg (fun z => mf M z p) (by rw [Nat.sub_self, numT]; funext j; by_cases hb : j = 18 <;> simp [pu, hb])) ?_
          exact loop _ b rfl (Nat.le_refl _) hb2 rfl
      · have hEg := fi_ge (fun i => ¬ (97 ≤ T i ∧ T i ≤ 122)) (F 16 - b) b
        have hEl := fi_le (fun i => ¬ (97 ≤ T i ∧ T i ≤ 122)) (F 16 - b) b
        have hx : ∀ k : Nat, k = letE T (F 16) b → b ≤ k → k ≤ F 16 → zAt G miX10_nextToken (zRm (d + 2) 0 0) (zQ G (zV (mf M (nextF T F) p) X) 0 0) 152 [some (.ref 160), some (.int (zB ((0 < F 18 ∧ (F 19 = 1 ∨ F 19 = 2)) ∧ F 18 = b))), none] [] (mf M (pu (pu F 17 b) 18 k) p) X (0, 0) := by
          intro k ek hkb hkl
          refine j_aload_n (n := 153) dX10_nextToken_152 rfl rfl ?_
          refine j_iload_n (n := 154) dX10_nextToken_153 rfl rfl ?_
          refine j_if_eqB (n := 157) (tg := 161) dX10_nextToken_154 rfl rfl (fun h8 => ?_) (fun h8 => ?_)
          · refine j_iconst (n := 162) (v := nI 1) dX10_nextToken_161 rfl rfl ?_
            refine jm_put (n := 165) (k := 19) (x := nI 1) (M2 := mf M (pu (pu (pu F 17 b) 18 k) 19 1) p) dX10_nextToken_162 rfl pX10_226 rfl rfl hk (mf_w rfl) ?_
            refine j_aload_n (n := 166) dX10_nextToken_165 rfl rfl ?_
            refine j_aload_n (n := 167) dX10_nextToken_166 rfl rfl ?_
            refine jm_geti (n := 170) (k := 18) (v := nI k) dX10_nextToken_167 rfl fX10_223 hk ((mf_f _ _ _ 18).trans (congrArg nI (by repeat (first | rw [pu_eq] | rw [pu_ne _ _ (by decide)])))) ?_
            refine j_aload_n (n := 171) dX10_nextToken_170 rfl rfl ?_
            refine jm_geti (n := 174) (k := 17) (v := nI b) dX10_nextToken_171 rfl fX10_229 hk ((mf_f _ _ _ 17).trans (congrArg nI (by repeat (first | rw [pu_eq] | rw [pu_ne _ _ (by decide)])))) ?_
            refine j_isubN (n := 175) (c := k - b) dX10_nextToken_174 rfl (by omega) (by omega) ?_
            refine j_iconst (n := 176) (v := nI 1) dX10_nextToken_175 rfl rfl ?_
            refine j_icmp_neT (n := 179) (tg := 191) dX10_nextToken_176 rfl rfl (i_N (by omega)) (i_N (by omega)) (fun h9 => ?_) (fun h9 => ?_)
            · refine j_iconst (n := 192) (v := nI 0) dX10_nextToken_191 rfl rfl ?_
              refine jm_put (n := 195) (k := 21) (x := nI 0) (M2 := mf M (pu (pu (pu (pu F 17 b) 18 k) 19 1) 21 0) p) dX10_nextToken_192 rfl pX10_235 rfl rfl hk (mf_w rfl) ?_
              refine j_goto (n := 339) dX10_nextToken_195 rfl ?_
              have hfin : pu (pu (pu (pu F 17 b) 18 k) 19 1) 21 0 = nextF T F := by unfold nextF; rw [← eb]; unfold nextB; (try rw [← ek]); (repeat (first | rw [if_pos (by omega)] | rw [if_neg (by omega)]))
              exact j_rv dX10_nextToken_339 rfl (Nat.le_refl _) (Nat.le_refl _) (congrArg (fun z => mf M z p) hfin) rfl
            · refine j_aload_n (n := 180) dX10_nextToken_179 rfl rfl ?_
              refine jm_get (n := 183) (k := 15) (b := 175) dX10_nextToken_180 rfl fX10_52 rfl (by decide) hk ?_
              refine j_aload_n (n := 184) dX10_nextToken_183 rfl rfl ?_
              refine jm_geti (n := 187) (k := 17) (v := nI b) dX10_nextToken_184 rfl fX10_229 hk ((mf_f _ _ _ 17).trans (congrArg nI (by repeat (first | rw [pu_eq] | rw [pu_ne _ _ (by decide)])))) ?_
              refine jm_ald (n := 188) (L := 96) (a := 175) (i := b) (v := nI (T b)) dX10_nextToken_187 rfl hk rfl (by omega) ((congrFun (mf_o _ _ _ (by decide) (by decide)) _).trans (hT _ (by omega)).1) ?_
              refine j_goto (n := 192) dX10_nextToken_188 rfl ?_
              refine jm_put (n := 195) (k := 21) (x := nI (T b)) (M2 := mf M (pu (pu (pu (pu F 17 b) 18 k) 19 1) 21 (T b)) p) dX10_nextToken_192 rfl pX10_235 rfl rfl hk (mf_w rfl) ?_
              refine j_goto (n := 339) dX10_nextToken_195 rfl ?_
              have hfin : pu (pu (pu (pu F 17 b) 18 k) 19 1) 21 (T b) = nextF T F := by unfold nextF; rw [← eb]; unfold nextB; (try rw [← ek]); (repeat (first | rw [if_pos (by omega)] | rw [if_neg (by omega)]))
              exact j_rv dX10_nextToken_339 rfl (Nat.le_refl _) (Nat.le_refl _) (congrArg (fun z => mf M z p) hfin) rfl
          · refine j_iconst (n := 158) (v := nI 4) dX10_nextToken_157 rfl rfl ?_
            refine j_goto (n := 162) dX10_nextToken_158 rfl ?_
            refine jm_put (n := 165) (k := 19) (x := nI 4) (M2 := mf M (pu (pu (pu F 17 b) 18 k) 19 4) p) dX10_nextToken_162 rfl pX10_226 rfl rfl hk (mf_w rfl) ?_
            refine j_aload_n (n := 166) dX10_nextToken_165 rfl rfl ?_
            refine j_aload_n (n := 167) dX10_nextToken_166 rfl rfl ?_
            refine jm_geti (n := 170) (k := 18) (v := nI k) dX10_nextToken_167 rfl fX10_223 hk ((mf_f _ _ _ 18).trans (congrArg nI (by repeat (first | rw [pu_eq] | rw [pu_ne _ _ (by decide)])))) ?_
            refine j_aload_n (n := 171) dX10_nextToken_170 rfl rfl ?_
            refine jm_geti (n := 174) (k := 17) (v := nI b) dX10_nextToken_171 rfl fX10_229 hk ((mf_f _ _ _ 17).trans (congrArg nI (by repeat (first | rw [pu_eq] | rw [pu_ne _ _ (by decide)])))) ?_
            refine j_isubN (n := 175) (c := k - b) dX10_nextToken_174 rfl (by omega) (by omega) ?_
            refine j_iconst (n := 176) (v := nI 1) dX10_nextToken_175 rfl rfl ?_
            refine j_icmp_neT (n := 179) (tg := 191) dX10_nextToken_176 rfl rfl (i_N (by omega)) (i_N (by omega)) (fun h10 => ?_) (fun h10 => ?_)
            · refine j_iconst (n := 192) (v := nI 0) dX10_nextToken_191 rfl rfl ?_
              refine jm_put (n := 195) (k := 21) (x := nI 0) (M2 := mf M (pu (pu (pu (pu F 17 b) 18 k) 19 4) 21 0) p) dX10_nextToken_192 rfl pX10_235 rfl rfl hk (mf_w rfl) ?_
              refine j_goto (n := 339) dX10_nextToken_195 rfl ?_
              have hfin : pu (pu (pu (pu F 17 b) 18 k) 19 4) 21 0 = nextF T F := by unfold nextF; rw [← eb]; unfold nextB; (try rw [← ek]); (repeat (first | rw [if_pos (by omega)] | rw [if_neg (by omega)]))
              exact j_rv dX10_nextToken_339 rfl (Nat.le_refl _) (Nat.le_refl _) (congrArg (fun z => mf M z p) hfin) rfl
            · refine j_aload_n (n := 180) dX10_nextToken_179 rfl rfl ?_
              refine jm_get (n := 183) (k := 15) (b := 175) dX10_nextToken_180 rfl fX10_52 rfl (by decide) hk ?_
              refine j_aload_n (n := 184) dX10_nextToken_183 rfl rfl ?_
              refine jm_geti (n := 187) (k := 17) (v := nI b) dX10_nextToken_184 rfl fX10_229 hk ((mf_f _ _ _ 17).trans (congrArg nI (by repeat (first | rw [pu_eq] | rw [pu_ne _ _ (by decide)])))) ?_
              refine jm_ald (n := 188) (L := 96) (a := 175) (i := b) (v := nI (T b)) dX10_nextToken_187 rfl hk rfl (by omega) ((congrFun (mf_o _ _ _ (by decide) (by decide)) _).trans (hT _ (by omega)).1) ?_
              refine j_goto (n := 192) dX10_nextToken_188 rfl ?_
              refine jm_put (n := 195) (k := 21) (x := nI (T b)) (M2 := mf M (pu (pu (pu (pu F 17 b) 18 k) 19 4) 21 (T b)) p) dX10_nextToken_192 rfl pX10_235 rfl rfl hk (mf_w rfl) ?_
              refine j_goto (n := 339) dX10_nextToken_195 rfl ?_
              have hfin : pu (pu (pu (pu F 17 b) 18 k) 19 4) 21 (T b) = nextF T F := by unfold nextF; rw [← eb]; unfold nextB; (try rw [← ek]); (repeat (first | rw [if_pos (by omega)] | rw [if_neg (by omega)]))
              exact j_rv dX10_nextToken_339 rfl (Nat.le_refl _) (Nat.le_refl _) (congrArg (fun z => mf M z p) hfin) rfl
        have loop : ∀ (j k : Nat), F 16 - k = j → b ≤ k → k ≤ F 16 → letE T (F 16) b = fi (fun i => ¬ (97 ≤ T i ∧ T i ≤ 122)) (F 16 - k) k → zAt G miX10_nextToken (zRm (d + 2) 0 0) (zQ G (zV (mf M (nextF T F) p) X) 0 0) 128 [some (.ref 160), some (.int (zB ((0 < F 18 ∧ (F 19 = 1 ∨ F 19 = 2)) ∧ F 18 = b))), none] [] (mf M (pu (pu F 17 b) 18 k) p) X (0, 0) := by
          intro j
          induction j using Nat.strongRecOn with
          | ind j ih =>
            intro k hj hkb hkl hF
            refine j_aload_n (n := 129) dX10_nextToken_128 rfl rfl ?_
            refine j_aload_n (n := 130) dX10_nextToken_129 rfl rfl ?_
            refine jm_geti (n := 133) (k := 18) (v := nI k) dX10_nextToken_130 rfl fX10_223 hk ((mf_f _ _ _ 18).trans (congrArg nI (by repeat (first | rw [pu_eq] | rw [pu_ne _ _ (by decide)])))) ?_
            refine j_cV (n := 136) dX10_nextToken_133 rfl sX10_232 (c_isLetter d G _ _ hk _ _ T hT (by (repeat rw [pu_ne _ _ (by decide)]); exact hL) k (by omega)) (by omega) (by decide) rfl rfl (Nat.le_of_ble_eq_true rfl) (hk).2.1 (by decide) (kM_lt hk) (by decide) (by decide) ?_
            refine j_top (y := zB (k < F 16 ∧ 97 ≤ T k ∧ T k ≤ 122)) (zB_congr (by rw [show (pu (pu F 17 b) 18 k) 16 = F 16 by repeat rw [pu_ne _ _ (by decide)]])) ?_
            refine j_if_eqB (n := 139) (tg := 152) dX10_nextToken_136 rfl rfl (fun h11 => ?_) (fun h11 => ?_)
            · exact hx k (hF.trans (by by_cases hk9 : k < F 16; exact fi_t hk9 (by omega); exact fi_n (by omega))).symm hkb hkl
            · refine j_aload_n (n := 140) dX10_nextToken_139 rfl rfl ?_
              refine j_dup (n := 141) dX10_nextToken_140 rfl rfl ?_
              refine jm_geti (n := 144) (k := 18) (v := nI k) dX10_nextToken_141 rfl fX10_223 hk ((mf_f _ _ _ 18).trans (congrArg nI (by repeat (first | rw [pu_eq] | rw [pu_ne _ _ (by decide)])))) ?_
              refine j_iconst (n := 145) (v := nI 1) dX10_nextToken_144 rfl rfl ?_
              refine j_iaddN (n := 146) (c := k + 1) dX10_nextToken_145 rfl rfl ?_
              refine jm_put (n := 149) (k := 18) (x := nI (k + 1)) (M2 := mf M (pu (pu F 17 b) 18 (k + 1)) p) dX10_nextToken_146 rfl pX10_223 rfl rfl hk (mf_w (by funext j; by_cases hb : j = 18 <;> simp [pu, hb])) ?_
              refine j_goto (n := 128) dX10_nextToken_149 rfl ?_
              exact ih _ (by omega) (k + 1) rfl (by omega) (by omega) (hF.trans (fi_s (by omega) (by omega)))
        refine j_mem (M2 := mf M (pu (pu F 17 b) 18 b) p) (congrArg (fun z => mf M z p) (by funext j; by_cases hb : j = 18 <;> simp [pu, hb])) ?_
        exact loop _ b rfl (Nat.le_refl _) hb2 rfl
    · refine j_aload_n (n := 110) dX10_nextToken_109 rfl rfl ?_
      refine j_iconst (n := 111) (v := nI 0) dX10_nextToken_110 rfl rfl ?_
      refine jm_put (n := 114) (k := 19) (x := nI 0) (M2 := mf M (pu (pu (pu F 18 b) 17 b) 19 0) p) dX10_nextToken_111 rfl pX10_226 rfl rfl hk (mf_w rfl) ?_
      refine j_goto (n := 339) dX10_nextToken_114 rfl ?_
      have hfin : pu (pu (pu F 18 b) 17 b) 19 0 = nextF T F := by unfold nextF; rw [← eb]; unfold nextB; (try rw [← ek]); (repeat (first | rw [if_pos (by omega)] | rw [if_neg (by omega)]))
      exact j_rv dX10_nextToken_339 rfl (Nat.le_refl _) (Nat.le_refl _) (congrArg (fun z => mf M z p) hfin) rfl
  have e34 : zAt G miX10_nextToken (zRm (d + 2) 0 0) (zQ G (zV (mf M (nextF T F) p) X) 0 0) 34 [some (.ref 160), some (.int (zB (0 < F 18 ∧ (F 19 = 1 ∨ F 19 = 2)))), some (.int (nI (F 18)))] [] (mf M F p) X (0, 0) := by
    have loop : ∀ (j b : Nat), F 16 - b = j → F 18 ≤ b → b ≤ F 16 → skipT T (F 16) (F 18) = fi (fun i => ¬ T i = 32) (F 16 - b) b → zAt G miX10_nextToken (zRm (d + 2) 0 0) (zQ G (zV (mf M (nextF T F) p) X) 0 0) 34 [some (.ref 160), some (.int (zB (0 < F 18 ∧ (F 19 = 1 ∨ F 19 = 2)))), some (.int (nI (F 18)))] [] (mf M (pu F 18 b) p) X (0, 0) := by
      intro j
      induction j using Nat.strongRecOn with
      | ind j ih =>
        intro b hj hb1 hb2 hF
        have hTb := hT2 b
        refine j_aload_n (n := 35) dX10_nextToken_34 rfl rfl ?_
        refine jm_geti (n := 38) (k := 18) (v := nI b) dX10_nextToken_35 rfl fX10_223 hk ((mf_f _ _ _ 18).trans (congrArg nI (by repeat (first | rw [pu_eq] | rw [pu_ne _ _ (by decide)])))) ?_
        refine j_aload_n (n := 39) dX10_nextToken_38 rfl rfl ?_
        refine jm_geti (n := 42) (k := 16) (v := nI (F 16)) dX10_nextToken_39 rfl fX10_211 hk ((mf_f _ _ _ 16).trans (congrArg nI (by repeat (first | rw [pu_eq] | rw [pu_ne _ _ (by decide)])))) ?_
        refine j_icmp_geT (n := 45) (tg := 72) dX10_nextToken_42 rfl rfl (i_N (by omega)) (i_N (by omega)) (fun h12 => ?_) (fun h12 => ?_)
        · refine j_iload_n (n := 73) dX10_nextToken_72 rfl rfl ?_
          refine j_if_eqB (n := 76) (tg := 88) dX10_nextToken_73 rfl rfl (fun h13 => ?_) (fun h13 => ?_)
          · refine j_iconst (n := 89) (v := nI 0) dX10_nextToken_88 rfl rfl ?_
            refine j_top (y := zB ((0 < F 18 ∧ (F 19 = 1 ∨ F 19 = 2)) ∧ F 18 = b)) (by first | exact (zB_t (by omega)).symm | exact (zB_f (by omega)).symm) ?_
            refine j_istore_n (n := 90) (lv2 := [some (.ref 160), some (.int (zB ((0 < F 18 ∧ (F 19 = 1 ∨ F 19 = 2)) ∧ F 18 = b))), some (.int (nI (F 18)))]) dX10_nextToken_89 rfl rfl (by decide) rfl ?_
            refine j_wk (lv2 := [some (.ref 160), some (.int (zB ((0 < F 18 ∧ (F 19 = 1 ∨ F 19 = 2)) ∧ F 18 = b))), none]) ⟨rfl, rfl, trivial⟩ ?_
            exact e90 b (hF.trans (by first | exact fi_n (by omega) | exact fi_t (by omega) (by omega))).symm hb1 hb2
          · refine j_iload_n (n := 77) dX10_nextToken_76 rfl rfl ?_
            refine j_aload_n (n := 78) dX10_nextToken_77 rfl rfl ?_
            refine jm_geti (n := 81) (k := 18) (v := nI b) dX10_nextToken_78 rfl fX10_223 hk ((mf_f _ _ _ 18).trans (congrArg nI (by repeat (first | rw [pu_eq] | rw [pu_ne _ _ (by decide)])))) ?_
            refine j_icmp_neT (n := 84) (tg := 88) dX10_nextToken_81 rfl rfl (i_N (by omega)) (i_N (by omega)) (fun h14 => ?_) (fun h14 => ?_)
            · refine j_iconst (n := 89) (v := nI 0) dX10_nextToken_88 rfl rfl ?_
              refine j_top (y := zB ((0 < F 18 ∧ (F 19 = 1 ∨ F 19 = 2)) ∧ F 18 = b)) (by first | exact (zB_t (by omega)).symm | exact (zB_f (by omega)).symm) ?_
              refine j_istore_n (n := 90) (lv2 := [some (.ref 160), some (.int (zB ((0 < F 18 ∧ (F 19 = 1 ∨ F 19 = 2)) ∧ F 18 = b))), some (.int (nI (F 18)))]) dX10_nextToken_89 rfl rfl (by decide) rfl ?_
              refine j_wk (lv2 := [some (.ref 160), some (.int (zB ((0 < F 18 ∧ (F 19 = 1 ∨ F 19 = 2)) ∧ F 18 = b))), none]) ⟨rfl, rfl, trivial⟩ ?_
              exact e90 b (hF.trans (by first | exact fi_n (by omega) | exact fi_t (by omega) (by omega))).symm hb1 hb2
            · refine j_iconst (n := 85) (v := nI 1) dX10_nextToken_84 rfl rfl ?_
              refine j_goto (n := 89) dX10_nextToken_85 rfl ?_
              refine j_top (y := zB ((0 < F 18 ∧ (F 19 = 1 ∨ F 19 = 2)) ∧ F 18 = b)) (by first | exact (zB_t (by omega)).symm | exact (zB_f (by omega)).symm) ?_
              refine j_istore_n (n := 90) (lv2 := [some (.ref 160), some (.int (zB ((0 < F 18 ∧ (F 19 = 1 ∨ F 19 = 2)) ∧ F 18 = b))), some (.int (nI (F 18)))]) dX10_nextToken_89 rfl rfl (by decide) rfl ?_
              refine j_wk (lv2 := [some (.ref 160), some (.int (zB ((0 < F 18 ∧ (F 19 = 1 ∨ F 19 = 2)) ∧ F 18 = b))), none]) ⟨rfl, rfl, trivial⟩ ?_
              exact e90 b (hF.trans (by first | exact fi_n (by omega) | exact fi_t (by omega) (by omega))).symm hb1 hb2
        · refine j_aload_n (n := 46) dX10_nextToken_45 rfl rfl ?_
          refine jm_get (n := 49) (k := 15) (b := 175) dX10_nextToken_46 rfl fX10_52 rfl (by decide) hk ?_
          refine j_aload_n (n := 50) dX10_nextToken_49 rfl rfl ?_
          refine jm_geti (n := 53) (k := 18) (v := nI b) dX10_nextToken_50 rfl fX10_223 hk ((mf_f _ _ _ 18).trans (congrArg nI (by repeat (first | rw [pu_eq] | rw [pu_ne _ _ (by decide)])))) ?_
          refine jm_ald (n := 54) (L := 96) (a := 175) (i := b) (v := nI (T b)) dX10_nextToken_53 rfl hk rfl (by omega) ((congrFun (mf_o _ _ _ (by decide) (by decide)) _).trans (hT _ (by omega)).1) ?_
          refine j_bipush (n := 56) (v := nI 32) dX10_nextToken_54 rfl (by decide) ?_
          refine j_icmp_neT (n := 59) (tg := 72) dX10_nextToken_56 rfl rfl (i_N (by omega)) (i_N (by omega)) (fun h15 => ?_) (fun h15 => ?_)
          · refine j_iload_n (n := 73) dX10_nextToken_72 rfl rfl ?_
            refine j_if_eqB (n := 76) (tg := 88) dX10_nextToken_73 rfl rfl (fun h16 => ?_) (fun h16 => ?_)
            · refine j_iconst (n := 89) (v := nI 0) dX10_nextToken_88 rfl rfl ?_
              refine j_top (y := zB ((0 < F 18 ∧ (F 19 = 1 ∨ F 19 = 2)) ∧ F 18 = b)) (by first | exact (zB_t (by omega)).symm | exact (zB_f (by omega)).symm) ?_
              refine j_istore_n (n := 90) (lv2 := [some (.ref 160), some (.int (zB ((0 < F 18 ∧ (F 19 = 1 ∨ F 19 = 2)) ∧ F 18 = b))), some (.int (nI (F 18)))]) dX10_nextToken_89 rfl rfl (by decide) rfl ?_
              refine j_wk (lv2 := [some (.ref 160), some (.int (zB ((0 < F 18 ∧ (F 19 = 1 ∨ F 19 = 2)) ∧ F 18 = b))), none]) ⟨rfl, rfl, trivial⟩ ?_
              exact e90 b (hF.trans (by first | exact fi_n (by omega) | exact fi_t (by omega) (by omega))).symm hb1 hb2
            · refine j_iload_n (n := 77) dX10_nextToken_76 rfl rfl ?_
              refine j_aload_n (n := 78) dX10_nextToken_77 rfl rfl ?_
              refine jm_geti (n := 81) (k := 18) (v := nI b) dX10_nextToken_78 rfl fX10_223 hk ((mf_f _ _ _ 18).trans (congrArg nI (by repeat (first | rw [pu_eq] | rw [pu_ne _ _ (by decide)])))) ?_
              refine j_icmp_neT (n := 84) (tg := 88) dX10_nextToken_81 rfl rfl (i_N (by omega)) (i_N (by omega)) (fun h17 => ?_) (fun h17 => ?_)
              · refine j_iconst (n := 89) (v := nI 0) dX10_nextToken_88 rfl rfl ?_
                refine j_top (y := zB ((0 < F 18 ∧ (F 19 = 1 ∨ F 19 = 2)) ∧ F 18 = b)) (by first | exact (zB_t (by omega)).symm | exact (zB_f (by omega)).symm) ?_
                refine j_istore_n (n := 90) (lv2 := [some (.ref 160), some (.int (zB ((0 < F 18 ∧ (F 19 = 1 ∨ F 19 = 2)) ∧ F 18 = b))), some (.int (nI (F 18)))]) dX10_nextToken_89 rfl rfl (by decide) rfl ?_
                refine j_wk (lv2 := [some (.ref 160), some (.int (zB ((0 < F 18 ∧ (F 19 = 1 ∨ F 19 = 2)) ∧ F 18 = b))), none]) ⟨rfl, rfl, trivial⟩ ?_
                exact e90 b (hF.trans (by first | exact fi_n (by omega) | exact fi_t (by omega) (by omega))).symm hb1 hb2
              · refine j_iconst (n := 85) (v := nI 1) dX10_nextToken_84 rfl rfl ?_
                refine j_goto (n := 89) dX10_nextToken_85 rfl ?_
                refine j_top (y := zB ((0 < F 18 ∧ (F 19 = 1 ∨ F 19 = 2)) ∧ F 18 = b)) (by first | exact (zB_t (by omega)).symm | exact (zB_f (by omega)).symm) ?_
                refine j_istore_n (n := 90) (lv2 := [some (.ref 160), some (.int (zB ((0 < F 18 ∧ (F 19 = 1 ∨ F 19 = 2)) ∧ F 18 = b))), some (.int (nI (F 18)))]) dX10_nextToken_89 rfl rfl (by decide) rfl ?_
                refine j_wk (lv2 := [some (.ref 160), some (.int (zB ((0 < F 18 ∧ (F 19 = 1 ∨ F 19 = 2)) ∧ F 18 = b))), none]) ⟨rfl, rfl, trivial⟩ ?_
                exact e90 b (hF.trans (by first | exact fi_n (by omega) | exact fi_t (by omega) (by omega))).symm hb1 hb2
          · refine j_aload_n (n := 60) dX10_nextToken_59 rfl rfl ?_
            refine j_dup (n := 61) dX10_nextToken_60 rfl rfl ?_
            refine jm_geti (n := 64) (k := 18) (v := nI b) dX10_nextToken_61 rfl fX10_223 hk ((mf_f _ _ _ 18).trans (congrArg nI (by repeat (first | rw [pu_eq] | rw [pu_ne _ _ (by decide)])))) ?_
            refine j_iconst (n := 65) (v := nI 1) dX10_nextToken_64 rfl rfl ?_
            refine j_iaddN (n := 66) (c := b + 1) dX10_nextToken_65 rfl rfl ?_
            refine jm_put (n := 69) (k := 18) (x := nI (b + 1)) (M2 := mf M (pu F 18 (b + 1)) p) dX10_nextToken_66 rfl pX10_223 rfl rfl hk (mf_w (by funext j; by_cases hb : j = 18 <;> simp [pu, hb])) ?_
            refine j_goto (n := 34) dX10_nextToken_69 rfl ?_
            exact ih _ (by omega) (b + 1) rfl (by omega) (by omega) (hF.trans (fi_s (by omega) (by omega)))
    refine j_mem (M2 := mf M (pu F 18 (F 18)) p) (congrArg (fun z => mf M z p) (pu_id F 18).symm) ?_
    exact loop _ (F 18) rfl (Nat.le_refl _) h18 rfl
  refine j_aload_n (n := 1) dX10_nextToken_0 rfl rfl ?_
  refine jm_geti (n := 4) (k := 18) (v := nI (F 18)) dX10_nextToken_1 rfl fX10_223 hk (mf_f _ _ _ 18) ?_
  refine j_if_leM (n := 7) (tg := 27) dX10_nextToken_4 rfl rfl (by omega) (fun h18 => ?_) (fun h18 => ?_)
  · refine j_iconst (n := 28) (v := nI 0) dX10_nextToken_27 rfl rfl ?_
    refine j_top (y := zB (0 < F 18 ∧ (F 19 = 1 ∨ F 19 = 2))) (by first | exact (zB_t (by omega)).symm | exact (zB_f (by omega)).symm) ?_
    refine j_istore_n (n := 29) (lv2 := [some (.ref 160), some (.int (zB (0 < F 18 ∧ (F 19 = 1 ∨ F 19 = 2)))), none]) dX10_nextToken_28 rfl rfl (by decide) rfl ?_
    refine j_aload_n (n := 30) dX10_nextToken_29 rfl rfl ?_
    refine jm_geti (n := 33) (k := 18) (v := nI (F 18)) dX10_nextToken_30 rfl fX10_223 hk (mf_f _ _ _ 18) ?_
    refine j_istore_n (n := 34) (lv2 := [some (.ref 160), some (.int (zB (0 < F 18 ∧ (F 19 = 1 ∨ F 19 = 2)))), some (.int (nI (F 18)))]) dX10_nextToken_33 rfl rfl (by decide) rfl ?_
    exact e34
  · refine j_aload_n (n := 8) dX10_nextToken_7 rfl rfl ?_
    refine jm_geti (n := 11) (k := 19) (v := nI (F 19)) dX10_nextToken_8 rfl fX10_226 hk (mf_f _ _ _ 19) ?_
    refine j_iconst (n := 12) (v := nI 1) dX10_nextToken_11 rfl rfl ?_
    refine j_icmp_eqT (n := 15) (tg := 23) dX10_nextToken_12 rfl rfl (i_N (by omega)) (i_N (by omega)) (fun h19 => ?_) (fun h19 => ?_)
    · refine j_iconst (n := 24) (v := nI 1) dX10_nextToken_23 rfl rfl ?_
      refine j_goto (n := 28) dX10_nextToken_24 rfl ?_
      refine j_top (y := zB (0 < F 18 ∧ (F 19 = 1 ∨ F 19 = 2))) (by first | exact (zB_t (by omega)).symm | exact (zB_f (by omega)).symm) ?_
      refine j_istore_n (n := 29) (lv2 := [some (.ref 160), some (.int (zB (0 < F 18 ∧ (F 19 = 1 ∨ F 19 = 2)))), none]) dX10_nextToken_28 rfl rfl (by decide) rfl ?_
      refine j_aload_n (n := 30) dX10_nextToken_29 rfl rfl ?_
      refine jm_geti (n := 33) (k := 18) (v := nI (F 18)) dX10_nextToken_30 rfl fX10_223 hk (mf_f _ _ _ 18) ?_
      refine j_istore_n (n := 34) (lv2 := [some (.ref 160), some (.int (zB (0 < F 18 ∧ (F 19 = 1 ∨ F 19 = 2)))), some (.int (nI (F 18)))]) dX10_nextToken_33 rfl rfl (by decide) rfl ?_
      exact e34
    · refine j_aload_n (n := 16) dX10_nextToken_15 rfl rfl ?_
      refine jm_geti (n := 19) (k := 19) (v := nI (F 19)) dX10_nextToken_16 rfl fX10_226 hk (mf_f _ _ _ 19) ?_
      refine j_iconst (n := 20) (v := nI 2) dX10_nextToken_19 rfl rfl ?_
      refine j_icmp_neT (n := 23) (tg := 27) dX10_nextToken_20 rfl rfl (i_N (by omega)) (i_N (by omega)) (fun h20 => ?_) (fun h20 => ?_)
      · refine j_iconst (n := 28) (v := nI 0) dX10_nextToken_27 rfl rfl ?_
        refine j_top (y := zB (0 < F 18 ∧ (F 19 = 1 ∨ F 19 = 2))) (by first | exact (zB_t (by omega)).symm | exact (zB_f (by omega)).symm) ?_
        refine j_istore_n (n := 29) (lv2 := [some (.ref 160), some (.int (zB (0 < F 18 ∧ (F 19 = 1 ∨ F 19 = 2)))), none]) dX10_nextToken_28 rfl rfl (by decide) rfl ?_
        refine j_aload_n (n := 30) dX10_nextToken_29 rfl rfl ?_
        refine jm_geti (n := 33) (k := 18) (v := nI (F 18)) dX10_nextToken_30 rfl fX10_223 hk (mf_f _ _ _ 18) ?_
        refine j_istore_n (n := 34) (lv2 := [some (.ref 160), some (.int (zB (0 < F 18 ∧ (F 19 = 1 ∨ F 19 = 2)))), some (.int (nI (F 18)))]) dX10_nextToken_33 rfl rfl (by decide) rfl ?_
        exact e34
      · refine j_iconst (n := 24) (v := nI 1) dX10_nextToken_23 rfl rfl ?_
        refine j_goto (n := 28) dX10_nextToken_24 rfl ?_
        refine j_top (y := zB (0 < F 18 ∧ (F 19 = 1 ∨ F 19 = 2))) (by first | exact (zB_t (by omega)).symm | exact (zB_f (by omega)).symm) ?_
        refine j_istore_n (n := 29) (lv2 := [some (.ref 160), some (.int (zB (0 < F 18 ∧ (F 19 = 1 ∨ F 19 = 2)))), none]) dX10_nextToken_28 rfl rfl (by decide) rfl ?_
        refine j_aload_n (n := 30) dX10_nextToken_29 rfl rfl ?_
        refine jm_geti (n := 33) (k := 18) (v := nI (F 18)) dX10_nextToken_30 rfl fX10_223 hk (mf_f _ _ _ 18) ?_
        refine j_istore_n (n := 34) (lv2 := [some (.ref 160), some (.int (zB (0 < F 18 ∧ (F 19 = 1 ∨ F 19 = 2)))), some (.int (nI (F 18)))]) dX10_nextToken_33 rfl rfl (by decide) rfl ?_
        exact e34
