-- MODEL Q: by program (wip/whole/gen/b17.py)
theorem c_latches (d : Nat) (G : zG) (M : zMem) (X : zX) (K : Nat) (hK : K < 729) : zCall G miX10_latches (d + 0) [.int (nI K)] (zI (nI (lat K)) M X) M X 0 0 := by
  refine zCall.of (lv := [some (.int (nI K))]) (by decide) (Nat.le_of_ble_eq_true rfl) rfl ?_
  refine j_iload_n (n := 1) dX10_latches_0 rfl rfl ?_
  refine j_bipush (n := 3) (v := nI 81) dX10_latches_1 rfl (by decide) ?_
  refine j_idivN (n := 4) (c := K / 81) dX10_latches_3 rfl (by omega) (by omega) (by omega) rfl ?_
  refine j_iload_n (n := 5) dX10_latches_4 rfl rfl ?_
  refine j_bipush (n := 7) (v := nI 9) dX10_latches_5 rfl (by decide) ?_
  refine j_idivN (n := 8) (c := K / 9) dX10_latches_7 rfl (by omega) (by omega) (by omega) rfl ?_
  refine j_bipush (n := 10) (v := nI 9) dX10_latches_8 rfl (by decide) ?_
  refine j_iremN (n := 11) (c := (K / 9) % 9) dX10_latches_10 rfl (by omega) (by omega) (by omega) rfl ?_
  refine j_iaddN (n := 12) (c := K / 81 + (K / 9) % 9) dX10_latches_11 rfl rfl ?_
  refine j_iload_n (n := 13) dX10_latches_12 rfl rfl ?_
  refine j_bipush (n := 15) (v := nI 9) dX10_latches_13 rfl (by decide) ?_
  refine j_iremN (n := 16) (c := K % 9) dX10_latches_15 rfl (by omega) (by omega) (by omega) rfl ?_
  refine j_iaddN (n := 17) (c := K / 81 + (K / 9) % 9 + K % 9) dX10_latches_16 rfl rfl ?_
  exact j_ri dX10_latches_17 rfl (Nat.le_refl _) (Nat.le_refl _) rfl rfl rfl
theorem c_findRooms (d : Nat) (G : zG) (M : zMem) (X : zX) (hk : kM X) (p : Nat → Nat) (hw : wfO p) (hwl : wfL p) (hwt : wfT p) (hd2 : p 2 < 2147483648) (k : Nat) (hk1 : k < p 0) : zCall G miX10_findRooms (d + 4) [.ref 160, .int (nI k)] (zVr (fun M1 X1 => X1 = X ∧ ∃ M2, (scw M M2 ∧ (∀ K, K < 729 → M2 172 K = nI (roomB p k 729 K)) ∧ M2 174 = M 174) ∧ M1 = mm M2 p)) (mm M p) X 0 0 := by
  refine zCall.of (lv := [some (.ref 160), some (.int (nI k)), none, none, none, none, none, none]) (by decide) (Nat.le_of_ble_eq_true rfl) rfl ?_
  have hw0 := hw.1
  have hw1 := hwl.1
  have ho := hw.2 k hk1
  have hwt9 : ∀ j, j < 27 → wtP p k j ≤ 99 := fun j hj => wnP_le p (hw.reg hk1 (by omega)) _
  have eD : ∀ (K : Nat), K < 729 → lat K < 8 → (∀ M1, scw M M1 → M1 174 = M 174 → (∀ z, z < 729 → M1 172 z = nI (rowB p k (roomB p k K) K (p 8) z)) → (∀ z, z < 27 → M1 173 z = nI (wtP p k z)) → zAt G miX10_findRooms (zRm (d + 4) 0 0) (zQ G (zVr (fun M1 X1 => X1 = X ∧ ∃ M2, (scw M M2 ∧ (∀ K, K < 729 → M2 172 K = nI (roomB p k 729 K)) ∧ M2 174 = M 174) ∧ M1 = mm M2 p)) 0 0) 311 [some (.ref 160), some (.int (nI k)), some (.int (nI (p (10 + 5 * k + 0)))), some (.int (nI K)), none, none, none, none] [] (mm M1 p) X (0, 0)) → ∀ (j l : Nat) (M1 : zMem), p 8 - l = j → l ≤ p 8 → scw M M1 → M1 174 = M 174 → (∀ z, z < 729 → M1 172 z = nI (rowB p k (roomB p k K) K l z)) → (∀ z, z < 27 → M1 173 z = nI (wtP p k z)) → zAt G miX10_findRooms (zRm (d + 4) 0 0) (zQ G (zVr (fun M1 X1 => X1 = X ∧ ∃ M2, (scw M M2 ∧ (∀ K, K < 729 → M2 172 K = nI (roomB p k 729 K)) ∧ M2 174 = M 174) ∧ M1 = mm M2 p)) 0 0) 152 [some (.ref 160), some (.int (nI k)), some (.int (nI (p (10 + 5 * k + 0)))), some (.int (nI K)), some (.int (nI l)), none, none, none] [] (mm M1 p) X (0, 0) := by
    intro K hK hlat cont j
    induction j using Nat.strongRecOn with
    | ind j ih =>
      intro l M1 hj hl0 hsc h174 h172 h173
      refine j_iload (n := 154) dX10_findRooms_152 rfl rfl ?_
      refine j_aload_n (n := 155) dX10_findRooms_154 rfl rfl ?_
      refine jm_get (n := 158) (k := 0) (b := 161) dX10_findRooms_155 rfl fX10_7 rfl (by decide) hk ?_
      refine j_bipush (n := 160) (v := nI 8) dX10_findRooms_158 rfl (by decide) ?_
      refine jm_ald (n := 161) (L := 3100) (a := 161) (i := 8) (v := nI (p 8)) dX10_findRooms_160 rfl hk rfl (by omega) rfl ?_
      refine j_icmp_geT (n := 164) (tg := 311) dX10_findRooms_161 rfl rfl (i_N (by omega)) (i_N (by omega)) (fun h12 => ?_) (fun h12 => ?_)
      · refine j_wk (lv2 := [some (.ref 160), some (.int (nI k)), some (.int (nI (p (10 + 5 * k + 0)))), some (.int (nI K)), none, none, none, none]) ⟨rfl, rfl, rfl, rfl, trivial⟩ ?_
        exact cont M1 hsc h174 (fun z hz => by rw [h172 z hz, show l = p 8 by omega]) h173
      · have hl := hwl.2 l (by omega)
        have hlt := rowB_lt hwl (roomB_lt hwl hw hk1 K) (k := k) (K := K) l (by omega)
        have hb1 : byN (p (50 + 5 * l + 2)) = 81 ∨ byN (p (50 + 5 * l + 2)) = 9 ∨ byN (p (50 + 5 * l + 2)) = 1 := by unfold byN; split; simp; split <;> simp
        have hla : K / 81 + K / 9 % 9 + K % 9 < 8 := hlat
        have hmd : K / byN (p (50 + 5 * l + 2)) % 9 < 9 := Nat.mod_lt _ (by decide)
        have hdv : K / byN (p (50 + 5 * l + 2)) ≤ K := Nat.div_le_self _ _
        have hwv := hwt9 (9 * p (50 + 5 * l + 2) + K / byN (p (50 + 5 * l + 2)) % 9) (by omega)
        have hfe := feelsN_le (k := p (10 + 5 * k + 0)) hwv
        have e197 : zAt G miX10_findRooms (zRm (d + 4) 0 0) (zQ G (zVr (fun M1 X1 => X1 = X ∧ ∃ M2, (scw M M2 ∧ (∀ K, K < 729 → M2 172 K = nI (roomB p k 729 K)) ∧ M2 174 = M 174) ∧ M1 = mm M2 p)) 0 0) 197 [some (.ref 160), some (.int (nI k)), some (.int (nI (p (10 + 5 * k + 0)))), some (.int (nI K)), some (.int (nI l)), some (.int (nI (p (50 + 5 * l + 2)))), some (.int (nI (byN (p (50 + 5 * l + 2))))), none] [] (mm M1 p) X (0, 0) := by
          refine j_aload_n (n := 198) dX10_findRooms_197 rfl rfl ?_
          refine j_iload (n := 200) dX10_findRooms_198 rfl rfl ?_
          refine j_iconst (n := 201) (v := nI 4) dX10_findRooms_200 rfl rfl ?_
          refine j_cV (n := 204) dX10_findRooms_201 rfl sX10_147 (c_lockOf (d + 3) G _ _ hk _ l 4 (by omega)) (by omega) (by decide) rfl rfl (Nat.le_of_ble_eq_true rfl) (hk).2.1 (by decide) (kM_lt hk) (by decide) (by decide) ?_
          refine j_if_neN (n := 207) (tg := 263) dX10_findRooms_204 rfl rfl (by omega) (fun h1 => ?_) (fun h1 => ?_)
          · refine j_iconst (n := 264) (v := nI 0) dX10_findRooms_263 rfl rfl ?_
            refine j_istore (n := 266) (lv2 := [some (.ref 160), some (.int (nI k)), some (.int (nI (p (10 + 5 * k + 0)))), some (.int (nI K)), some (.int (nI l)), some (.int (nI (p (50 + 5 * l + 2)))), some (.int (nI (byN (p (50 + 5 * l + 2))))), some (.int (nI 0))]) dX10_findRooms_264 rfl rfl (by decide) rfl ?_
            refine j_aload_n (n := 267) dX10_findRooms_266 rfl rfl ?_
            refine jm_get (n := 270) (k := 12) (b := 172) dX10_findRooms_267 rfl fX10_43 rfl (by decide) hk ?_
            refine j_iload (n := 272) dX10_findRooms_270 rfl rfl ?_
            refine j_if_eqN (n := 275) (tg := 282) dX10_findRooms_272 rfl rfl (by omega) (fun h2 => ?_) (fun h2 => ?_)
            · refine j_iload_n (n := 283) dX10_findRooms_282 rfl rfl ?_
              refine j_dup2 (n := 284) dX10_findRooms_283 rfl rfl rfl ?_
              refine jm_ald (n := 285) (L := 729) (a := 172) (i := K) (v := nI (rowB p k (roomB p k K) K l (K))) dX10_findRooms_284 rfl hk rfl (by omega) (h172 _ (by omega)) ?_
              refine j_iload (n := 287) dX10_findRooms_285 rfl rfl ?_
              refine j_if_eqN (n := 290) (tg := 302) dX10_findRooms_287 rfl rfl (by omega) (fun h3 => ?_) (fun h3 => ?_)
              · refine j_iconst (n := 303) (v := nI 0) dX10_findRooms_302 rfl rfl ?_
                refine j_ior (n := 304) dX10_findRooms_303 rfl ?_
                refine j_top (y := nI (rowB p k (roomB p k K) K l K ||| 0)) (by rw [nI_or]) ?_
                refine jm_ast (n := 305) (L := 729) (a := 172) (i := K) (x := nI (rowB p k (roomB p k K) K l K ||| 0)) (M2 := mm (zs M1 172 (upd (M1 172) (K) (nI (rowB p k (roomB p k K) K l K ||| 0)))) p) dX10_findRooms_304 rfl hk rfl (by omega) (mm_wo (by decide) rfl) ?_
                refine j_iinc (n := 308) (y := nI (l + 1)) (lv2 := [some (.ref 160), some (.int (nI k)), some (.int (nI (p (10 + 5 * k + 0)))), some (.int (nI K)), some (.int (nI (l + 1))), some (.int (nI (p (50 + 5 * l + 2)))), some (.int (nI (byN (p (50 + 5 * l + 2))))), some (.int (nI 0))]) dX10_findRooms_305 rfl rfl (by decide) rfl (show nI l + nI 1 = nI (l + 1) by rw [nI_add]) rfl ?_
                refine j_goto (n := 152) dX10_findRooms_308 rfl ?_
                have eB : rowB p k (roomB p k K) K (l + 1) = pu (rowB p k (roomB p k K) K l) (K) (rowB p k (roomB p k K) K l K ||| 0) := by rw [rowB, pushB, if_neg (by omega)]; exact (pu_or0 _ _).symm
                refine j_wk (lv2 := [some (.ref 160), some (.int (nI k)), some (.int (nI (p (10 + 5 * k + 0)))), some (.int (nI K)), some (.int (nI (l + 1))), none, none, none]) ⟨rfl, rfl, rfl, rfl, rfl, trivial⟩ ?_
                exact ih _ (by omega) (l + 1) _ rfl (by omega) (hsc.tr (scw.s _ _ (by unfold scq; omega))) ((zs_ne _ _ (by decide)).trans h174) (fun z hz => by rw [zs_eq, eB]; unfold upd pu; split; rfl; exact h172 z hz) (fun z hz => by rw [zs_ne _ _ (by decide)]; exact h173 z hz)
              · exact absurd h3 (by decide)
            · exact absurd h2 (by decide)
          · refine j_aload_n (n := 208) dX10_findRooms_207 rfl rfl ?_
            refine jm_get (n := 211) (k := 12) (b := 172) dX10_findRooms_208 rfl fX10_43 rfl (by decide) hk ?_
            refine j_iload_n (n := 212) dX10_findRooms_211 rfl rfl ?_
            refine jm_ald (n := 213) (L := 729) (a := 172) (i := K) (v := nI (rowB p k (roomB p k K) K l K)) dX10_findRooms_212 rfl hk rfl (by omega) (h172 K (by omega)) ?_
            refine j_aload_n (n := 214) dX10_findRooms_213 rfl rfl ?_
            refine j_iload (n := 216) dX10_findRooms_214 rfl rfl ?_
            refine j_iconst (n := 217) (v := nI 0) dX10_findRooms_216 rfl rfl ?_
            refine j_cV (n := 220) dX10_findRooms_217 rfl sX10_147 (c_lockOf (d + 3) G _ _ hk _ l 0 (by omega)) (by omega) (by decide) rfl rfl (Nat.le_of_ble_eq_true rfl) (hk).2.1 (by decide) (kM_lt hk) (by decide) (by decide) ?_
            refine j_ishr (n := 221) dX10_findRooms_220 rfl ?_
            refine j_iconst (n := 222) (v := nI 1) dX10_findRooms_221 rfl rfl ?_
            refine j_iand (n := 223) dX10_findRooms_222 rfl ?_
            refine j_top (y := nI (rowB p k (roomB p k K) K l K / 2 ^ p (50 + 5 * l + 0) % 2)) (bit_t _ (hlt K) _ (by omega)) ?_
            refine j_iconst (n := 224) (v := nI 1) dX10_findRooms_223 rfl rfl ?_
            refine j_icmp_neT (n := 227) (tg := 263) dX10_findRooms_224 rfl rfl (i_N (by omega)) (i_N (by omega)) (fun h4 => ?_) (fun h4 => ?_)
            · refine j_iconst (n := 264) (v := nI 0) dX10_findRooms_263 rfl rfl ?_
              refine j_istore (n := 266) (lv2 := [some (.ref 160), some (.int (nI k)), some (.int (nI (p (10 + 5 * k + 0)))), some (.int (nI K)), some (.int (nI l)), some (.int (nI (p (50 + 5 * l + 2)))), some (.int (nI (byN (p (50 + 5 * l + 2))))), some (.int (nI 0))]) dX10_findRooms_264 rfl rfl (by decide) rfl ?_
              refine j_aload_n (n := 267) dX10_findRooms_266 rfl rfl ?_
              refine jm_get (n := 270) (k := 12) (b := 172) dX10_findRooms_267 rfl fX10_43 rfl (by decide) hk ?_
              refine j_iload (n := 272) dX10_findRooms_270 rfl rfl ?_
              refine j_if_eqN (n := 275) (tg := 282) dX10_findRooms_272 rfl rfl (by omega) (fun h5 => ?_) (fun h5 => ?_)
              · refine j_iload_n (n := 283) dX10_findRooms_282 rfl rfl ?_
                refine j_dup2 (n := 284) dX10_findRooms_283 rfl rfl rfl ?_
                refine jm_ald (n := 285) (L := 729) (a := 172) (i := K) (v := nI (rowB p k (roomB p k K) K l (K))) dX10_findRooms_284 rfl hk rfl (by omega) (h172 _ (by omega)) ?_
                refine j_iload (n := 287) dX10_findRooms_285 rfl rfl ?_
                refine j_if_eqN (n := 290) (tg := 302) dX10_findRooms_287 rfl rfl (by omega) (fun h6 => ?_) (fun h6 => ?_)
                · refine j_iconst (n := 303) (v := nI 0) dX10_findRooms_302 rfl rfl ?_
                  refine j_ior (n := 304) dX10_findRooms_303 rfl ?_
                  refine j_top (y := nI (rowB p k (roomB p k K) K l K ||| 0)) (by rw [nI_or]) ?_
                  refine jm_ast (n := 305) (L := 729) (a := 172) (i := K) (x := nI (rowB p k (roomB p k K) K l K ||| 0)) (M2 := mm (zs M1 172 (upd (M1 172) (K) (nI (rowB p k (roomB p k K) K l K ||| 0)))) p) dX10_findRooms_304 rfl hk rfl (by omega) (mm_wo (by decide) rfl) ?_
                  refine j_iinc (n := 308) (y := nI (l + 1)) (lv2 := [some (.ref 160), some (.int (nI k)), some (.int (nI (p (10 + 5 * k + 0)))), some (.int (nI K)), some (.int (nI (l + 1))), some (.int (nI (p (50 + 5 * l + 2)))), some (.int (nI (byN (p (50 + 5 * l + 2))))), some (.int (nI 0))]) dX10_findRooms_305 rfl rfl (by decide) rfl (show nI l + nI 1 = nI (l + 1) by rw [nI_add]) rfl ?_
                  refine j_goto (n := 152) dX10_findRooms_308 rfl ?_
                  have eB : rowB p k (roomB p k K) K (l + 1) = pu (rowB p k (roomB p k K) K l) (K) (rowB p k (roomB p k K) K l K ||| 0) := by rw [rowB, pushB, if_neg (by omega)]; exact (pu_or0 _ _).symm
                  refine j_wk (lv2 := [some (.ref 160), some (.int (nI k)), some (.int (nI (p (10 + 5 * k + 0)))), some (.int (nI K)), some (.int (nI (l + 1))), none, none, none]) ⟨rfl, rfl, rfl, rfl, rfl, trivial⟩ ?_
                  exact ih _ (by omega) (l + 1) _ rfl (by omega) (hsc.tr (scw.s _ _ (by unfold scq; omega))) ((zs_ne _ _ (by decide)).trans h174) (fun z hz => by rw [zs_eq, eB]; unfold upd pu; split; rfl; exact h172 z hz) (fun z hz => by rw [zs_ne _ _ (by decide)]; exact h173 z hz)
                · exact absurd h6 (by decide)
              · exact absurd h5 (by decide)
            · refine j_iload_n (n := 228) dX10_findRooms_227 rfl rfl ?_
              refine j_aload_n (n := 229) dX10_findRooms_228 rfl rfl ?_
              refine jm_get (n := 232) (k := 13) (b := 173) dX10_findRooms_229 rfl fX10_46 rfl (by decide) hk ?_
              refine j_bipush (n := 234) (v := nI 9) dX10_findRooms_232 rfl (by decide) ?_
              refine j_iload (n := 236) dX10_findRooms_234 rfl rfl ?_
              refine j_imulN (n := 237) (c := 9 * (p (50 + 5 * l + 2))) dX10_findRooms_236 rfl rfl ?_
              refine j_iload_n (n := 238) dX10_findRooms_237 rfl rfl ?_
              refine j_iload (n := 240) dX10_findRooms_238 rfl rfl ?_
              refine j_idivN (n := 241) (c := K / (byN (p (50 + 5 * l + 2)))) dX10_findRooms_240 rfl (by omega) (by omega) (by omega) rfl ?_
              refine j_bipush (n := 243) (v := nI 9) dX10_findRooms_241 rfl (by decide) ?_
              refine j_iremN (n := 244) (c := (K / (byN (p (50 + 5 * l + 2)))) % 9) dX10_findRooms_243 rfl (by omega) (by omega) (by omega) rfl ?_
              refine j_iaddN (n := 245) (c := 9 * (p (50 + 5 * l + 2)) + ((K / (byN (p (50 + 5 * l + 2)))) % 9)) dX10_findRooms_244 rfl (by omega) ?_
              refine jm_ald (n := 246) (L := 27) (a := 173) (i := 9 * (p (50 + 5 * l + 2)) + ((K / (byN (p (50 + 5 * l + 2)))) % 9)) (v := nI (wtP p k (9 * p (50 + 5 * l + 2) + K / byN (p (50 + 5 * l + 2)) % 9))) dX10_findRooms_245 rfl hk rfl (by omega) (h173 _ (by omega)) ?_
              refine j_cS (n := 249) dX10_findRooms_246 rfl sX10_128 (c_feels (d + 3) G _ _ (p (10 + 5 * k + 0)) (wtP p k (9 * p (50 + 5 * l + 2) + K / byN (p (50 + 5 * l + 2)) % 9)) (by omega) (by omega)) (by omega) (by decide) rfl rfl (Nat.le_of_ble_eq_true rfl) (by decide) (by decide) ?_
              refine j_aload_n (n := 250) dX10_findRooms_249 rfl rfl ?_
              refine j_iload (n := 252) dX10_findRooms_250 rfl rfl ?_
              refine j_iconst (n := 253) (v := nI 3) dX10_findRooms_252 rfl rfl ?_
              refine j_cV (n := 256) dX10_findRooms_253 rfl sX10_147 (c_lockOf (d + 3) G _ _ hk _ l 3 (by omega)) (by omega) (by decide) rfl rfl (Nat.le_of_ble_eq_true rfl) (hk).2.1 (by decide) (kM_lt hk) (by decide) (by decide) ?_
              refine j_icmp_ltT (n := 259) (tg := 263) dX10_findRooms_256 rfl rfl (i_N (by omega)) (i_N (by omega)) (fun h7 => ?_) (fun h7 => ?_)
              · refine j_iconst (n := 264) (v := nI 0) dX10_findRooms_263 rfl rfl ?_
                refine j_istore (n := 266) (lv2 := [some (.ref 160), some (.int (nI k)), some (.int (nI (p (10 + 5 * k + 0)))), some (.int (nI K)), some (.int (nI l)), some (.int (nI (p (50 + 5 * l + 2)))), some (.int (nI (byN (p (50 + 5 * l + 2))))), some (.int (nI 0))]) dX10_findRooms_264 rfl rfl (by decide) rfl ?_
                refine j_aload_n (n := 267) dX10_findRooms_266 rfl rfl ?_
                refine jm_get (n := 270) (k := 12) (b := 172) dX10_findRooms_267 rfl fX10_43 rfl (by decide) hk ?_
                refine j_iload (n := 272) dX10_findRooms_270 rfl rfl ?_
                refine j_if_eqN (n := 275) (tg := 282) dX10_findRooms_272 rfl rfl (by omega) (fun h8 => ?_) (fun h8 => ?_)
                · refine j_iload_n (n := 283) dX10_findRooms_282 rfl rfl ?_
                  refine j_dup2 (n := 284) dX10_findRooms_283 rfl rfl rfl ?_
                  refine jm_ald (n := 285) (L := 729) (a := 172) (i := K) (v := nI (rowB p k (roomB p k K) K l (K))) dX10_findRooms_284 rfl hk rfl (by omega) (h172 _ (by omega)) ?_
                  refine j_iload (n := 287) dX10_findRooms_285 rfl rfl ?_
                  refine j_if_eqN (n := 290) (tg := 302) dX10_findRooms_287 rfl rfl (by omega) (fun h9 => ?_) (fun h9 => ?_)
                  · refine j_iconst (n := 303) (v := nI 0) dX10_findRooms_302 rfl rfl ?_
                    refine j_ior (n := 304) dX10_findRooms_303 rfl ?_
                    refine j_top (y := nI (rowB p k (roomB p k K) K l K ||| 0)) (by rw [nI_or]) ?_
                    refine jm_ast (n := 305) (L := 729) (a := 172) (i := K) (x := nI (rowB p k (roomB p k K) K l K ||| 0)) (M2 := mm (zs M1 172 (upd (M1 172) (K) (nI (rowB p k (roomB p k K) K l K ||| 0)))) p) dX10_findRooms_304 rfl hk rfl (by omega) (mm_wo (by decide) rfl) ?_
                    refine j_iinc (n := 308) (y := nI (l + 1)) (lv2 := [some (.ref 160), some (.int (nI k)), some (.int (nI (p (10 + 5 * k + 0)))), some (.int (nI K)), some (.int (nI (l + 1))), some (.int (nI (p (50 + 5 * l + 2)))), some (.int (nI (byN (p (50 + 5 * l + 2))))), some (.int (nI 0))]) dX10_findRooms_305 rfl rfl (by decide) rfl (show nI l + nI 1 = nI (l + 1) by rw [nI_add]) rfl ?_
                    refine j_goto (n := 152) dX10_findRooms_308 rfl ?_
                    have eB : rowB p k (roomB p k K) K (l + 1) = pu (rowB p k (roomB p k K) K l) (K) (rowB p k (roomB p k K) K l K ||| 0) := by rw [rowB, pushB, if_neg (by omega)]; exact (pu_or0 _ _).symm
                    refine j_wk (lv2 := [some (.ref 160), some (.int (nI k)), some (.int (nI (p (10 + 5 * k + 0)))), some (.int (nI K)), some (.int (nI (l + 1))), none, none, none]) ⟨rfl, rfl, rfl, rfl, rfl, trivial⟩ ?_
                    exact ih _ (by omega) (l + 1) _ rfl (by omega) (hsc.tr (scw.s _ _ (by unfold scq; omega))) ((zs_ne _ _ (by decide)).trans h174) (fun z hz => by rw [zs_eq, eB]; unfold upd pu; split; rfl; exact h172 z hz) (fun z hz => by rw [zs_ne _ _ (by decide)]; exact h173 z hz)
                  · exact absurd h9 (by decide)
                · exact absurd h8 (by decide)
              · refine j_iconst (n := 260) (v := nI 1) dX10_findRooms_259 rfl rfl ?_
                refine j_goto (n := 264) dX10_findRooms_260 rfl ?_
                refine j_istore (n := 266) (lv2 := [some (.ref 160), some (.int (nI k)), some (.int (nI (p (10 + 5 * k + 0)))), some (.int (nI K)), some (.int (nI l)), some (.int (nI (p (50 + 5 * l + 2)))), some (.int (nI (byN (p (50 + 5 * l + 2))))), some (.int (nI 1))]) dX10_findRooms_264 rfl rfl (by decide) rfl ?_
                refine j_aload_n (n := 267) dX10_findRooms_266 rfl rfl ?_
                refine jm_get (n := 270) (k := 12) (b := 172) dX10_findRooms_267 rfl fX10_43 rfl (by decide) hk ?_
                refine j_iload (n := 272) dX10_findRooms_270 rfl rfl ?_
                refine j_if_eqN (n := 275) (tg := 282) dX10_findRooms_272 rfl rfl (by omega) (fun h10 => ?_) (fun h10 => ?_)
                · exact absurd h10 (by decide)
                · refine j_iload_n (n := 276) dX10_findRooms_275 rfl rfl ?_
                  refine j_iload (n := 278) dX10_findRooms_276 rfl rfl ?_
                  refine j_iaddN (n := 279) (c := K + (byN (p (50 + 5 * l + 2)))) dX10_findRooms_278 rfl (by omega) ?_
                  refine j_goto (n := 283) dX10_findRooms_279 rfl ?_
                  refine j_dup2 (n := 284) dX10_findRooms_283 rfl rfl rfl ?_
                  refine jm_ald (n := 285) (L := 729) (a := 172) (i := K + (byN (p (50 + 5 * l + 2)))) (v := nI (rowB p k (roomB p k K) K l (K + (byN (p (50 + 5 * l + 2)))))) dX10_findRooms_284 rfl hk rfl (by omega) (h172 _ (by omega)) ?_
                  refine j_iload (n := 287) dX10_findRooms_285 rfl rfl ?_
                  refine j_if_eqN (n := 290) (tg := 302) dX10_findRooms_287 rfl rfl (by omega) (fun h11 => ?_) (fun h11 => ?_)
                  · exact absurd h11 (by decide)
                  · refine j_iconst (n := 291) (v := nI 1) dX10_findRooms_290 rfl rfl ?_
                    refine j_aload_n (n := 292) dX10_findRooms_291 rfl rfl ?_
                    refine j_iload (n := 294) dX10_findRooms_292 rfl rfl ?_
                    refine j_iconst (n := 295) (v := nI 1) dX10_findRooms_294 rfl rfl ?_
                    refine j_cV (n := 298) dX10_findRooms_295 rfl sX10_147 (c_lockOf (d + 3) G _ _ hk _ l 1 (by omega)) (by omega) (by decide) rfl rfl (Nat.le_of_ble_eq_true rfl) (hk).2.1 (by decide) (kM_lt hk) (by decide) (by decide) ?_
                    refine j_ishl (n := 299) dX10_findRooms_298 rfl ?_
                    refine j_goto (n := 303) dX10_findRooms_299 rfl ?_
                    refine j_ior (n := 304) dX10_findRooms_303 rfl ?_
                    refine j_top (y := nI (rowB p k (roomB p k K) K l (K + byN (p (50 + 5 * l + 2))) ||| 2 ^ p (50 + 5 * l + 1))) (by rw [one_shl _ (by omega), nI_or]) ?_
                    refine jm_ast (n := 305) (L := 729) (a := 172) (i := K + (byN (p (50 + 5 * l + 2)))) (x := nI (rowB p k (roomB p k K) K l (K + byN (p (50 + 5 * l + 2))) ||| 2 ^ p (50 + 5 * l + 1))) (M2 := mm (zs M1 172 (upd (M1 172) (K + (byN (p (50 + 5 * l + 2)))) (nI (rowB p k (roomB p k K) K l (K + byN (p (50 + 5 * l + 2))) ||| 2 ^ p (50 + 5 * l + 1))))) p) dX10_findRooms_304 rfl hk rfl (by omega) (mm_wo (by decide) rfl) ?_
                    refine j_iinc (n := 308) (y := nI (l + 1)) (lv2 := [some (.ref 160), some (.int (nI k)), some (.int (nI (p (10 + 5 * k + 0)))), some (.int (nI K)), some (.int (nI (l + 1))), some (.int (nI (p (50 + 5 * l + 2)))), some (.int (nI (byN (p (50 + 5 * l + 2))))), some (.int (nI 1))]) dX10_findRooms_305 rfl rfl (by decide) rfl (show nI l + nI 1 = nI (l + 1) by rw [nI_add]) rfl ?_
                    refine j_goto (n := 152) dX10_findRooms_308 rfl ?_
                    have eB : rowB p k (roomB p k K) K (l + 1) = pu (rowB p k (roomB p k K) K l) (K + (byN (p (50 + 5 * l + 2)))) (rowB p k (roomB p k K) K l (K + byN (p (50 + 5 * l + 2))) ||| 2 ^ p (50 + 5 * l + 1)) := by rw [rowB, pushB, if_pos ⟨by omega, by omega, by omega⟩]
                    refine j_wk (lv2 := [some (.ref 160), some (.int (nI k)), some (.int (nI (p (10 + 5 * k + 0)))), some (.int (nI K)), some (.int (nI (l + 1))), none, none, none]) ⟨rfl, rfl, rfl, rfl, rfl, trivial⟩ ?_
                    exact ih _ (by omega) (l + 1) _ rfl (by omega) (hsc.tr (scw.s _ _ (by unfold scq; omega))) ((zs_ne _ _ (by decide)).trans h174) (fun z hz => by rw [zs_eq, eB]; unfold upd pu; split; rfl; exact h172 z hz) (fun z hz => by rw [zs_ne _ _ (by decide)]; exact h173 z hz)
        refine j_aload_n (n := 165) dX10_findRooms_164 rfl rfl ?_
        refine j_iload (n := 167) dX10_findRooms_165 rfl rfl ?_
        refine j_iconst (n := 168) (v := nI 2) dX10_findRooms_167 rfl rfl ?_
        refine j_cV (n := 171) dX10_findRooms_168 rfl sX10_147 (c_lockOf (d + 3) G _ _ hk _ l 2 (by omega)) (by omega) (by decide) rfl rfl (Nat.le_of_ble_eq_true rfl) (hk).2.1 (by decide) (kM_lt hk) (by decide) (by decide) ?_
        refine j_istore (n := 173) (lv2 := [some (.ref 160), some (.int (nI k)), some (.int (nI (p (10 + 5 * k + 0)))), some (.int (nI K)), some (.int (nI l)), some (.int (nI (p (50 + 5 * l + 2)))), none, none]) dX10_findRooms_171 rfl rfl (by decide) rfl ?_
        refine j_iload (n := 175) dX10_findRooms_173 rfl rfl ?_
        refine j_if_neN (n := 178) (tg := 183) dX10_findRooms_175 rfl rfl (by omega) (fun h13 => ?_) (fun h13 => ?_)
        · refine j_iload (n := 185) dX10_findRooms_183 rfl rfl ?_
          refine j_iconst (n := 186) (v := nI 1) dX10_findRooms_185 rfl rfl ?_
          refine j_icmp_neT (n := 189) (tg := 194) dX10_findRooms_186 rfl rfl (i_N (by omega)) (i_N (by omega)) (fun h14 => ?_) (fun h14 => ?_)
          · refine j_iconst (n := 195) (v := nI 1) dX10_findRooms_194 rfl rfl ?_
            refine j_top (y := nI (byN (p (50 + 5 * l + 2)))) (congrArg nI (show _ = byN _ by unfold byN; repeat (first | rw [if_pos (by omega)] | rw [if_neg (by omega)]))) ?_
            refine j_istore (n := 197) (lv2 := [some (.ref 160), some (.int (nI k)), some (.int (nI (p (10 + 5 * k + 0)))), some (.int (nI K)), some (.int (nI l)), some (.int (nI (p (50 + 5 * l + 2)))), some (.int (nI (byN (p (50 + 5 * l + 2))))), none]) dX10_findRooms_195 rfl rfl (by decide) rfl ?_
            exact e197
          · refine j_bipush (n := 191) (v := nI 9) dX10_findRooms_189 rfl (by decide) ?_
            refine j_goto (n := 195) dX10_findRooms_191 rfl ?_
            refine j_top (y := nI (byN (p (50 + 5 * l + 2)))) (congrArg nI (show _ = byN _ by unfold byN; repeat (first | rw [if_pos (by omega)] | rw [if_neg (by omega)]))) ?_
            refine j_istore (n := 197) (lv2 := [some (.ref 160), some (.int (nI k)), some (.int (nI (p (10 + 5 * k + 0)))), some (.int (nI K)), some (.int (nI l)), some (.int (nI (p (50 + 5 * l + 2)))), some (.int (nI (byN (p (50 + 5 * l + 2))))), none]) dX10_findRooms_195 rfl rfl (by decide) rfl ?_
            exact e197
        · refine j_bipush (n := 180) (v := nI 81) dX10_findRooms_178 rfl (by decide) ?_
          refine j_goto (n := 195) dX10_findRooms_180 rfl ?_
          refine j_top (y := nI (byN (p (50 + 5 * l + 2)))) (congrArg nI (show _ = byN _ by unfold byN; repeat (first | rw [if_pos (by omega)] | rw [if_neg (by omega)]))) ?_
          refine j_istore (n := 197) (lv2 := [some (.ref 160), some (.int (nI k)), some (.int (nI (p (10 + 5 * k + 0)))), some (.int (nI K)), some (.int (nI l)), some (.int (nI (p (50 + 5 * l + 2)))), some (.int (nI (byN (p (50 + 5 * l + 2))))), none]) dX10_findRooms_195 rfl rfl (by decide) rfl ?_
          exact e197
  have eC : ∀ (j K : Nat) (M1 : zMem), 729 - K = j → K ≤ 729 → scw M M1 → M1 174 = M 174 → (∀ z, z < 729 → M1 172 z = nI (roomB p k K z)) → (∀ z, z < 27 → M1 173 z = nI (wtP p k z)) → zAt G miX10_findRooms (zRm (d + 4) 0 0) (zQ G (zVr (fun M1 X1 => X1 = X ∧ ∃ M2, (scw M M2 ∧ (∀ K, K < 729 → M2 172 K = nI (roomB p k 729 K)) ∧ M2 174 = M 174) ∧ M1 = mm M2 p)) 0 0) 124 [some (.ref 160), some (.int (nI k)), some (.int (nI (p (10 + 5 * k + 0)))), some (.int (nI K)), none, none, none, none] [] (mm M1 p) X (0, 0) := by
    intro j
    induction j using Nat.strongRecOn with
    | ind j ih =>
      intro K M1 hj hK0 hsc h174 h172 h173
      refine j_iload_n (n := 125) dX10_findRooms_124 rfl rfl ?_
      refine j_sipush (n := 128) (v := nI 729) dX10_findRooms_125 rfl (by decide) ?_
      refine j_icmp_geT (n := 131) (tg := 317) dX10_findRooms_128 rfl rfl (i_N (by omega)) (i_N (by omega)) (fun h15 => ?_) (fun h15 => ?_)
      · exact j_vret dX10_findRooms_317 rfl (Nat.le_refl _) (Nat.le_refl _) ⟨rfl, rfl, M1, ⟨hsc, (fun z hz => by rw [h172 z hz, show K = 729 by omega]), h174⟩, rfl⟩
      · have hlt := roomB_lt hwl hw hk1 K K
        have hlatb : lat K ≤ 24 := by unfold lat; omega
        refine j_aload_n (n := 132) dX10_findRooms_131 rfl rfl ?_
        refine jm_get (n := 135) (k := 12) (b := 172) dX10_findRooms_132 rfl fX10_43 rfl (by decide) hk ?_
        refine j_iload_n (n := 136) dX10_findRooms_135 rfl rfl ?_
        refine jm_ald (n := 137) (L := 729) (a := 172) (i := K) (v := nI (roomB p k K K)) dX10_findRooms_136 rfl hk rfl (by omega) (h172 K (by omega)) ?_
        refine j_if_leM (n := 140) (tg := 311) dX10_findRooms_137 rfl rfl (by omega) (fun h16 => ?_) (fun h16 => ?_)
        · refine j_iinc (n := 314) (y := nI (K + 1)) (lv2 := [some (.ref 160), some (.int (nI k)), some (.int (nI (p (10 + 5 * k + 0)))), some (.int (nI (K + 1))), none, none, none, none]) dX10_findRooms_311 rfl rfl (by decide) rfl (show nI K + nI 1 = nI (K + 1) by rw [nI_add]) rfl ?_
          refine j_goto (n := 124) dX10_findRooms_314 rfl ?_
          refine j_wk (lv2 := [some (.ref 160), some (.int (nI k)), some (.int (nI (p (10 + 5 * k + 0)))), some (.int (nI (K + 1))), none, none, none, none]) ⟨rfl, rfl, rfl, rfl, trivial⟩ ?_
          exact ih _ (by omega) (K + 1) M1 rfl (by omega) hsc h174 (fun z hz => by rw [h172 z hz, roomB, if_neg (by omega)]) h173
        · refine j_iload_n (n := 141) dX10_findRooms_140 rfl rfl ?_
          refine j_cS (n := 144) dX10_findRooms_141 rfl sX10_191 (c_latches (d + 3) G _ _ K (by omega)) (by omega) (by decide) rfl rfl (Nat.le_of_ble_eq_true rfl) (by decide) (by decide) ?_
          refine j_bipush (n := 146) (v := nI 8) dX10_findRooms_144 rfl (by decide) ?_
          refine j_icmp_geT (n := 149) (tg := 311) dX10_findRooms_146 rfl rfl (i_N (by omega)) (i_N (by omega)) (fun h17 => ?_) (fun h17 => ?_)
          · refine j_iinc (n := 314) (y := nI (K + 1)) (lv2 := [some (.ref 160), some (.int (nI k)), some (.int (nI (p (10 + 5 * k + 0)))), some (.int (nI (K + 1))), none, none, none, none]) dX10_findRooms_311 rfl rfl (by decide) rfl (show nI K + nI 1 = nI (K + 1) by rw [nI_add]) rfl ?_
            refine j_goto (n := 124) dX10_findRooms_314 rfl ?_
            refine j_wk (lv2 := [some (.ref 160), some (.int (nI k)), some (.int (nI (p (10 + 5 * k + 0)))), some (.int (nI (K + 1))), none, none, none, none]) ⟨rfl, rfl, rfl, rfl, trivial⟩ ?_
            exact ih _ (by omega) (K + 1) M1 rfl (by omega) hsc h174 (fun z hz => by rw [h172 z hz, roomB, if_neg (by omega)]) h173
          · refine j_iconst (n := 150) (v := nI 0) dX10_findRooms_149 rfl rfl ?_
            refine j_istore (n := 152) (lv2 := [some (.ref 160), some (.int (nI k)), some (.int (nI (p (10 + 5 * k + 0)))), some (.int (nI K)), some (.int (nI 0)), none, none, none]) dX10_findRooms_150 rfl rfl (by decide) rfl ?_
            refine eD K (by omega) (by omega) (fun M1 hsc h174 h172 h173 => ?_) _ 0 M1 rfl (Nat.zero_le _) hsc h174 h172 h173
            refine j_iinc (n := 314) (y := nI (K + 1)) (lv2 := [some (.ref 160), some (.int (nI k)), some (.int (nI (p (10 + 5 * k + 0)))), some (.int (nI (K + 1))), none, none, none, none]) dX10_findRooms_311 rfl rfl (by decide) rfl (show nI K + nI 1 = nI (K + 1) by rw [nI_add]) rfl ?_
            refine j_goto (n := 124) dX10_findRooms_314 rfl ?_
            exact ih _ (by omega) (K + 1) M1 rfl (by omega) hsc h174 (fun z hz => by rw [h172 z hz, roomB, if_pos ⟨by omega, by omega⟩]) h173
  have eB : ∀ (j K : Nat) (M1 : zMem), 729 - K = j → K ≤ 729 → scw M M1 → M1 174 = M 174 → (∀ z, z < K → M1 172 z = nI (initB p k z)) → (∀ z, z < 27 → M1 173 z = nI (wtP p k z)) → zAt G miX10_findRooms (zRm (d + 4) 0 0) (zQ G (zVr (fun M1 X1 => X1 = X ∧ ∃ M2, (scw M M2 ∧ (∀ K, K < 729 → M2 172 K = nI (roomB p k 729 K)) ∧ M2 174 = M 174) ∧ M1 = mm M2 p)) 0 0) 87 [some (.ref 160), some (.int (nI k)), some (.int (nI (p (10 + 5 * k + 0)))), some (.int (nI K)), none, none, none, none] [] (mm M1 p) X (0, 0) := by
    intro j
    induction j using Nat.strongRecOn with
    | ind j ih =>
      intro K M1 hj hK0 hsc h174 h172 h173
      refine j_iload_n (n := 88) dX10_findRooms_87 rfl rfl ?_
      refine j_sipush (n := 91) (v := nI 729) dX10_findRooms_88 rfl (by decide) ?_
      refine j_icmp_geT (n := 94) (tg := 122) dX10_findRooms_91 rfl rfl (i_N (by omega)) (i_N (by omega)) (fun h18 => ?_) (fun h18 => ?_)
      · refine j_iconst (n := 123) (v := nI 0) dX10_findRooms_122 rfl rfl ?_
        refine j_istore_n (n := 124) (lv2 := [some (.ref 160), some (.int (nI k)), some (.int (nI (p (10 + 5 * k + 0)))), some (.int (nI 0)), none, none, none, none]) dX10_findRooms_123 rfl rfl (by decide) rfl ?_
        exact eC _ 0 M1 rfl (Nat.zero_le _) hsc h174 (fun z hz => h172 z (by omega)) h173
      · refine j_aload_n (n := 95) dX10_findRooms_94 rfl rfl ?_
        refine jm_get (n := 98) (k := 12) (b := 172) dX10_findRooms_95 rfl fX10_43 rfl (by decide) hk ?_
        refine j_iload_n (n := 99) dX10_findRooms_98 rfl rfl ?_
        refine j_iload_n (n := 100) dX10_findRooms_99 rfl rfl ?_
        refine j_if_neN (n := 103) (tg := 114) dX10_findRooms_100 rfl rfl (by omega) (fun h19 => ?_) (fun h19 => ?_)
        · refine j_iconst (n := 115) (v := nI 0) dX10_findRooms_114 rfl rfl ?_
          refine jm_ast (n := 116) (L := 729) (a := 172) (i := K) (x := nI 0) (M2 := mm (zs M1 172 (upd (M1 172) K (nI 0))) p) dX10_findRooms_115 rfl hk rfl (by omega) (mm_wo (by decide) rfl) ?_
          refine j_iinc (n := 119) (y := nI (K + 1)) (lv2 := [some (.ref 160), some (.int (nI k)), some (.int (nI (p (10 + 5 * k + 0)))), some (.int (nI (K + 1))), none, none, none, none]) dX10_findRooms_116 rfl rfl (by decide) rfl (show nI K + nI 1 = nI (K + 1) by rw [nI_add]) rfl ?_
          refine j_goto (n := 87) dX10_findRooms_119 rfl ?_
          exact ih _ (by omega) (K + 1) _ rfl (by omega) (hsc.tr (scw.s _ _ (by unfold scq; omega))) ((zs_ne _ _ (by decide)).trans h174) (fun z hz => by rw [zs_eq]; unfold upd; split; (rename_i e; rw [e]; unfold initB; first | (rw [if_pos (by omega)]; exact one_shl _ (by omega)) | rw [if_neg (by omega)]); exact h172 z (by omega)) (fun z hz => by rw [zs_ne _ _ (by decide)]; exact h173 z hz)
        · refine j_iconst (n := 104) (v := nI 1) dX10_findRooms_103 rfl rfl ?_
          refine j_aload_n (n := 105) dX10_findRooms_104 rfl rfl ?_
          refine j_iload_n (n := 106) dX10_findRooms_105 rfl rfl ?_
          refine j_iconst (n := 107) (v := nI 1) dX10_findRooms_106 rfl rfl ?_
          refine j_cV (n := 110) dX10_findRooms_107 rfl sX10_114 (c_of (d + 3) G _ _ hk _ k 1 (by omega)) (by omega) (by decide) rfl rfl (Nat.le_of_ble_eq_true rfl) (hk).2.1 (by decide) (kM_lt hk) (by decide) (by decide) ?_
          refine j_ishl (n := 111) dX10_findRooms_110 rfl ?_
          refine j_goto (n := 115) dX10_findRooms_111 rfl ?_
          refine jm_ast (n := 116) (L := 729) (a := 172) (i := K) (x := (nI 1) <<< ((nI (p (10 + 5 * k + 1))) &&& 31)) (M2 := mm (zs M1 172 (upd (M1 172) K ((nI 1) <<< ((nI (p (10 + 5 * k + 1))) &&& 31)))) p) dX10_findRooms_115 rfl hk rfl (by omega) (mm_wo (by decide) rfl) ?_
          refine j_iinc (n := 119) (y := nI (K + 1)) (lv2 := [some (.ref 160), some (.int (nI k)), some (.int (nI (p (10 + 5 * k + 0)))), some (.int (nI (K + 1))), none, none, none, none]) dX10_findRooms_116 rfl rfl (by decide) rfl (show nI K + nI 1 = nI (K + 1) by rw [nI_add]) rfl ?_
          refine j_goto (n := 87) dX10_findRooms_119 rfl ?_
          exact ih _ (by omega) (K + 1) _ rfl (by omega) (hsc.tr (scw.s _ _ (by unfold scq; omega))) ((zs_ne _ _ (by decide)).trans h174) (fun z hz => by rw [zs_eq]; unfold upd; split; (rename_i e; rw [e]; unfold initB; first | (rw [if_pos (by omega)]; exact one_shl _ (by omega)) | rw [if_neg (by omega)]); exact h172 z (by omega)) (fun z hz => by rw [zs_ne _ _ (by decide)]; exact h173 z hz)
  have eA : ∀ (j q : Nat) (M1 : zMem), 3 - q = j → q ≤ 3 → scw M M1 → M1 174 = M 174 → (∀ z, z < 9 * q → M1 173 z = nI (wtP p k z)) → zAt G miX10_findRooms (zRm (d + 4) 0 0) (zQ G (zVr (fun M1 X1 => X1 = X ∧ ∃ M2, (scw M M2 ∧ (∀ K, K < 729 → M2 172 K = nI (roomB p k 729 K)) ∧ M2 174 = M 174) ∧ M1 = mm M2 p)) 0 0) 9 [some (.ref 160), some (.int (nI k)), some (.int (nI (p (10 + 5 * k + 0)))), some (.int (nI q)), none, none, none, none] [] (mm M1 p) X (0, 0) := by
    intro j
    induction j using Nat.strongRecOn with
    | ind j ih =>
      intro q M1 hj hq0 hsc h174 h173
      refine j_iload_n (n := 10) dX10_findRooms_9 rfl rfl ?_
      refine j_iconst (n := 11) (v := nI 3) dX10_findRooms_10 rfl rfl ?_
      refine j_icmp_geT (n := 14) (tg := 85) dX10_findRooms_11 rfl rfl (i_N (by omega)) (i_N (by omega)) (fun h20 => ?_) (fun h20 => ?_)
      · refine j_iconst (n := 86) (v := nI 0) dX10_findRooms_85 rfl rfl ?_
        refine j_istore_n (n := 87) (lv2 := [some (.ref 160), some (.int (nI k)), some (.int (nI (p (10 + 5 * k + 0)))), some (.int (nI 0)), none, none, none, none]) dX10_findRooms_86 rfl rfl (by decide) rfl ?_
        exact eB _ 0 M1 rfl (Nat.zero_le _) hsc h174 (fun z hz => absurd hz (Nat.not_lt_zero _)) (fun z hz => h173 z (by omega))
      · have hr := hw.reg hk1 (j := q) (by omega)
        refine j_aload_n (n := 15) dX10_findRooms_14 rfl rfl ?_
        refine jm_get (n := 18) (k := 13) (b := 173) dX10_findRooms_15 rfl fX10_46 rfl (by decide) hk ?_
        refine j_bipush (n := 20) (v := nI 9) dX10_findRooms_18 rfl (by decide) ?_
        refine j_iload_n (n := 21) dX10_findRooms_20 rfl rfl ?_
        refine j_imulN (n := 22) (c := 9 * q) dX10_findRooms_21 rfl rfl ?_
        refine j_aload_n (n := 23) dX10_findRooms_22 rfl rfl ?_
        refine j_iload_n (n := 24) dX10_findRooms_23 rfl rfl ?_
        refine j_iconst (n := 25) (v := nI 2) dX10_findRooms_24 rfl rfl ?_
        refine j_iload_n (n := 26) dX10_findRooms_25 rfl rfl ?_
        refine j_iaddN (n := 27) (c := 2 + q) dX10_findRooms_26 rfl rfl ?_
        refine j_cV (n := 30) dX10_findRooms_27 rfl sX10_114 (c_of (d + 3) G _ _ hk _ k (2 + q) (by omega)) (by omega) (by decide) rfl rfl (Nat.le_of_ble_eq_true rfl) (hk).2.1 (by decide) (kM_lt hk) (by decide) (by decide) ?_
        refine jm_ast (n := 31) (L := 27) (a := 173) (i := 9 * q) (x := nI (p (10 + 5 * k + (2 + q)))) (M2 := mm (zs M1 173 (upd (M1 173) (9 * q) (nI (p (10 + 5 * k + (2 + q)))))) p) dX10_findRooms_30 rfl hk rfl (by omega) (mm_wo (by decide) rfl) ?_
        refine j_iconst (n := 32) (v := nI 1) dX10_findRooms_31 rfl rfl ?_
        refine j_istore (n := 34) (lv2 := [some (.ref 160), some (.int (nI k)), some (.int (nI (p (10 + 5 * k + 0)))), some (.int (nI q)), some (.int (nI 1)), none, none, none]) dX10_findRooms_32 rfl rfl (by decide) rfl ?_
        have eN : ∀ (i n : Nat) (M1 : zMem), 9 - n = i → 1 ≤ n → n ≤ 9 → scw M M1 → M1 174 = M 174 → (∀ z, z < 9 * q + n → M1 173 z = nI (wtP p k z)) → zAt G miX10_findRooms (zRm (d + 4) 0 0) (zQ G (zVr (fun M1 X1 => X1 = X ∧ ∃ M2, (scw M M2 ∧ (∀ K, K < 729 → M2 172 K = nI (roomB p k 729 K)) ∧ M2 174 = M 174) ∧ M1 = mm M2 p)) 0 0) 34 [some (.ref 160), some (.int (nI k)), some (.int (nI (p (10 + 5 * k + 0)))), some (.int (nI q)), some (.int (nI n)), none, none, none] [] (mm M1 p) X (0, 0) := by
          intro i
          induction i using Nat.strongRecOn with
          | ind i ih2 =>
            intro n M1 hi hn1 hn0 hsc h174 h173
            refine j_iload (n := 36) dX10_findRooms_34 rfl rfl ?_
            refine j_bipush (n := 38) (v := nI 9) dX10_findRooms_36 rfl (by decide) ?_
            refine j_icmp_geT (n := 41) (tg := 79) dX10_findRooms_38 rfl rfl (i_N (by omega)) (i_N (by omega)) (fun h21 => ?_) (fun h21 => ?_)
            · refine j_iinc (n := 82) (y := nI (q + 1)) (lv2 := [some (.ref 160), some (.int (nI k)), some (.int (nI (p (10 + 5 * k + 0)))), some (.int (nI (q + 1))), some (.int (nI n)), none, none, none]) dX10_findRooms_79 rfl rfl (by decide) rfl (show nI q + nI 1 = nI (q + 1) by rw [nI_add]) rfl ?_
              refine j_goto (n := 9) dX10_findRooms_82 rfl ?_
              refine j_wk (lv2 := [some (.ref 160), some (.int (nI k)), some (.int (nI (p (10 + 5 * k + 0)))), some (.int (nI (q + 1))), none, none, none, none]) ⟨rfl, rfl, rfl, rfl, trivial⟩ ?_
              exact ih _ (by omega) (q + 1) M1 rfl (by omega) hsc h174 (fun z hz => h173 z (by omega))
            · have hwl9 := hwt9 (9 * q + n - 1) (by omega)
              refine j_aload_n (n := 42) dX10_findRooms_41 rfl rfl ?_
              refine jm_get (n := 45) (k := 13) (b := 173) dX10_findRooms_42 rfl fX10_46 rfl (by decide) hk ?_
              refine j_bipush (n := 47) (v := nI 9) dX10_findRooms_45 rfl (by decide) ?_
              refine j_iload_n (n := 48) dX10_findRooms_47 rfl rfl ?_
              refine j_imulN (n := 49) (c := 9 * q) dX10_findRooms_48 rfl rfl ?_
              refine j_iload (n := 51) dX10_findRooms_49 rfl rfl ?_
              refine j_iaddN (n := 52) (c := 9 * q + n) dX10_findRooms_51 rfl rfl ?_
              refine j_aload_n (n := 53) dX10_findRooms_52 rfl rfl ?_
              refine j_iload_n (n := 54) dX10_findRooms_53 rfl rfl ?_
              refine j_aload_n (n := 55) dX10_findRooms_54 rfl rfl ?_
              refine jm_get (n := 58) (k := 13) (b := 173) dX10_findRooms_55 rfl fX10_46 rfl (by decide) hk ?_
              refine j_bipush (n := 60) (v := nI 9) dX10_findRooms_58 rfl (by decide) ?_
              refine j_iload_n (n := 61) dX10_findRooms_60 rfl rfl ?_
              refine j_imulN (n := 62) (c := 9 * q) dX10_findRooms_61 rfl rfl ?_
              refine j_iload (n := 64) dX10_findRooms_62 rfl rfl ?_
              refine j_iaddN (n := 65) (c := 9 * q + n) dX10_findRooms_64 rfl rfl ?_
              refine j_iconst (n := 66) (v := nI 1) dX10_findRooms_65 rfl rfl ?_
              refine j_isubN (n := 67) (c := 9 * q + n - 1) dX10_findRooms_66 rfl (by omega) (by omega) ?_
              refine jm_ald (n := 68) (L := 27) (a := 173) (i := 9 * q + n - 1) (v := nI (wtP p k (9 * q + n - 1))) dX10_findRooms_67 rfl hk rfl (by omega) (h173 _ (by omega)) ?_
              refine j_iload_n (n := 69) dX10_findRooms_68 rfl rfl ?_
              refine j_cVr (n := 72) dX10_findRooms_69 rfl sX10_165 (c_worn d G _ _ hk _ hwt hd2 _ (wtP p k (9 * q + n - 1)) q (by omega) (by omega) (by omega)) (by omega) (by decide) rfl rfl (Nat.le_of_ble_eq_true rfl) (hk).2.1 (by decide) (kM_lt hk) (by decide) (by decide) (fun r22 N22 Y22 hh22 => ?_)
              obtain ⟨e122, e222, M_22, hs22, e322⟩ := hh22
              rw [e122, e222, e322]
              rw [show wornP p (p (10 + 5 * k + 0)) (wtP p k (9 * q + n - 1)) q = wtP p k (9 * q + n) by unfold wtP; rw [show (9 * q + n - 1) / 9 = q by omega, show (9 * q + n - 1) % 9 = n - 1 by omega, show (9 * q + n) / 9 = q by omega, show (9 * q + n) % 9 = (n - 1) + 1 by omega, wnP]]
              refine jm_ast (n := 73) (L := 27) (a := 173) (i := 9 * q + n) (x := nI (wtP p k (9 * q + n))) (M2 := mm (zs M_22 173 (upd (M_22 173) (9 * q + n) (nI (wtP p k (9 * q + n))))) p) dX10_findRooms_72 rfl hk rfl (by omega) (mm_wo (by decide) rfl) ?_
              refine j_iinc (n := 76) (y := nI (n + 1)) (lv2 := [some (.ref 160), some (.int (nI k)), some (.int (nI (p (10 + 5 * k + 0)))), some (.int (nI q)), some (.int (nI (n + 1))), none, none, none]) dX10_findRooms_73 rfl rfl (by decide) rfl (show nI n + nI 1 = nI (n + 1) by rw [nI_add]) rfl ?_
              refine j_goto (n := 34) dX10_findRooms_76 rfl ?_
              exact ih2 _ (by omega) (n + 1) _ rfl (by omega) (by omega) (((hsc).tr hs22.w).tr (scw.s _ _ (by unfold scq; omega))) ((zs_ne _ _ (by decide)).trans ((hs22 174 (by decide) (by decide)).trans h174)) (fun z hz => by rw [zs_eq]; unfold upd; split; (rename_i e; rw [e]); exact (congrFun (hs22 173 (by decide) (by decide)) z).trans (h173 z (by omega)))
        exact eN _ 1 _ rfl (Nat.le_refl _) (by omega) (hsc.tr (scw.s _ _ (by unfold scq; omega))) ((zs_ne _ _ (by decide)).trans h174) (fun z hz => by rw [zs_eq]; unfold upd; split; (rename_i e; rw [e]; unfold wtP; rw [show 9 * q / 9 = q by omega, show 9 * q % 9 = 0 by omega, wnP]); exact h173 z (by omega))
  refine j_aload_n (n := 1) dX10_findRooms_0 rfl rfl ?_
  refine j_iload_n (n := 2) dX10_findRooms_1 rfl rfl ?_
  refine j_iconst (n := 3) (v := nI 0) dX10_findRooms_2 rfl rfl ?_
  refine j_cV (n := 6) dX10_findRooms_3 rfl sX10_114 (c_of (d + 3) G _ _ hk _ k 0 (by omega)) (by omega) (by decide) rfl rfl (Nat.le_of_ble_eq_true rfl) (hk).2.1 (by decide) (kM_lt hk) (by decide) (by decide) ?_
  refine j_istore_n (n := 7) (lv2 := [some (.ref 160), some (.int (nI k)), some (.int (nI (p (10 + 5 * k + 0)))), none, none, none, none, none]) dX10_findRooms_6 rfl rfl (by decide) rfl ?_
  refine j_iconst (n := 8) (v := nI 0) dX10_findRooms_7 rfl rfl ?_
  refine j_istore_n (n := 9) (lv2 := [some (.ref 160), some (.int (nI k)), some (.int (nI (p (10 + 5 * k + 0)))), some (.int (nI 0)), none, none, none, none]) dX10_findRooms_8 rfl rfl (by decide) rfl ?_
  exact eA _ 0 M rfl (Nat.zero_le _) (scw.rf M) rfl (fun z hz => absurd hz (by omega))
/-- all cells' rooms together -/
def orB (B : Nat → Nat) : Nat → Nat
  | 0 => 0
  | K + 1 => orB B K ||| B K
def reachV (p : Nat → Nat) (k : Nat) : Int32 := nI (orB (roomB p k 729) 729)
theorem c_reached (d : Nat) (G : zG) (M : zMem) (X : zX) (hk : kM X) (p : Nat → Nat) (hw : wfO p) (hwl : wfL p) (hwt : wfT p) (hd2 : p 2 < 2147483648) (k : Nat) (hk1 : k < p 0) : zCall G miX10_reached (d + 5) [.ref 160, .int (nI k)] (zIr (fun r0 M1 X1 => r0 = reachV p k ∧ X1 = X ∧ ∃ M2, (scw M M2 ∧ M2 174 = M 174) ∧ M1 = mm M2 p)) (mm M p) X 0 0 := by
  refine zCall.of (lv := [some (.ref 160), some (.int (nI k)), none, none]) (by decide) (Nat.le_of_ble_eq_true rfl) rfl ?_
  have hw0 := hw.1
  refine j_aload_n (n := 1) dX10_reached_0 rfl rfl ?_
  refine j_iload_n (n := 2) dX10_reached_1 rfl rfl ?_
  refine j_cVvr (n := 5) dX10_reached_2 rfl sX10_194 (c_findRooms d G _ _ hk _ hw hwl hwt hd2 k hk1) (by omega) (by decide) rfl rfl (Nat.le_of_ble_eq_true rfl) (hk).2.1 (by decide) (kM_lt hk) (by decide) (by decide) (fun N1 Y1 hh1 => ?_)
  obtain ⟨e21, M_1, ⟨hs1, hr1, h41⟩, e31⟩ := hh1
  rw [e21, e31]
  refine j_iconst (n := 6) (v := nI 0) dX10_reached_5 rfl rfl ?_
  refine j_istore_n (n := 7) (lv2 := [some (.ref 160), some (.int (nI k)), some (.int (nI 0)), none]) dX10_reached_6 rfl rfl (by decide) rfl ?_
  refine j_iconst (n := 8) (v := nI 0) dX10_reached_7 rfl rfl ?_
  refine j_istore_n (n := 9) (lv2 := [some (.ref 160), some (.int (nI k)), some (.int (nI 0)), some (.int (nI 0))]) dX10_reached_8 rfl rfl (by decide) rfl ?_
  have loop : ∀ (j K : Nat), 729 - K = j → K ≤ 729 → zAt G miX10_reached (zRm (d + 5) 0 0) (zQ G (zIr (fun r0 M1 X1 => r0 = reachV p k ∧ X1 = X ∧ ∃ M2, (scw M M2 ∧ M2 174 = M 174) ∧ M1 = mm M2 p)) 0 0) 9 [some (.ref 160), some (.int (nI k)), some (.int (nI (orB (roomB p k 729) K))), some (.int (nI K))] [] (mm M_1 p) X (0, 0) := by
    intro j
    induction j using Nat.strongRecOn with
    | ind j ih =>
      intro K hj hK0
      refine j_iload_n (n := 10) dX10_reached_9 rfl rfl ?_
      refine j_sipush (n := 13) (v := nI 729) dX10_reached_10 rfl (by decide) ?_
      refine j_icmp_geT (n := 16) (tg := 31) dX10_reached_13 rfl rfl (i_N (by omega)) (i_N (by omega)) (fun h2 => ?_) (fun h2 => ?_)
      · refine j_iload_n (n := 32) dX10_reached_31 rfl rfl ?_
        exact j_iret dX10_reached_32 rfl rfl (Nat.le_refl _) (Nat.le_refl _) ⟨_, rfl, by unfold reachV; rw [show K = 729 by omega], rfl, _, ⟨(scw.rf M).tr hs1, h41⟩, rfl⟩
      · refine j_iload_n (n := 17) dX10_reached_16 rfl rfl ?_
        refine j_aload_n (n := 18) dX10_reached_17 rfl rfl ?_
        refine jm_get (n := 21) (k := 12) (b := 172) dX10_reached_18 rfl fX10_43 rfl (by decide) hk ?_
        refine j_iload_n (n := 22) dX10_reached_21 rfl rfl ?_
        refine jm_ald (n := 23) (L := 729) (a := 172) (i := K) (v := nI (roomB p k 729 K)) dX10_reached_22 rfl hk rfl (by omega) (hr1 K (by omega)) ?_
        refine j_ior (n := 24) dX10_reached_23 rfl ?_
        refine j_top (y := nI (orB (roomB p k 729) (K + 1))) (nI_or _ _) ?_
        refine j_istore_n (n := 25) (lv2 := [some (.ref 160), some (.int (nI k)), some (.int (nI (orB (roomB p k 729) (K + 1)))), some (.int (nI K))]) dX10_reached_24 rfl rfl (by decide) rfl ?_
        refine j_iinc (n := 28) (y := nI (K + 1)) (lv2 := [some (.ref 160), some (.int (nI k)), some (.int (nI (orB (roomB p k 729) (K + 1)))), some (.int (nI (K + 1)))]) dX10_reached_25 rfl rfl (by decide) rfl (show nI K + nI 1 = nI (K + 1) by rw [nI_add]) rfl ?_
        refine j_goto (n := 9) dX10_reached_28 rfl ?_
        exact ih _ (by omega) (K + 1) rfl (by omega)
  exact loop _ 0 rfl (Nat.zero_le _)
def r_reach (p : Nat → Nat) (one : Int32) : Int32 := if (0 ≤ one.toInt ∧ one.toInt ≤ (p 0 : Int) - 1) then reachV p (tN one) else cBAD
def r_pardoned (p : Nat → Nat) (one : Int32) : Int32 := if ¬ (0 ≤ one.toInt ∧ one.toInt ≤ (p 0 : Int) - 1) then cBAD else reachV (halvesP p (tN one)) (tN one)
/-- the fewest latches behind which a room is among the first n cells -/
def wayN (B : Nat → Nat) (r : Nat) : Nat → Nat
  | 0 => 9
  | K + 1 => if B K / 2 ^ r % 2 = 1 ∧ lat K < wayN B r K then lat K else wayN B r K
theorem wayN_le (B : Nat → Nat) (r : Nat) : ∀ n, wayN B r n ≤ 9
  | 0 => Nat.le_refl _
  | K + 1 => by
    have := wayN_le B r K
    unfold wayN
    split <;> omega
def r_way (p : Nat → Nat) (one room : Int32) : Int32 := if ¬ ((0 ≤ one.toInt ∧ one.toInt ≤ (p 0 : Int) - 1) ∧ (0 ≤ room.toInt ∧ room.toInt ≤ 7)) then cBAD else if wayN (roomB p (tN one) 729) (tN room) 729 < 9 then nI (wayN (roomB p (tN one) 729) (tN room) 729) else cNONE
theorem c_reach (d : Nat) (G : zG) (M : zMem) (X : zX) (hk : kM X) (p : Nat → Nat) (hw : wfO p) (hwl : wfL p) (hwt : wfT p) (hd2 : p 2 < 2147483648) (one : Int32) : zCall G miX10_reach (d + 6) [.ref 160, .int one] (zIr (fun r0 M1 X1 => r0 = r_reach p one ∧ X1 = X ∧ ∃ M2, scw M M2 ∧ M1 = mm M2 p)) (mm M p) X 0 0 := by
  refine zCall.of (lv := [some (.ref 160), some (.int one)]) (by decide) (Nat.le_of_ble_eq_true rfl) rfl ?_
  have hw0 := hw.1
  refine j_aload_n (n := 1) dX10_reach_0 rfl rfl ?_
  refine j_iload_n (n := 2) dX10_reach_1 rfl rfl ?_
  refine j_cV (n := 5) dX10_reach_2 rfl sX10_120 (c_isOne (d + 4) G _ _ hk _ (by omega) _) (by omega) (by decide) rfl rfl (Nat.le_of_ble_eq_true rfl) (hk).2.1 (by decide) (kM_lt hk) (by decide) (by decide) ?_
  refine j_if_eqB (n := 8) (tg := 16) dX10_reach_5 rfl rfl (fun h1 => ?_) (fun h1 => ?_)
  · refine j_ldc (n := 18) (v := -1000000001) dX10_reach_16 rfl kX10_93 ?_
    exact j_iret dX10_reach_18 rfl rfl (Nat.le_refl _) (Nat.le_refl _) ⟨_, rfl, (by unfold r_reach; first | (rw [if_neg (by omega)]; done) | rw [if_pos (by omega), ek]), rfl, _, scw.rf M, rfl⟩
  · obtain ⟨k, hk1, rfl⟩ := i_of (x := one) (n := p 0) (by omega) (by omega)
    have ek : tN (nI k) = k := tN_nI (by omega)
    have ik : (nI k).toInt = k := i_N (by omega)
    refine j_aload_n (n := 9) dX10_reach_8 rfl rfl ?_
    refine j_iload_n (n := 10) dX10_reach_9 rfl rfl ?_
    refine j_cVr (n := 13) dX10_reach_10 rfl sX10_197 (c_reached d G _ _ hk _ hw hwl hwt hd2 k hk1) (by omega) (by decide) rfl rfl (Nat.le_of_ble_eq_true rfl) (hk).2.1 (by decide) (kM_lt hk) (by decide) (by decide) (fun r2 N2 Y2 hh2 => ?_)
    obtain ⟨e12, e22, M_2, ⟨hs2, h42⟩, e32⟩ := hh2
    rw [e12, e22, e32]
    refine j_goto (n := 18) dX10_reach_13 rfl ?_
    exact j_iret dX10_reach_18 rfl rfl (Nat.le_refl _) (Nat.le_refl _) ⟨_, rfl, (by unfold r_reach; first | (rw [if_neg (by omega)]; done) | rw [if_pos (by omega), ek]), rfl, _, (scw.rf M).tr hs2, rfl⟩
theorem c_pardoned (d : Nat) (G : zG) (M : zMem) (X : zX) (hk : kM X) (p : Nat → Nat) (b D : Nat) (hwf : wf p b D) (hD : D ≤ 900000000) (one : Int32) : zCall G miX10_pardoned (d + 6) [.ref 160, .int one] (zIr (fun r0 M1 X1 => r0 = r_pardoned p one ∧ X1 = X ∧ ∃ M2, scw M M2 ∧ M1 = mm M2 p)) (mm M p) X 0 0 := by
  refine zCall.of (lv := [some (.ref 160), some (.int one), none]) (by decide) (Nat.le_of_ble_eq_true rfl) rfl ?_
  have hw0 := hwf.1.1
  refine j_aload_n (n := 1) dX10_pardoned_0 rfl rfl ?_
  refine j_iload_n (n := 2) dX10_pardoned_1 rfl rfl ?_
  refine j_cV (n := 5) dX10_pardoned_2 rfl sX10_120 (c_isOne (d + 4) G _ _ hk _ (by omega) _) (by omega) (by decide) rfl rfl (Nat.le_of_ble_eq_true rfl) (hk).2.1 (by decide) (kM_lt hk) (by decide) (by decide) ?_
  refine j_if_neB (n := 8) (tg := 11) dX10_pardoned_5 rfl rfl (fun h1 => ?_) (fun h1 => ?_)
  · obtain ⟨k, hk1, rfl⟩ := i_of (x := one) (n := p 0) (by omega) (by omega)
    have ek : tN (nI k) = k := tN_nI (by omega)
    have ik : (nI k).toInt = k := i_N (by omega)
    have ho := hwf.1.2 k hk1
    have hwh := wf_halves hwf hk1
    refine j_aload_n (n := 12) dX10_pardoned_11 rfl rfl ?_
    refine j_cVvr (n := 15) dX10_pardoned_12 rfl sX10_200 (c_laysBy (d + 5) G _ _ hk _) (by omega) (by decide) rfl rfl (Nat.le_of_ble_eq_true rfl) (hk).2.1 (by decide) (kM_lt hk) (by decide) (by decide) (fun N2 Y2 hh2 => ?_)
    obtain ⟨e22, M_2, ⟨hs2, hc2⟩, e32⟩ := hh2
    rw [e22, e32]
    refine j_aload_n (n := 16) dX10_pardoned_15 rfl rfl ?_
    refine j_iload_n (n := 17) dX10_pardoned_16 rfl rfl ?_
    refine j_cVv (n := 20) dX10_pardoned_17 rfl sX10_179 (c_halves (d + 4) G _ _ hk _ k (by omega) (by omega) (by omega) (by omega)) (by omega) (by decide) rfl rfl (Nat.le_of_ble_eq_true rfl) (hk).2.1 (by decide) (kM_lt hk) (by decide) (by decide) ?_
    refine j_aload_n (n := 21) dX10_pardoned_20 rfl rfl ?_
    refine j_iload_n (n := 22) dX10_pardoned_21 rfl rfl ?_
    refine j_cVr (n := 25) dX10_pardoned_22 rfl sX10_197 (c_reached d G _ _ hk _ hwh.1 hwh.2.1 hwh.2.2.1 (by have := hwh.day; omega) k (by rw [(keep_halves (by omega)).n0]; exact hk1)) (by omega) (by decide) rfl rfl (Nat.le_of_ble_eq_true rfl) (hk).2.1 (by decide) (kM_lt hk) (by decide) (by decide) (fun r3 N3 Y3 hh3 => ?_)
    obtain ⟨e13, e23, M_3, ⟨hs3, h43⟩, e33⟩ := hh3
    rw [e13, e23, e33]
    refine j_istore_n (n := 26) (lv2 := [some (.ref 160), some (.int (nI k)), some (.int (reachV (halvesP p k) k))]) dX10_pardoned_25 rfl rfl (by decide) rfl ?_
    refine j_aload_n (n := 27) dX10_pardoned_26 rfl rfl ?_
    refine j_cVv (n := 30) dX10_pardoned_27 rfl sX10_203 (c_laysBack (d + 5) G _ _ hk p _ (fun i hi => (congrFun h43 i).trans (hc2 i hi))) (by omega) (by decide) rfl rfl (Nat.le_of_ble_eq_true rfl) (hk).2.1 (by decide) (kM_lt hk) (by decide) (by decide) ?_
    refine j_mem (M2 := mm M_3 p) (congrArg (mm _) (bkP_all (fun i hi => keep_halves (by omega) i (by unfold fixd; omega)))) ?_
    refine j_iload_n (n := 31) dX10_pardoned_30 rfl rfl ?_
    exact j_iret dX10_pardoned_31 rfl rfl (Nat.le_refl _) (Nat.le_refl _) ⟨_, rfl, (by unfold r_pardoned; rw [if_neg (by omega), ek]), rfl, _, ((scw.rf M).tr hs2).tr hs3, rfl⟩
  · refine j_ldc (n := 10) (v := -1000000001) dX10_pardoned_8 rfl kX10_93 ?_
    exact j_iret dX10_pardoned_10 rfl rfl (Nat.le_refl _) (Nat.le_refl _) ⟨_, rfl, (by unfold r_pardoned; rw [if_pos (by omega)]), rfl, _, scw.rf M, rfl⟩
theorem c_way (d : Nat) (G : zG) (M : zMem) (X : zX) (hk : kM X) (p : Nat → Nat) (hw : wfO p) (hwl : wfL p) (hwt : wfT p) (hd2 : p 2 < 2147483648) (one room : Int32) : zCall G miX10_way (d + 5) [.ref 160, .int one, .int room] (zIr (fun r0 M1 X1 => r0 = r_way p one room ∧ X1 = X ∧ ∃ M2, scw M M2 ∧ M1 = mm M2 p)) (mm M p) X 0 0 := by
  refine zCall.of (lv := [some (.ref 160), some (.int one), some (.int room), none, none, none]) (by decide) (Nat.le_of_ble_eq_true rfl) rfl ?_
  have hw0 := hw.1
  refine j_aload_n (n := 1) dX10_way_0 rfl rfl ?_
  refine j_iload_n (n := 2) dX10_way_1 rfl rfl ?_
  refine j_cV (n := 5) dX10_way_2 rfl sX10_120 (c_isOne (d + 3) G _ _ hk _ (by omega) _) (by omega) (by decide) rfl rfl (Nat.le_of_ble_eq_true rfl) (hk).2.1 (by decide) (kM_lt hk) (by decide) (by decide) ?_
  refine j_if_eqB (n := 8) (tg := 15) dX10_way_5 rfl rfl (fun h1 => ?_) (fun h1 => ?_)
  · refine j_ldc (n := 17) (v := -1000000001) dX10_way_15 rfl kX10_93 ?_
    exact j_iret dX10_way_17 rfl rfl (Nat.le_refl _) (Nat.le_refl _) ⟨_, rfl, (by unfold r_way; rw [if_pos (by omega)]), rfl, _, scw.rf M, rfl⟩
  · refine j_iload_n (n := 9) dX10_way_8 rfl rfl ?_
    refine j_cS (n := 12) dX10_way_9 rfl sX10_86 (c_isRoom (d + 3) G _ _ _) (by omega) (by decide) rfl rfl (Nat.le_of_ble_eq_true rfl) (by decide) (by decide) ?_
    refine j_if_neB (n := 15) (tg := 18) dX10_way_12 rfl rfl (fun h2 => ?_) (fun h2 => ?_)
    · obtain ⟨k, hk1, rfl⟩ := i_of (x := one) (n := p 0) (by omega) (by omega)
      have ek : tN (nI k) = k := tN_nI (by omega)
      have ik : (nI k).toInt = k := i_N (by omega)
      obtain ⟨r, hr, rfl⟩ := i_of (x := room) (n := 8) (by omega) (by omega)
      have er : tN (nI r) = r := tN_nI (by omega)
      have ir : (nI r).toInt = r := i_N (by omega)
      refine j_aload_n (n := 19) dX10_way_18 rfl rfl ?_
      refine j_iload_n (n := 20) dX10_way_19 rfl rfl ?_
      refine j_cVvr (n := 23) dX10_way_20 rfl sX10_194 (c_findRooms d G _ _ hk _ hw hwl hwt hd2 k hk1) (by omega) (by decide) rfl rfl (Nat.le_of_ble_eq_true rfl) (hk).2.1 (by decide) (kM_lt hk) (by decide) (by decide) (fun N3 Y3 hh3 => ?_)
      obtain ⟨e23, M_3, ⟨hs3, hr3, h43⟩, e33⟩ := hh3
      rw [e23, e33]
      refine j_bipush (n := 25) (v := nI 9) dX10_way_23 rfl (by decide) ?_
      refine j_istore_n (n := 26) (lv2 := [some (.ref 160), some (.int (nI k)), some (.int (nI r)), some (.int (nI 9)), none, none]) dX10_way_25 rfl rfl (by decide) rfl ?_
      refine j_iconst (n := 27) (v := nI 0) dX10_way_26 rfl rfl ?_
      refine j_istore (n := 29) (lv2 := [some (.ref 160), some (.int (nI k)), some (.int (nI r)), some (.int (nI 9)), some (.int (nI 0)), none]) dX10_way_27 rfl rfl (by decide) rfl ?_
      have loop : ∀ (j K : Nat), 729 - K = j → K ≤ 729 → zAt G miX10_way (zRm (d + 5) 0 0) (zQ G (zIr (fun r0 M1 X1 => r0 = r_way p (nI k) (nI r) ∧ X1 = X ∧ ∃ M2, scw M M2 ∧ M1 = mm M2 p)) 0 0) 29 [some (.ref 160), some (.int (nI k)), some (.int (nI r)), some (.int (nI (wayN (roomB p k 729) r K))), some (.int (nI K)), none] [] (mm M_3 p) X (0, 0) := by
        intro j
        induction j using Nat.strongRecOn with
        | ind j ih =>
          intro K hj hK0
          have hwn := wayN_le (roomB p k 729) r K
          refine j_iload (n := 31) dX10_way_29 rfl rfl ?_
          refine j_sipush (n := 34) (v := nI 729) dX10_way_31 rfl (by decide) ?_
          refine j_icmp_geT (n := 37) (tg := 89) dX10_way_34 rfl rfl (i_N (by omega)) (i_N (by omega)) (fun h4 => ?_) (fun h4 => ?_)
          · refine j_iload_n (n := 90) dX10_way_89 rfl rfl ?_
            refine j_bipush (n := 92) (v := nI 9) dX10_way_90 rfl (by decide) ?_
            refine j_icmp_geT (n := 95) (tg := 99) dX10_way_92 rfl rfl (i_N (by omega)) (i_N (by omega)) (fun h5 => ?_) (fun h5 => ?_)
            · refine j_ldc (n := 101) (v := -1000000005) dX10_way_99 rfl kX10_70 ?_
              exact j_iret dX10_way_101 rfl rfl (Nat.le_refl _) (Nat.le_refl _) ⟨_, rfl, (by have eK : K = 729 := (by omega); subst eK; unfold r_way; rw [if_neg (by omega), ek, er]; first | rw [if_pos (by omega)] | rw [if_neg (by omega)]), rfl, _, (scw.rf M).tr hs3, rfl⟩
            · refine j_iload_n (n := 96) dX10_way_95 rfl rfl ?_
              refine j_goto (n := 101) dX10_way_96 rfl ?_
              exact j_iret dX10_way_101 rfl rfl (Nat.le_refl _) (Nat.le_refl _) ⟨_, rfl, (by have eK : K = 729 := (by omega); subst eK; unfold r_way; rw [if_neg (by omega), ek, er]; first | rw [if_pos (by omega)] | rw [if_neg (by omega)]), rfl, _, (scw.rf M).tr hs3, rfl⟩
          · have hlk : lat K ≤ 24 := by unfold lat; omega
            refine j_aload_n (n := 38) dX10_way_37 rfl rfl ?_
            refine jm_get (n := 41) (k := 12) (b := 172) dX10_way_38 rfl fX10_43 rfl (by decide) hk ?_
            refine j_iload (n := 43) dX10_way_41 rfl rfl ?_
            refine jm_ald (n := 44) (L := 729) (a := 172) (i := K) (v := nI (roomB p k 729 K)) dX10_way_43 rfl hk rfl (by omega) (hr3 K (by omega)) ?_
            refine j_iload_n (n := 45) dX10_way_44 rfl rfl ?_
            refine j_ishr (n := 46) dX10_way_45 rfl ?_
            refine j_iconst (n := 47) (v := nI 1) dX10_way_46 rfl rfl ?_
            refine j_iand (n := 48) dX10_way_47 rfl ?_
            refine j_top (y := nI (roomB p k 729 K / 2 ^ r % 2)) (bit_t _ (roomB_lt hwl hw hk1 729 K) _ (by omega)) ?_
            refine j_iconst (n := 49) (v := nI 1) dX10_way_48 rfl rfl ?_
            refine j_icmp_neT (n := 52) (tg := 65) dX10_way_49 rfl rfl (i_N (by omega)) (i_N (by omega)) (fun h6 => ?_) (fun h6 => ?_)
            · refine j_iconst (n := 66) (v := nI 0) dX10_way_65 rfl rfl ?_
              refine j_istore (n := 68) (lv2 := [some (.ref 160), some (.int (nI k)), some (.int (nI r)), some (.int (nI (wayN (roomB p k 729) r K))), some (.int (nI K)), some (.int (nI 0))]) dX10_way_66 rfl rfl (by decide) rfl ?_
              refine j_iload (n := 70) dX10_way_68 rfl rfl ?_
              refine j_if_eqN (n := 73) (tg := 81) dX10_way_70 rfl rfl (by omega) (fun h7 => ?_) (fun h7 => ?_)
              · refine j_iload_n (n := 82) dX10_way_81 rfl rfl ?_
                refine j_istore_n (n := 83) (lv2 := [some (.ref 160), some (.int (nI k)), some (.int (nI r)), some (.int (nI (wayN (roomB p k 729) r K))), some (.int (nI K)), some (.int (nI 0))]) dX10_way_82 rfl rfl (by decide) rfl ?_
                refine j_iinc (n := 86) (y := nI (K + 1)) (lv2 := [some (.ref 160), some (.int (nI k)), some (.int (nI r)), some (.int (nI (wayN (roomB p k 729) r K))), some (.int (nI (K + 1))), some (.int (nI 0))]) dX10_way_83 rfl rfl (by decide) rfl (show nI K + nI 1 = nI (K + 1) by rw [nI_add]) rfl ?_
                refine j_goto (n := 29) dX10_way_86 rfl ?_
                have ec : wayN (roomB p k 729) r (K + 1) = wayN (roomB p k 729) r K := by first | (exfalso; omega) | (rw [wayN, if_pos (by omega)]; done) | (rw [wayN, if_neg (by omega)])
                refine j_lv (lv2 := [some (.ref 160), some (.int (nI k)), some (.int (nI r)), some (.int (nI (wayN (roomB p k 729) r (K + 1)))), some (.int (nI (K + 1))), some (.int (nI 0))]) (by rw [ec]) ?_
                refine j_wk (lv2 := [some (.ref 160), some (.int (nI k)), some (.int (nI r)), some (.int (nI (wayN (roomB p k 729) r (K + 1)))), some (.int (nI (K + 1))), none]) ⟨rfl, rfl, rfl, rfl, rfl, trivial⟩ ?_
                exact ih _ (by omega) (K + 1) rfl (by omega)
              · exact absurd h7 (by decide)
            · refine j_iload (n := 54) dX10_way_52 rfl rfl ?_
              refine j_cS (n := 57) dX10_way_54 rfl sX10_191 (c_latches (d + 4) G _ _ K (by omega)) (by omega) (by decide) rfl rfl (Nat.le_of_ble_eq_true rfl) (by decide) (by decide) ?_
              refine j_iload_n (n := 58) dX10_way_57 rfl rfl ?_
              refine j_icmp_geT (n := 61) (tg := 65) dX10_way_58 rfl rfl (i_N (by omega)) (i_N (by omega)) (fun h8 => ?_) (fun h8 => ?_)
              · refine j_iconst (n := 66) (v := nI 0) dX10_way_65 rfl rfl ?_
                refine j_istore (n := 68) (lv2 := [some (.ref 160), some (.int (nI k)), some (.int (nI r)), some (.int (nI (wayN (roomB p k 729) r K))), some (.int (nI K)), some (.int (nI 0))]) dX10_way_66 rfl rfl (by decide) rfl ?_
                refine j_iload (n := 70) dX10_way_68 rfl rfl ?_
                refine j_if_eqN (n := 73) (tg := 81) dX10_way_70 rfl rfl (by omega) (fun h9 => ?_) (fun h9 => ?_)
                · refine j_iload_n (n := 82) dX10_way_81 rfl rfl ?_
                  refine j_istore_n (n := 83) (lv2 := [some (.ref 160), some (.int (nI k)), some (.int (nI r)), some (.int (nI (wayN (roomB p k 729) r K))), some (.int (nI K)), some (.int (nI 0))]) dX10_way_82 rfl rfl (by decide) rfl ?_
                  refine j_iinc (n := 86) (y := nI (K + 1)) (lv2 := [some (.ref 160), some (.int (nI k)), some (.int (nI r)), some (.int (nI (wayN (roomB p k 729) r K))), some (.int (nI (K + 1))), some (.int (nI 0))]) dX10_way_83 rfl rfl (by decide) rfl (show nI K + nI 1 = nI (K + 1) by rw [nI_add]) rfl ?_
                  refine j_goto (n := 29) dX10_way_86 rfl ?_
                  have ec : wayN (roomB p k 729) r (K + 1) = wayN (roomB p k 729) r K := by first | (exfalso; omega) | (rw [wayN, if_pos (by omega)]; done) | (rw [wayN, if_neg (by omega)])
                  refine j_lv (lv2 := [some (.ref 160), some (.int (nI k)), some (.int (nI r)), some (.int (nI (wayN (roomB p k 729) r (K + 1)))), some (.int (nI (K + 1))), some (.int (nI 0))]) (by rw [ec]) ?_
                  refine j_wk (lv2 := [some (.ref 160), some (.int (nI k)), some (.int (nI r)), some (.int (nI (wayN (roomB p k 729) r (K + 1)))), some (.int (nI (K + 1))), none]) ⟨rfl, rfl, rfl, rfl, rfl, trivial⟩ ?_
                  exact ih _ (by omega) (K + 1) rfl (by omega)
                · exact absurd h9 (by decide)
              · refine j_iconst (n := 62) (v := nI 1) dX10_way_61 rfl rfl ?_
                refine j_goto (n := 66) dX10_way_62 rfl ?_
                refine j_istore (n := 68) (lv2 := [some (.ref 160), some (.int (nI k)), some (.int (nI r)), some (.int (nI (wayN (roomB p k 729) r K))), some (.int (nI K)), some (.int (nI 1))]) dX10_way_66 rfl rfl (by decide) rfl ?_
                refine j_iload (n := 70) dX10_way_68 rfl rfl ?_
                refine j_if_eqN (n := 73) (tg := 81) dX10_way_70 rfl rfl (by omega) (fun h10 => ?_) (fun h10 => ?_)
                · exact absurd h10 (by decide)
                · refine j_iload (n := 75) dX10_way_73 rfl rfl ?_
                  refine j_cS (n := 78) dX10_way_75 rfl sX10_191 (c_latches (d + 4) G _ _ K (by omega)) (by omega) (by decide) rfl rfl (Nat.le_of_ble_eq_true rfl) (by decide) (by decide) ?_
                  refine j_goto (n := 82) dX10_way_78 rfl ?_
                  refine j_istore_n (n := 83) (lv2 := [some (.ref 160), some (.int (nI k)), some (.int (nI r)), some (.int (nI (lat K))), some (.int (nI K)), some (.int (nI 1))]) dX10_way_82 rfl rfl (by decide) rfl ?_
                  refine j_iinc (n := 86) (y := nI (K + 1)) (lv2 := [some (.ref 160), some (.int (nI k)), some (.int (nI r)), some (.int (nI (lat K))), some (.int (nI (K + 1))), some (.int (nI 1))]) dX10_way_83 rfl rfl (by decide) rfl (show nI K + nI 1 = nI (K + 1) by rw [nI_add]) rfl ?_
                  refine j_goto (n := 29) dX10_way_86 rfl ?_
                  have ec : wayN (roomB p k 729) r (K + 1) = lat K := by first | (exfalso; omega) | (rw [wayN, if_pos (by omega)]; done) | (rw [wayN, if_neg (by omega)])
                  refine j_lv (lv2 := [some (.ref 160), some (.int (nI k)), some (.int (nI r)), some (.int (nI (wayN (roomB p k 729) r (K + 1)))), some (.int (nI (K + 1))), some (.int (nI 1))]) (by rw [ec]) ?_
                  refine j_wk (lv2 := [some (.ref 160), some (.int (nI k)), some (.int (nI r)), some (.int (nI (wayN (roomB p k 729) r (K + 1)))), some (.int (nI (K + 1))), none]) ⟨rfl, rfl, rfl, rfl, rfl, trivial⟩ ?_
                  exact ih _ (by omega) (K + 1) rfl (by omega)
      exact loop _ 0 rfl (Nat.zero_le _)
    · refine j_ldc (n := 17) (v := -1000000001) dX10_way_15 rfl kX10_93 ?_
      exact j_iret dX10_way_17 rfl rfl (Nat.le_refl _) (Nat.le_refl _) ⟨_, rfl, (by unfold r_way; rw [if_pos (by omega)]), rfl, _, scw.rf M, rfl⟩
