-- MODEL V: by program (wip/whole/gen/b22.py)
theorem c_parse (d : Nat) (G : zG) (M : zMem) (X : zX) (hk : kM X) (T : Nat → Nat) (hT : tpN M T) (hT2 : ∀ i, T i ≤ 255) (F p : Nat → Nat) (h16 : F 16 ≤ 96) (h20 : F 20 ≤ 5287680) (h21 : F 21 ≤ 255) (hp : p 1 ≤ 14) : zCall G miX10_parse (d + 65) [.ref 160] (zI (keyV (parseS T F p).2) (mf M (parseS T F p).1.1 (parseS T F p).1.2) X) (mf M F p) X 0 0 := by
  refine zCall.of (lv := [some (.ref 160), none, none]) (by decide) (Nat.le_of_ble_eq_true rfl) rfl ?_
  obtain ⟨n1, hq, n22, n23⟩ := psF_ok (p := p) hT2 h16 h20 h21 hp
  obtain ⟨b1, b2, b3, b4, b5⟩ := hq
  dsimp only at b1 b2 b3 b4 b5
  have n6 := n1
  obtain ⟨f16, f17, f18, f19, f20, f21, f0⟩ := n6
  have e16 : psF p F 16 = F 16 := by unfold psF; repeat rw [pu_ne _ _ (by decide)]
  have e18 : psF p F 18 = 0 := by unfold psF; repeat (first | rw [pu_eq] | rw [pu_ne _ _ (by decide)])
  have e19 : psF p F 19 = 3 := by unfold psF; repeat (first | rw [pu_eq] | rw [pu_ne _ _ (by decide)])
  have hkl := keyW_le T (nextF T (psF p F))
  have e63 : zAt G miX10_parse (zRm (d + 65) 0 0) (zQ G (zI (keyV (parseS T F p).2) (mf M (parseS T F p).1.1 (parseS T F p).1.2) X) 0 0) 63 [some (.ref 160), none, none] [] (mf M (psF p F) p) X (0, 0) := by
    by_cases hk3 : keyW T (nextF T (psF p F)) = 3
    · have hR : parseS T F p = ((pu (nextF T (psF p F)) 16 0, p), 3) := by unfold parseS; dsimp only; rw [if_pos hk3]
      rw [hR]
      refine j_aload_n (n := 64) dX10_parse_63 rfl rfl ?_
      refine j_cVv (n := 67) dX10_parse_64 rfl sX10_259 (c_nextToken (d + 62) G M X hk (psF p F) p T hT (by omega) hT2 (by omega) (by omega)) (by omega) (by decide) rfl rfl (Nat.le_of_ble_eq_true rfl) (hk).2.1 (by decide) (kM_lt hk) (by decide) (by decide) ?_
      refine j_aload_n (n := 68) dX10_parse_67 rfl rfl ?_
      refine j_cV (n := 71) dX10_parse_68 rfl sX10_295 (c_key (d + 63) G M X hk (nextF T (psF p F)) p T hT f16 f19 f17 f18) (by omega) (by decide) rfl rfl (Nat.le_of_ble_eq_true rfl) (hk).2.1 (by decide) (kM_lt hk) (by decide) (by decide) ?_
      refine j_top (y := (-1)) (by unfold keyV; rw [if_pos hk3]) ?_
      refine j_istore_n (n := 72) (lv2 := [some (.ref 160), some (.int (-1)), none]) dX10_parse_71 rfl rfl (by decide) rfl ?_
      refine j_iload_n (n := 73) dX10_parse_72 rfl rfl ?_
      refine j_if_ltT (n := 76) (tg := 80) dX10_parse_73 rfl rfl (fun h1 => ?_) (fun h1 => ?_)
      · refine j_iconst (n := 81) (v := nI 0) dX10_parse_80 rfl rfl ?_
        refine j_istore_n (n := 82) (lv2 := [some (.ref 160), some (.int (-1)), some (.int (nI 0))]) dX10_parse_81 rfl rfl (by decide) rfl ?_
        refine j_iload_n (n := 83) dX10_parse_82 rfl rfl ?_
        refine j_if_eqN (n := 86) (tg := 111) dX10_parse_83 rfl rfl (by omega) (fun h2 => ?_) (fun h2 => ?_)
        · refine j_aload_n (n := 112) dX10_parse_111 rfl rfl ?_
          refine j_iconst (n := 113) (v := nI 0) dX10_parse_112 rfl rfl ?_
          refine jm_put (n := 116) (k := 16) (x := nI 0) (M2 := mf M (pu (nextF T (psF p F)) 16 0) p) dX10_parse_113 rfl pX10_211 rfl rfl hk (mf_w rfl) ?_
          refine j_iload_n (n := 117) dX10_parse_116 rfl rfl ?_
          refine j_if_eqN (n := 120) (tg := 124) dX10_parse_117 rfl rfl (by omega) (fun h3 => ?_) (fun h3 => ?_)
          · refine j_iconst (n := 125) (v := (-1)) dX10_parse_124 rfl rfl ?_
            exact j_ri dX10_parse_125 rfl (Nat.le_refl _) (Nat.le_refl _) (show (-1 : Int32) = keyV 3 from by decide) rfl rfl
          · exact absurd h3 (by decide)
        · exact absurd h2 (by decide)
      · exact absurd (by decide) h1
    · have hkk : keyW T (nextF T (psF p F)) ≤ 2 := by omega
      have h191 := keyW_1 hk3
      obtain ⟨g1, g2, g3, g4, g5, g6, g7⟩ := nx_f (s := (nextF T (psF p F), p)) hT2 n1 (by dsimp only; omega)
      dsimp only [nx] at g1 g2 g3 g4 g5 g6 g7
      have hq : okP 0 (nextF T (nextF T (psF p F)), p) := ⟨g1, by dsimp only; omega, by dsimp only; omega, by dsimp only; omega, by dsimp only; omega⟩
      obtain ⟨⟨b, G1, p1⟩, hz⟩ := pz_some hT2 (keyW T (nextF T (psF p F))) 1000 0 _ 0 hq (by omega)
      have hc := (pz_c (G := G) hk hT hT2 hkk 1000).1.1 _ _ _ 0 (d + 64) hz hq (by unfold rmL; omega)
      have hof := pz_ok hT2 _ 1000 0 _ _ 0 hz hq
      cases b
      · have hR : parseS T F p = (fl (G1, p1) 16 0, 3) := by unfold parseS; dsimp only; rw [if_neg hk3, hz]
        rw [hR]
        have hG := hof.1
        dsimp only at hG
        obtain ⟨q16, q17, q18, q19, q20, q21, q0⟩ := hG
        refine j_aload_n (n := 64) dX10_parse_63 rfl rfl ?_
        refine j_cVv (n := 67) dX10_parse_64 rfl sX10_259 (c_nextToken (d + 62) G M X hk (psF p F) p T hT (by omega) hT2 (by omega) (by omega)) (by omega) (by decide) rfl rfl (Nat.le_of_ble_eq_true rfl) (hk).2.1 (by decide) (kM_lt hk) (by decide) (by decide) ?_
        refine j_aload_n (n := 68) dX10_parse_67 rfl rfl ?_
        refine j_cV (n := 71) dX10_parse_68 rfl sX10_295 (c_key (d + 63) G M X hk (nextF T (psF p F)) p T hT f16 f19 f17 f18) (by omega) (by decide) rfl rfl (Nat.le_of_ble_eq_true rfl) (hk).2.1 (by decide) (kM_lt hk) (by decide) (by decide) ?_
        refine j_top (y := nI (keyW T (nextF T (psF p F)))) (by unfold keyV; rw [if_neg hk3]) ?_
        refine j_istore_n (n := 72) (lv2 := [some (.ref 160), some (.int (nI (keyW T (nextF T (psF p F))))), none]) dX10_parse_71 rfl rfl (by decide) rfl ?_
        refine j_iload_n (n := 73) dX10_parse_72 rfl rfl ?_
        refine j_if_ltM (n := 76) (tg := 80) dX10_parse_73 rfl rfl (by omega) (fun h1 => ?_) (fun h1 => ?_)
        · exfalso; omega
        · refine j_iconst (n := 77) (v := nI 1) dX10_parse_76 rfl rfl ?_
          refine j_goto (n := 81) dX10_parse_77 rfl ?_
          refine j_istore_n (n := 82) (lv2 := [some (.ref 160), some (.int (nI (keyW T (nextF T (psF p F))))), some (.int (nI 1))]) dX10_parse_81 rfl rfl (by decide) rfl ?_
          refine j_iload_n (n := 83) dX10_parse_82 rfl rfl ?_
          refine j_if_eqN (n := 86) (tg := 111) dX10_parse_83 rfl rfl (by omega) (fun h2 => ?_) (fun h2 => ?_)
          · exact absurd h2 (by decide)
          · refine j_aload_n (n := 87) dX10_parse_86 rfl rfl ?_
            refine j_cVv (n := 90) dX10_parse_87 rfl sX10_259 (c_nextToken (d + 62) G M X hk (nextF T (psF p F)) p T hT (by omega) hT2 (by omega) (by omega)) (by omega) (by decide) rfl rfl (Nat.le_of_ble_eq_true rfl) (hk).2.1 (by decide) (kM_lt hk) (by decide) (by decide) ?_
            refine j_aload_n (n := 91) dX10_parse_90 rfl rfl ?_
            refine j_iload_n (n := 92) dX10_parse_91 rfl rfl ?_
            refine j_cV (n := 95) dX10_parse_92 rfl sX10_289 hc (by omega) (by decide) rfl rfl (Nat.le_of_ble_eq_true rfl) (hk).2.1 (by decide) (kM_lt hk) (by decide) (by decide) ?_
            refine j_top (y := nI 0) (zB_f Bool.false_ne_true) ?_
            refine j_mem (M2 := mf M G1 p1) rfl ?_
            refine j_if_eqN (n := 98) (tg := 109) dX10_parse_95 rfl rfl (by omega) (fun h3 => ?_) (fun h3 => ?_)
            · refine j_iconst (n := 110) (v := nI 0) dX10_parse_109 rfl rfl ?_
              refine j_istore_n (n := 111) (lv2 := [some (.ref 160), some (.int (nI (keyW T (nextF T (psF p F))))), some (.int (nI 0))]) dX10_parse_110 rfl rfl (by decide) rfl ?_
              refine j_aload_n (n := 112) dX10_parse_111 rfl rfl ?_
              refine j_iconst (n := 113) (v := nI 0) dX10_parse_112 rfl rfl ?_
              refine jm_put (n := 116) (k := 16) (x := nI 0) (M2 := mf M (pu G1 16 0) p1) dX10_parse_113 rfl pX10_211 rfl rfl hk (mf_w rfl) ?_
              refine j_iload_n (n := 117) dX10_parse_116 rfl rfl ?_
              refine j_if_eqN (n := 120) (tg := 124) dX10_parse_117 rfl rfl (by omega) (fun h4 => ?_) (fun h4 => ?_)
              · refine j_iconst (n := 125) (v := (-1)) dX10_parse_124 rfl rfl ?_
                exact j_ri dX10_parse_125 rfl (Nat.le_refl _) (Nat.le_refl _) (show (-1 : Int32) = keyV 3 from by decide) rfl rfl
              · exact absurd h4 (by decide)
            · exact absurd h3 (by decide)
      · have hR : parseS T F p = (fl (G1, p1) 16 0, if G1 19 = 0 then keyW T (nextF T (psF p F)) else 3) := by unfold parseS; dsimp only; rw [if_neg hk3, hz]
        rw [hR]
        have hG := hof.1
        dsimp only at hG
        obtain ⟨q16, q17, q18, q19, q20, q21, q0⟩ := hG
        refine j_aload_n (n := 64) dX10_parse_63 rfl rfl ?_
        refine j_cVv (n := 67) dX10_parse_64 rfl sX10_259 (c_nextToken (d + 62) G M X hk (psF p F) p T hT (by omega) hT2 (by omega) (by omega)) (by omega) (by decide) rfl rfl (Nat.le_of_ble_eq_true rfl) (hk).2.1 (by decide) (kM_lt hk) (by decide) (by decide) ?_
        refine j_aload_n (n := 68) dX10_parse_67 rfl rfl ?_
        refine j_cV (n := 71) dX10_parse_68 rfl sX10_295 (c_key (d + 63) G M X hk (nextF T (psF p F)) p T hT f16 f19 f17 f18) (by omega) (by decide) rfl rfl (Nat.le_of_ble_eq_true rfl) (hk).2.1 (by decide) (kM_lt hk) (by decide) (by decide) ?_
        refine j_top (y := nI (keyW T (nextF T (psF p F)))) (by unfold keyV; rw [if_neg hk3]) ?_
        refine j_istore_n (n := 72) (lv2 := [some (.ref 160), some (.int (nI (keyW T (nextF T (psF p F))))), none]) dX10_parse_71 rfl rfl (by decide) rfl ?_
        refine j_iload_n (n := 73) dX10_parse_72 rfl rfl ?_
        refine j_if_ltM (n := 76) (tg := 80) dX10_parse_73 rfl rfl (by omega) (fun h1 => ?_) (fun h1 => ?_)
        · exfalso; omega
        · refine j_iconst (n := 77) (v := nI 1) dX10_parse_76 rfl rfl ?_
          refine j_goto (n := 81) dX10_parse_77 rfl ?_
          refine j_istore_n (n := 82) (lv2 := [some (.ref 160), some (.int (nI (keyW T (nextF T (psF p F))))), some (.int (nI 1))]) dX10_parse_81 rfl rfl (by decide) rfl ?_
          refine j_iload_n (n := 83) dX10_parse_82 rfl rfl ?_
          refine j_if_eqN (n := 86) (tg := 111) dX10_parse_83 rfl rfl (by omega) (fun h2 => ?_) (fun h2 => ?_)
          · exact absurd h2 (by decide)
          · refine j_aload_n (n := 87) dX10_parse_86 rfl rfl ?_
            refine j_cVv (n := 90) dX10_parse_87 rfl sX10_259 (c_nextToken (d + 62) G M X hk (nextF T (psF p F)) p T hT (by omega) hT2 (by omega) (by omega)) (by omega) (by decide) rfl rfl (Nat.le_of_ble_eq_true rfl) (hk).2.1 (by decide) (kM_lt hk) (by decide) (by decide) ?_
            refine j_aload_n (n := 91) dX10_parse_90 rfl rfl ?_
            refine j_iload_n (n := 92) dX10_parse_91 rfl rfl ?_
            refine j_cV (n := 95) dX10_parse_92 rfl sX10_289 hc (by omega) (by decide) rfl rfl (Nat.le_of_ble_eq_true rfl) (hk).2.1 (by decide) (kM_lt hk) (by decide) (by decide) ?_
            refine j_top (y := nI 1) (zB_t rfl) ?_
            refine j_mem (M2 := mf M G1 p1) rfl ?_
            refine j_if_eqN (n := 98) (tg := 109) dX10_parse_95 rfl rfl (by omega) (fun h3 => ?_) (fun h3 => ?_)
            · exact absurd h3 (by decide)
            · refine j_aload_n (n := 99) dX10_parse_98 rfl rfl ?_
              refine jm_geti (n := 102) (k := 19) (v := nI (G1 19)) dX10_parse_99 rfl fX10_226 hk (mf_f _ _ _ 19) ?_
              refine j_if_neN (n := 105) (tg := 109) dX10_parse_102 rfl rfl (by omega) (fun h4 => ?_) (fun h4 => ?_)
              · refine j_iconst (n := 110) (v := nI 0) dX10_parse_109 rfl rfl ?_
                refine j_istore_n (n := 111) (lv2 := [some (.ref 160), some (.int (nI (keyW T (nextF T (psF p F))))), some (.int (nI 0))]) dX10_parse_110 rfl rfl (by decide) rfl ?_
                refine j_aload_n (n := 112) dX10_parse_111 rfl rfl ?_
                refine j_iconst (n := 113) (v := nI 0) dX10_parse_112 rfl rfl ?_
                refine jm_put (n := 116) (k := 16) (x := nI 0) (M2 := mf M (pu G1 16 0) p1) dX10_parse_113 rfl pX10_211 rfl rfl hk (mf_w rfl) ?_
                refine j_iload_n (n := 117) dX10_parse_116 rfl rfl ?_
                refine j_if_eqN (n := 120) (tg := 124) dX10_parse_117 rfl rfl (by omega) (fun h5 => ?_) (fun h5 => ?_)
                · refine j_iconst (n := 125) (v := (-1)) dX10_parse_124 rfl rfl ?_
                  exact j_ri dX10_parse_125 rfl (Nat.le_refl _) (Nat.le_refl _) (by first | (rw [if_pos (by omega)]; unfold keyV; rw [if_neg hk3]) | (rw [if_neg (by omega)]; exact (show (-1 : Int32) = keyV 3 from by decide))) rfl rfl
                · exact absurd h5 (by decide)
              · refine j_iconst (n := 106) (v := nI 1) dX10_parse_105 rfl rfl ?_
                refine j_goto (n := 110) dX10_parse_106 rfl ?_
                refine j_istore_n (n := 111) (lv2 := [some (.ref 160), some (.int (nI (keyW T (nextF T (psF p F))))), some (.int (nI 1))]) dX10_parse_110 rfl rfl (by decide) rfl ?_
                refine j_aload_n (n := 112) dX10_parse_111 rfl rfl ?_
                refine j_iconst (n := 113) (v := nI 0) dX10_parse_112 rfl rfl ?_
                refine jm_put (n := 116) (k := 16) (x := nI 0) (M2 := mf M (pu G1 16 0) p1) dX10_parse_113 rfl pX10_211 rfl rfl hk (mf_w rfl) ?_
                refine j_iload_n (n := 117) dX10_parse_116 rfl rfl ?_
                refine j_if_eqN (n := 120) (tg := 124) dX10_parse_117 rfl rfl (by omega) (fun h6 => ?_) (fun h6 => ?_)
                · exact absurd h6 (by decide)
                · refine j_iload_n (n := 121) dX10_parse_120 rfl rfl ?_
                  refine j_goto (n := 125) dX10_parse_121 rfl ?_
                  exact j_ri dX10_parse_125 rfl (Nat.le_refl _) (Nat.le_refl _) (by first | (rw [if_pos (by omega)]; unfold keyV; rw [if_neg hk3]) | (rw [if_neg (by omega)]; exact (show (-1 : Int32) = keyV 3 from by decide))) rfl rfl
  refine j_aload_n (n := 1) dX10_parse_0 rfl rfl ?_
  refine j_iconst (n := 2) (v := nI 0) dX10_parse_1 rfl rfl ?_
  refine jm_put (n := 5) (k := 18) (x := nI 0) (M2 := mf M (pu F 18 0) p) dX10_parse_2 rfl pX10_223 rfl rfl hk (mf_w rfl) ?_
  refine j_aload_n (n := 6) dX10_parse_5 rfl rfl ?_
  refine j_iconst (n := 7) (v := nI 3) dX10_parse_6 rfl rfl ?_
  refine jm_put (n := 10) (k := 19) (x := nI 3) (M2 := mf M (pu (pu F 18 0) 19 3) p) dX10_parse_7 rfl pX10_226 rfl rfl hk (mf_w rfl) ?_
  refine j_aload_n (n := 11) dX10_parse_10 rfl rfl ?_
  refine j_iconst (n := 12) (v := nI 0) dX10_parse_11 rfl rfl ?_
  refine jm_put (n := 15) (k := 22) (x := nI 0) (M2 := mf M (pu (pu (pu F 18 0) 19 3) 22 0) p) dX10_parse_12 rfl pX10_286 rfl rfl hk (mf_w rfl) ?_
  refine j_aload_n (n := 16) dX10_parse_15 rfl rfl ?_
  refine j_iconst (n := 17) (v := nI 0) dX10_parse_16 rfl rfl ?_
  refine jm_put (n := 20) (k := 23) (x := nI 0) (M2 := mf M (pu (pu (pu (pu F 18 0) 19 3) 22 0) 23 0) p) dX10_parse_17 rfl pX10_283 rfl rfl hk (mf_w rfl) ?_
  refine j_aload_n (n := 21) dX10_parse_20 rfl rfl ?_
  refine j_iconst (n := 22) (v := nI 0) dX10_parse_21 rfl rfl ?_
  refine jm_put (n := 25) (k := 24) (x := nI 0) (M2 := mf M (pu (pu (pu (pu (pu F 18 0) 19 3) 22 0) 23 0) 24 0) p) dX10_parse_22 rfl pX10_250 rfl rfl hk (mf_w rfl) ?_
  refine j_aload_n (n := 26) dX10_parse_25 rfl rfl ?_
  refine j_iconst (n := 27) (v := nI 0) dX10_parse_26 rfl rfl ?_
  refine jm_put (n := 30) (k := 26) (x := nI 0) (M2 := mf M (pu (pu (pu (pu (pu (pu F 18 0) 19 3) 22 0) 23 0) 24 0) 26 0) p) dX10_parse_27 rfl pX10_277 rfl rfl hk (mf_w rfl) ?_
  refine j_aload_n (n := 31) dX10_parse_30 rfl rfl ?_
  refine j_aload_n (n := 32) dX10_parse_31 rfl rfl ?_
  refine jm_get (n := 35) (k := 0) (b := 161) dX10_parse_32 rfl fX10_7 rfl (by decide) hk ?_
  refine j_iconst (n := 36) (v := nI 1) dX10_parse_35 rfl rfl ?_
  refine jm_ald (n := 37) (L := 3100) (a := 161) (i := 1) (v := nI (p 1)) dX10_parse_36 rfl hk rfl (by omega) rfl ?_
  refine j_bipush (n := 39) (v := nI 14) dX10_parse_37 rfl (by decide) ?_
  refine j_icmp_geT (n := 42) (tg := 57) dX10_parse_39 rfl rfl (i_N (by omega)) (i_N (by omega)) (fun h1 => ?_) (fun h1 => ?_)
  · refine j_sipush (n := 60) (v := nI 2900) dX10_parse_57 rfl (by decide) ?_
    refine j_top (y := nI (if p 1 < 14 then 100 + 200 * p 1 + 4 else 2900)) (congrArg nI (by first | rw [if_pos (by omega)] | rw [if_neg (by omega)])) ?_
    refine jm_put (n := 63) (k := 25) (x := nI (if p 1 < 14 then 100 + 200 * p 1 + 4 else 2900)) (M2 := mf M (pu (pu (pu (pu (pu (pu (pu F 18 0) 19 3) 22 0) 23 0) 24 0) 26 0) 25 (if p 1 < 14 then 100 + 200 * p 1 + 4 else 2900)) p) dX10_parse_60 rfl pX10_247 rfl rfl hk (mf_w rfl) ?_
    refine j_mem (M2 := mf M (psF p F) p) rfl ?_
    exact e63
  · refine j_aload_n (n := 43) dX10_parse_42 rfl rfl ?_
    refine j_aload_n (n := 44) dX10_parse_43 rfl rfl ?_
    refine jm_get (n := 47) (k := 0) (b := 161) dX10_parse_44 rfl fX10_7 rfl (by decide) hk ?_
    refine j_iconst (n := 48) (v := nI 1) dX10_parse_47 rfl rfl ?_
    refine jm_ald (n := 49) (L := 3100) (a := 161) (i := 1) (v := nI (p 1)) dX10_parse_48 rfl hk rfl (by omega) rfl ?_
    refine j_cV (n := 52) dX10_parse_49 rfl sX10_292 (c_textAt (d + 64) G _ _ (p 1)) (by omega) (by decide) rfl rfl (Nat.le_of_ble_eq_true rfl) (hk).2.1 (by decide) (kM_lt hk) (by decide) (by decide) ?_
    refine j_iconst (n := 53) (v := nI 4) dX10_parse_52 rfl rfl ?_
    refine j_iaddN (n := 54) (c := 100 + 200 * (p 1) + 4) dX10_parse_53 rfl rfl ?_
    refine j_goto (n := 60) dX10_parse_54 rfl ?_
    refine j_top (y := nI (if p 1 < 14 then 100 + 200 * p 1 + 4 else 2900)) (congrArg nI (by first | rw [if_pos (by omega)] | rw [if_neg (by omega)])) ?_
    refine jm_put (n := 63) (k := 25) (x := nI (if p 1 < 14 then 100 + 200 * p 1 + 4 else 2900)) (M2 := mf M (pu (pu (pu (pu (pu (pu (pu F 18 0) 19 3) 22 0) 23 0) 24 0) 26 0) 25 (if p 1 < 14 then 100 + 200 * p 1 + 4 else 2900)) p) dX10_parse_60 rfl pX10_247 rfl rfl hk (mf_w rfl) ?_
    refine j_mem (M2 := mf M (psF p F) p) rfl ?_
    exact e63
