-- MODEL U: by program (wip/whole/gen/b21.py)
theorem ee_part0 {G : zG} {M : zMem} {X : zX} (hk : kM X) {T : Nat → Nat} (hT : tpN M T) (hT2 : ∀ i, T i ≤ 255) {key : Nat} (hkey : key ≤ 2) {n : Nat} (h5 : cP G M X T key miX10_part0 n 5) (h0 : cP G M X T key miX10_either n 0) : cP G M X T key miX10_part0 (n + 1) 5 := by
  intro F p r c e h ho hr
  obtain ⟨d, rfl⟩ : ∃ d, e = d + 3 := ⟨e - 3, by unfold rmL at hr; omega⟩
  have ho2 := ho
  obtain ⟨a1, a2, a3, a4, a5⟩ := ho2
  dsimp only at a1 a2 a3 a4 a5
  have a6 := a1
  obtain ⟨f16, f17, f18, f19, f20, f21, f0⟩ := a6
  refine zCall.of (lv := [some (.ref 160), some (.int (nI key))]) (by decide) (Nat.le_of_ble_eq_true rfl) rfl ?_
  rw [pz, if_neg (by decide), if_pos rfl] at h
  dsimp only at h
  split at h
  · rename_i hA
    cases h
    refine j_aload_n (n := 1) dX10_part0_0 rfl rfl ?_
    refine jm_geti (n := 4) (k := 19) (v := nI (F 19)) dX10_part0_1 rfl fX10_226 hk (mf_f _ _ _ 19) ?_
    refine j_iconst (n := 5) (v := nI 2) dX10_part0_4 rfl rfl ?_
    refine j_icmp_neT (n := 8) (tg := 33) dX10_part0_5 rfl rfl (i_N (by omega)) (i_N (by omega)) (fun h1 => ?_) (fun h1 => ?_)
    · exfalso; omega
    · refine j_aload_n (n := 9) dX10_part0_8 rfl rfl ?_
      refine j_iconst (n := 10) (v := nI 0) dX10_part0_9 rfl rfl ?_
      refine j_aload_n (n := 11) dX10_part0_10 rfl rfl ?_
      refine jm_geti (n := 14) (k := 20) (v := nI (F 20)) dX10_part0_11 rfl fX10_241 hk (mf_f _ _ _ 20) ?_
      refine j_cVv (n := 17) dX10_part0_14 rfl sX10_262 (c_step (d + 2) G M X hk F p (by (repeat rw [pu_ne _ _ (by decide)]); omega) 0 (F 20)) (by omega) (by decide) rfl rfl (Nat.le_of_ble_eq_true rfl) (hk).2.1 (by decide) (kM_lt hk) (by decide) (by decide) ?_
      refine j_aload_n (n := 18) dX10_part0_17 rfl rfl ?_
      refine j_dup (n := 19) dX10_part0_18 rfl rfl ?_
      refine jm_geti (n := 22) (k := 26) (v := nI (F 26)) dX10_part0_19 rfl fX10_277 hk ((mf_f _ _ _ 26).trans (congrArg nI (by repeat (first | rw [pu_eq] | rw [pu_ne _ _ (by decide)])))) ?_
      refine j_iconst (n := 23) (v := nI 1) dX10_part0_22 rfl rfl ?_
      refine j_iaddN (n := 24) (c := F 26 + 1) dX10_part0_23 rfl rfl ?_
      refine jm_put (n := 27) (k := 26) (x := nI (F 26 + 1)) (M2 := mf M (pu (pu F 24 (F 24 + 1)) 26 (F 26 + 1)) (pu (pu p (F 25 + 2 * F 24) 0) (F 25 + 2 * F 24 + 1) (F 20))) dX10_part0_24 rfl pX10_277 rfl rfl hk (mf_w rfl) ?_
      refine j_aload_n (n := 28) dX10_part0_27 rfl rfl ?_
      refine j_cVv (n := 31) dX10_part0_28 rfl sX10_259 (c_nextToken d G M X hk (pu (pu F 24 (F 24 + 1)) 26 (F 26 + 1)) (pu (pu p (F 25 + 2 * F 24) 0) (F 25 + 2 * F 24 + 1) (F 20)) T hT (by (repeat rw [pu_ne _ _ (by decide)]); omega) hT2 (by (repeat rw [pu_ne _ _ (by decide)]); omega) (by (repeat rw [pu_ne _ _ (by decide)]); omega)) (by omega) (by decide) rfl rfl (Nat.le_of_ble_eq_true rfl) (hk).2.1 (by decide) (kM_lt hk) (by decide) (by decide) ?_
      refine j_iconst (n := 32) (v := nI 1) dX10_part0_31 rfl rfl ?_
      exact j_rb dX10_part0_32 rfl rfl (Nat.le_refl _) (Nat.le_refl _) (zB_t rfl).symm rfl rfl
  · rename_i hA
    split at h
    · rename_i hB
      have hn := of_decide_eq_true hB.2.2
      cases h
      refine j_aload_n (n := 1) dX10_part0_0 rfl rfl ?_
      refine jm_geti (n := 4) (k := 19) (v := nI (F 19)) dX10_part0_1 rfl fX10_226 hk (mf_f _ _ _ 19) ?_
      refine j_iconst (n := 5) (v := nI 2) dX10_part0_4 rfl rfl ?_
      refine j_icmp_neT (n := 8) (tg := 33) dX10_part0_5 rfl rfl (i_N (by omega)) (i_N (by omega)) (fun h1 => ?_) (fun h1 => ?_)
      · refine j_aload_n (n := 34) dX10_part0_33 rfl rfl ?_
        refine jm_geti (n := 37) (k := 19) (v := nI (F 19)) dX10_part0_34 rfl fX10_226 hk (mf_f _ _ _ 19) ?_
        refine j_iconst (n := 38) (v := nI 1) dX10_part0_37 rfl rfl ?_
        refine j_icmp_neT (n := 41) (tg := 84) dX10_part0_38 rfl rfl (i_N (by omega)) (i_N (by omega)) (fun h2 => ?_) (fun h2 => ?_)
        · exfalso; omega
        · refine j_aload_n (n := 42) dX10_part0_41 rfl rfl ?_
          refine jm_geti (n := 45) (k := 21) (v := nI (F 21)) dX10_part0_42 rfl fX10_235 hk (mf_f _ _ _ 21) ?_
          refine j_if_eqN (n := 48) (tg := 84) dX10_part0_45 rfl rfl (by omega) (fun h3 => ?_) (fun h3 => ?_)
          · exfalso; omega
          · refine j_iload_n (n := 49) dX10_part0_48 rfl rfl ?_
            refine j_aload_n (n := 50) dX10_part0_49 rfl rfl ?_
            refine jm_geti (n := 53) (k := 21) (v := nI (F 21)) dX10_part0_50 rfl fX10_235 hk (mf_f _ _ _ 21) ?_
            refine j_cS (n := 56) dX10_part0_53 rfl sX10_280 (c_isName (d + 2) G _ X key (F 21) hkey f21) (by omega) (by decide) rfl rfl (Nat.le_of_ble_eq_true rfl) (by decide) (by decide) ?_
            refine j_if_eqB (n := 59) (tg := 84) dX10_part0_56 rfl rfl (fun h4 => ?_) (fun h4 => ?_)
            · exfalso; omega
            · refine j_aload_n (n := 60) dX10_part0_59 rfl rfl ?_
              refine j_iconst (n := 61) (v := nI 1) dX10_part0_60 rfl rfl ?_
              refine j_aload_n (n := 62) dX10_part0_61 rfl rfl ?_
              refine jm_geti (n := 65) (k := 21) (v := nI (F 21)) dX10_part0_62 rfl fX10_235 hk (mf_f _ _ _ 21) ?_
              refine j_cVv (n := 68) dX10_part0_65 rfl sX10_262 (c_step (d + 2) G M X hk F p (by (repeat rw [pu_ne _ _ (by decide)]); omega) 1 (F 21)) (by omega) (by decide) rfl rfl (Nat.le_of_ble_eq_true rfl) (hk).2.1 (by decide) (kM_lt hk) (by decide) (by decide) ?_
              refine j_aload_n (n := 69) dX10_part0_68 rfl rfl ?_
              refine j_dup (n := 70) dX10_part0_69 rfl rfl ?_
              refine jm_geti (n := 73) (k := 26) (v := nI (F 26)) dX10_part0_70 rfl fX10_277 hk ((mf_f _ _ _ 26).trans (congrArg nI (by repeat (first | rw [pu_eq] | rw [pu_ne _ _ (by decide)])))) ?_
              refine j_iconst (n := 74) (v := nI 1) dX10_part0_73 rfl rfl ?_
              refine j_iaddN (n := 75) (c := F 26 + 1) dX10_part0_74 rfl rfl ?_
              refine jm_put (n := 78) (k := 26) (x := nI (F 26 + 1)) (M2 := mf M (pu (pu F 24 (F 24 + 1)) 26 (F 26 + 1)) (pu (pu p (F 25 + 2 * F 24) 1) (F 25 + 2 * F 24 + 1) (F 21))) dX10_part0_75 rfl pX10_277 rfl rfl hk (mf_w rfl) ?_
              refine j_aload_n (n := 79) dX10_part0_78 rfl rfl ?_
              refine j_cVv (n := 82) dX10_part0_79 rfl sX10_259 (c_nextToken d G M X hk (pu (pu F 24 (F 24 + 1)) 26 (F 26 + 1)) (pu (pu p (F 25 + 2 * F 24) 1) (F 25 + 2 * F 24 + 1) (F 21)) T hT (by (repeat rw [pu_ne _ _ (by decide)]); omega) hT2 (by (repeat rw [pu_ne _ _ (by decide)]); omega) (by (repeat rw [pu_ne _ _ (by decide)]); omega)) (by omega) (by decide) rfl rfl (Nat.le_of_ble_eq_true rfl) (hk).2.1 (by decide) (kM_lt hk) (by decide) (by decide) ?_
              refine j_iconst (n := 83) (v := nI 1) dX10_part0_82 rfl rfl ?_
              exact j_rb dX10_part0_83 rfl rfl (Nat.le_refl _) (Nat.le_refl _) (zB_t rfl).symm rfl rfl
      · exfalso; omega
    · rename_i hB
      have hB2 : ¬ (F 19 = 1 ∧ ¬ F 21 = 0 ∧ ((key = 0 ∧ (F 21 = 114 ∨ F 21 = 115 ∨ F 21 = 116)) ∨ (key = 1 ∧ (F 21 = 101 ∨ F 21 = 104)) ∨ (key = 2 ∧ (F 21 = 114 ∨ F 21 = 111)))) := fun z => hB ⟨z.1, z.2.1, decide_eq_true z.2.2⟩
      clear hB
      split at h
      · rename_i hC
        obtain ⟨n1, n16, n17, nr⟩ := next_ok hT2 (okF_pu (i := 23) (v := F 23 + 1) a1 (by decide))
        have g22 := nr 22 (by decide)
        have g23 := nr 23 (by decide)
        have g24 := nr 24 (by decide)
        have g25 := nr 25 (by decide)
        clear nr
        rw [pu_ne _ _ (by decide)] at n16 n17 g24 g25
        rw [pu_ne _ _ (by decide)] at g22
        rw [pu_eq] at g23
        have hq : okP (c + 1) (nextF T (pu F 23 (F 23 + 1)), p) := ⟨n1, by dsimp only; omega, by dsimp only; omega, by dsimp only; omega, by dsimp only; omega⟩
        split at h
        · rename_i s1 hc
          obtain ⟨F1, p1⟩ := s1
          obtain ⟨⟨o1, o2, o3, o4, o5⟩, k22, k23, k25, k16⟩ := (pz_ok hT2 key n _ _ _ (c + 1) hc hq).2 rfl
          dsimp only [nx, fl] at o1 o2 o3 o4 o5 k22 k23 k25 k16
          have o6 := o1
          obtain ⟨q16, q17, q18, q19, q20, q21, q0⟩ := o6
          cases h
          refine j_aload_n (n := 1) dX10_part0_0 rfl rfl ?_
          refine jm_geti (n := 4) (k := 19) (v := nI (F 19)) dX10_part0_1 rfl fX10_226 hk (mf_f _ _ _ 19) ?_
          refine j_iconst (n := 5) (v := nI 2) dX10_part0_4 rfl rfl ?_
          refine j_icmp_neT (n := 8) (tg := 33) dX10_part0_5 rfl rfl (i_N (by omega)) (i_N (by omega)) (fun h1 => ?_) (fun h1 => ?_)
          · refine j_aload_n (n := 34) dX10_part0_33 rfl rfl ?_
            refine jm_geti (n := 37) (k := 19) (v := nI (F 19)) dX10_part0_34 rfl fX10_226 hk (mf_f _ _ _ 19) ?_
            refine j_iconst (n := 38) (v := nI 1) dX10_part0_37 rfl rfl ?_
            refine j_icmp_neT (n := 41) (tg := 84) dX10_part0_38 rfl rfl (i_N (by omega)) (i_N (by omega)) (fun h2 => ?_) (fun h2 => ?_)
            · refine j_aload_n (n := 85) dX10_part0_84 rfl rfl ?_
              refine j_bipush (n := 87) (v := nI 33) dX10_part0_85 rfl (by decide) ?_
              refine j_cV (n := 90) dX10_part0_87 rfl sX10_256 (c_isSign (d + 2) G M X hk F p (by (repeat rw [pu_ne _ _ (by decide)]); omega) (by (repeat rw [pu_ne _ _ (by decide)]); omega) 33 (by decide)) (by omega) (by decide) rfl rfl (Nat.le_of_ble_eq_true rfl) (hk).2.1 (by decide) (kM_lt hk) (by decide) (by decide) ?_
              refine j_if_eqB (n := 93) (tg := 145) dX10_part0_90 rfl rfl (fun h3 => ?_) (fun h3 => ?_)
              · exfalso; omega
              · refine j_aload_n (n := 94) dX10_part0_93 rfl rfl ?_
                refine jm_geti (n := 97) (k := 23) (v := nI (F 23)) dX10_part0_94 rfl fX10_283 hk (mf_f _ _ _ 23) ?_
                refine j_bipush (n := 99) (v := nI 8) dX10_part0_97 rfl (by decide) ?_
                refine j_icmp_geT (n := 102) (tg := 145) dX10_part0_99 rfl rfl (i_N (by omega)) (i_N (by omega)) (fun h4 => ?_) (fun h4 => ?_)
                · exfalso; omega
                · refine j_aload_n (n := 103) dX10_part0_102 rfl rfl ?_
                  refine j_dup (n := 104) dX10_part0_103 rfl rfl ?_
                  refine jm_geti (n := 107) (k := 23) (v := nI (F 23)) dX10_part0_104 rfl fX10_283 hk (mf_f _ _ _ 23) ?_
                  refine j_iconst (n := 108) (v := nI 1) dX10_part0_107 rfl rfl ?_
                  refine j_iaddN (n := 109) (c := F 23 + 1) dX10_part0_108 rfl rfl ?_
                  refine jm_put (n := 112) (k := 23) (x := nI (F 23 + 1)) (M2 := mf M (pu F 23 (F 23 + 1)) p) dX10_part0_109 rfl pX10_283 rfl rfl hk (mf_w rfl) ?_
                  refine j_aload_n (n := 113) dX10_part0_112 rfl rfl ?_
                  refine j_cVv (n := 116) dX10_part0_113 rfl sX10_259 (c_nextToken d G M X hk (pu F 23 (F 23 + 1)) p T hT (by (repeat rw [pu_ne _ _ (by decide)]); omega) hT2 (by (repeat rw [pu_ne _ _ (by decide)]); omega) (by (repeat rw [pu_ne _ _ (by decide)]); omega)) (by omega) (by decide) rfl rfl (Nat.le_of_ble_eq_true rfl) (hk).2.1 (by decide) (kM_lt hk) (by decide) (by decide) ?_
                  refine j_aload_n (n := 117) dX10_part0_116 rfl rfl ?_
                  refine j_iload_n (n := 118) dX10_part0_117 rfl rfl ?_
                  refine j_cV (n := 121) dX10_part0_118 rfl sX10_274 (h5 (nextF T (pu F 23 (F 23 + 1))) p (true, F1, p1) (c + 1) (d + 2) hc hq (by unfold rmL at hr ⊢; omega)) (by omega) (by decide) rfl rfl (Nat.le_of_ble_eq_true rfl) (hk).2.1 (by decide) (kM_lt hk) (by decide) (by decide) ?_
                  refine j_top (y := nI 1) (zB_t rfl) ?_
                  refine j_mem (M2 := mf M F1 p1) rfl ?_
                  refine j_if_neN (n := 124) (tg := 126) dX10_part0_121 rfl rfl (by omega) (fun h5 => ?_) (fun h5 => ?_)
                  · refine j_aload_n (n := 127) dX10_part0_126 rfl rfl ?_
                    refine j_dup (n := 128) dX10_part0_127 rfl rfl ?_
                    refine jm_geti (n := 131) (k := 23) (v := nI (F1 23)) dX10_part0_128 rfl fX10_283 hk (mf_f _ _ _ 23) ?_
                    refine j_iconst (n := 132) (v := nI 1) dX10_part0_131 rfl rfl ?_
                    refine j_isubN (n := 133) (c := F1 23 - 1) dX10_part0_132 rfl (by omega) (by omega) ?_
                    refine jm_put (n := 136) (k := 23) (x := nI (F1 23 - 1)) (M2 := mf M (pu F1 23 (F1 23 - 1)) p1) dX10_part0_133 rfl pX10_283 rfl rfl hk (mf_w rfl) ?_
                    refine j_aload_n (n := 137) dX10_part0_136 rfl rfl ?_
                    refine j_iconst (n := 138) (v := nI 2) dX10_part0_137 rfl rfl ?_
                    refine j_bipush (n := 140) (v := nI 33) dX10_part0_138 rfl (by decide) ?_
                    refine j_cVv (n := 143) dX10_part0_140 rfl sX10_262 (c_step (d + 2) G M X hk (pu F1 23 (F1 23 - 1)) p1 (by (repeat rw [pu_ne _ _ (by decide)]); omega) 2 33) (by omega) (by decide) rfl rfl (Nat.le_of_ble_eq_true rfl) (hk).2.1 (by decide) (kM_lt hk) (by decide) (by decide) ?_
                    refine j_iconst (n := 144) (v := nI 1) dX10_part0_143 rfl rfl ?_
                    exact j_rb dX10_part0_144 rfl rfl (Nat.le_refl _) (Nat.le_refl _) (zB_t rfl).symm rfl rfl
                  · exact absurd h5 (by decide)
            · exfalso; omega
          · exfalso; omega
        · rename_i hne
          obtain ⟨b, F1, p1⟩ := r
          cases b
          · refine j_aload_n (n := 1) dX10_part0_0 rfl rfl ?_
            refine jm_geti (n := 4) (k := 19) (v := nI (F 19)) dX10_part0_1 rfl fX10_226 hk (mf_f _ _ _ 19) ?_
            refine j_iconst (n := 5) (v := nI 2) dX10_part0_4 rfl rfl ?_
            refine j_icmp_neT (n := 8) (tg := 33) dX10_part0_5 rfl rfl (i_N (by omega)) (i_N (by omega)) (fun h1 => ?_) (fun h1 => ?_)
            · refine j_aload_n (n := 34) dX10_part0_33 rfl rfl ?_
              refine jm_geti (n := 37) (k := 19) (v := nI (F 19)) dX10_part0_34 rfl fX10_226 hk (mf_f _ _ _ 19) ?_
              refine j_iconst (n := 38) (v := nI 1) dX10_part0_37 rfl rfl ?_
              refine j_icmp_neT (n := 41) (tg := 84) dX10_part0_38 rfl rfl (i_N (by omega)) (i_N (by omega)) (fun h2 => ?_) (fun h2 => ?_)
              · refine j_aload_n (n := 85) dX10_part0_84 rfl rfl ?_
                refine j_bipush (n := 87) (v := nI 33) dX10_part0_85 rfl (by decide) ?_
                refine j_cV (n := 90) dX10_part0_87 rfl sX10_256 (c_isSign (d + 2) G M X hk F p (by (repeat rw [pu_ne _ _ (by decide)]); omega) (by (repeat rw [pu_ne _ _ (by decide)]); omega) 33 (by decide)) (by omega) (by decide) rfl rfl (Nat.le_of_ble_eq_true rfl) (hk).2.1 (by decide) (kM_lt hk) (by decide) (by decide) ?_
                refine j_if_eqB (n := 93) (tg := 145) dX10_part0_90 rfl rfl (fun h3 => ?_) (fun h3 => ?_)
                · exfalso; omega
                · refine j_aload_n (n := 94) dX10_part0_93 rfl rfl ?_
                  refine jm_geti (n := 97) (k := 23) (v := nI (F 23)) dX10_part0_94 rfl fX10_283 hk (mf_f _ _ _ 23) ?_
                  refine j_bipush (n := 99) (v := nI 8) dX10_part0_97 rfl (by decide) ?_
                  refine j_icmp_geT (n := 102) (tg := 145) dX10_part0_99 rfl rfl (i_N (by omega)) (i_N (by omega)) (fun h4 => ?_) (fun h4 => ?_)
                  · exfalso; omega
                  · refine j_aload_n (n := 103) dX10_part0_102 rfl rfl ?_
                    refine j_dup (n := 104) dX10_part0_103 rfl rfl ?_
                    refine jm_geti (n := 107) (k := 23) (v := nI (F 23)) dX10_part0_104 rfl fX10_283 hk (mf_f _ _ _ 23) ?_
                    refine j_iconst (n := 108) (v := nI 1) dX10_part0_107 rfl rfl ?_
                    refine j_iaddN (n := 109) (c := F 23 + 1) dX10_part0_108 rfl rfl ?_
                    refine jm_put (n := 112) (k := 23) (x := nI (F 23 + 1)) (M2 := mf M (pu F 23 (F 23 + 1)) p) dX10_part0_109 rfl pX10_283 rfl rfl hk (mf_w rfl) ?_
                    refine j_aload_n (n := 113) dX10_part0_112 rfl rfl ?_
                    refine j_cVv (n := 116) dX10_part0_113 rfl sX10_259 (c_nextToken d G M X hk (pu F 23 (F 23 + 1)) p T hT (by (repeat rw [pu_ne _ _ (by decide)]); omega) hT2 (by (repeat rw [pu_ne _ _ (by decide)]); omega) (by (repeat rw [pu_ne _ _ (by decide)]); omega)) (by omega) (by decide) rfl rfl (Nat.le_of_ble_eq_true rfl) (hk).2.1 (by decide) (kM_lt hk) (by decide) (by decide) ?_
                    refine j_aload_n (n := 117) dX10_part0_116 rfl rfl ?_
                    refine j_iload_n (n := 118) dX10_part0_117 rfl rfl ?_
                    refine j_cV (n := 121) dX10_part0_118 rfl sX10_274 (h5 (nextF T (pu F 23 (F 23 + 1))) p (false, F1, p1) (c + 1) (d + 2) h hq (by unfold rmL at hr ⊢; omega)) (by omega) (by decide) rfl rfl (Nat.le_of_ble_eq_true rfl) (hk).2.1 (by decide) (kM_lt hk) (by decide) (by decide) ?_
                    refine j_top (y := nI 0) (zB_f Bool.false_ne_true) ?_
                    refine j_mem (M2 := mf M F1 p1) rfl ?_
                    refine j_if_neN (n := 124) (tg := 126) dX10_part0_121 rfl rfl (by omega) (fun h5 => ?_) (fun h5 => ?_)
                    · exact absurd h5 (by decide)
                    · refine j_iconst (n := 125) (v := nI 0) dX10_part0_124 rfl rfl ?_
                      exact j_rb dX10_part0_125 rfl rfl (Nat.le_refl _) (Nat.le_refl _) (zB_f Bool.false_ne_true).symm rfl rfl
              · exfalso; omega
            · exfalso; omega
          · exact (hne _ h).elim
      · rename_i hC
        split at h
        · rename_i hD
          cases h
          refine j_aload_n (n := 1) dX10_part0_0 rfl rfl ?_
          refine jm_geti (n := 4) (k := 19) (v := nI (F 19)) dX10_part0_1 rfl fX10_226 hk (mf_f _ _ _ 19) ?_
          refine j_iconst (n := 5) (v := nI 2) dX10_part0_4 rfl rfl ?_
          refine j_icmp_neT (n := 8) (tg := 33) dX10_part0_5 rfl rfl (i_N (by omega)) (i_N (by omega)) (fun h1 => ?_) (fun h1 => ?_)
          · refine j_aload_n (n := 34) dX10_part0_33 rfl rfl ?_
            refine jm_geti (n := 37) (k := 19) (v := nI (F 19)) dX10_part0_34 rfl fX10_226 hk (mf_f _ _ _ 19) ?_
            refine j_iconst (n := 38) (v := nI 1) dX10_part0_37 rfl rfl ?_
            refine j_icmp_neT (n := 41) (tg := 84) dX10_part0_38 rfl rfl (i_N (by omega)) (i_N (by omega)) (fun h2 => ?_) (fun h2 => ?_)
            · refine j_aload_n (n := 85) dX10_part0_84 rfl rfl ?_
              refine j_bipush (n := 87) (v := nI 33) dX10_part0_85 rfl (by decide) ?_
              refine j_cV (n := 90) dX10_part0_87 rfl sX10_256 (c_isSign (d + 2) G M X hk F p (by (repeat rw [pu_ne _ _ (by decide)]); omega) (by (repeat rw [pu_ne _ _ (by decide)]); omega) 33 (by decide)) (by omega) (by decide) rfl rfl (Nat.le_of_ble_eq_true rfl) (hk).2.1 (by decide) (kM_lt hk) (by decide) (by decide) ?_
              refine j_if_eqB (n := 93) (tg := 145) dX10_part0_90 rfl rfl (fun h3 => ?_) (fun h3 => ?_)
              · refine j_aload_n (n := 146) dX10_part0_145 rfl rfl ?_
                refine j_bipush (n := 148) (v := nI 40) dX10_part0_146 rfl (by decide) ?_
                refine j_cV (n := 151) dX10_part0_148 rfl sX10_256 (c_isSign (d + 2) G M X hk F p (by (repeat rw [pu_ne _ _ (by decide)]); omega) (by (repeat rw [pu_ne _ _ (by decide)]); omega) 40 (by decide)) (by omega) (by decide) rfl rfl (Nat.le_of_ble_eq_true rfl) (hk).2.1 (by decide) (kM_lt hk) (by decide) (by decide) ?_
                refine j_if_eqB (n := 154) (tg := 163) dX10_part0_151 rfl rfl (fun h4 => ?_) (fun h4 => ?_)
                · refine j_iconst (n := 164) (v := nI 0) dX10_part0_163 rfl rfl ?_
                  exact j_rb dX10_part0_164 rfl rfl (Nat.le_refl _) (Nat.le_refl _) (zB_f Bool.false_ne_true).symm rfl rfl
                · refine j_aload_n (n := 155) dX10_part0_154 rfl rfl ?_
                  refine jm_geti (n := 158) (k := 22) (v := nI (F 22)) dX10_part0_155 rfl fX10_286 hk (mf_f _ _ _ 22) ?_
                  refine j_bipush (n := 160) (v := nI 8) dX10_part0_158 rfl (by decide) ?_
                  refine j_icmp_neT (n := 163) (tg := 165) dX10_part0_160 rfl rfl (i_N (by omega)) (i_N (by omega)) (fun h5 => ?_) (fun h5 => ?_)
                  · exfalso; omega
                  · refine j_iconst (n := 164) (v := nI 0) dX10_part0_163 rfl rfl ?_
                    exact j_rb dX10_part0_164 rfl rfl (Nat.le_refl _) (Nat.le_refl _) (zB_f Bool.false_ne_true).symm rfl rfl
              · refine j_aload_n (n := 94) dX10_part0_93 rfl rfl ?_
                refine jm_geti (n := 97) (k := 23) (v := nI (F 23)) dX10_part0_94 rfl fX10_283 hk (mf_f _ _ _ 23) ?_
                refine j_bipush (n := 99) (v := nI 8) dX10_part0_97 rfl (by decide) ?_
                refine j_icmp_geT (n := 102) (tg := 145) dX10_part0_99 rfl rfl (i_N (by omega)) (i_N (by omega)) (fun h6 => ?_) (fun h6 => ?_)
                · refine j_aload_n (n := 146) dX10_part0_145 rfl rfl ?_
                  refine j_bipush (n := 148) (v := nI 40) dX10_part0_146 rfl (by decide) ?_
                  refine j_cV (n := 151) dX10_part0_148 rfl sX10_256 (c_isSign (d + 2) G M X hk F p (by (repeat rw [pu_ne _ _ (by decide)]); omega) (by (repeat rw [pu_ne _ _ (by decide)]); omega) 40 (by decide)) (by omega) (by decide) rfl rfl (Nat.le_of_ble_eq_true rfl) (hk).2.1 (by decide) (kM_lt hk) (by decide) (by decide) ?_
                  refine j_if_eqB (n := 154) (tg := 163) dX10_part0_151 rfl rfl (fun h7 => ?_) (fun h7 => ?_)
                  · refine j_iconst (n := 164) (v := nI 0) dX10_part0_163 rfl rfl ?_
                    exact j_rb dX10_part0_164 rfl rfl (Nat.le_refl _) (Nat.le_refl _) (zB_f Bool.false_ne_true).symm rfl rfl
                  · refine j_aload_n (n := 155) dX10_part0_154 rfl rfl ?_
                    refine jm_geti (n := 158) (k := 22) (v := nI (F 22)) dX10_part0_155 rfl fX10_286 hk (mf_f _ _ _ 22) ?_
                    refine j_bipush (n := 160) (v := nI 8) dX10_part0_158 rfl (by decide) ?_
                    refine j_icmp_neT (n := 163) (tg := 165) dX10_part0_160 rfl rfl (i_N (by omega)) (i_N (by omega)) (fun h8 => ?_) (fun h8 => ?_)
                    · exfalso; omega
                    · refine j_iconst (n := 164) (v := nI 0) dX10_part0_163 rfl rfl ?_
                      exact j_rb dX10_part0_164 rfl rfl (Nat.le_refl _) (Nat.le_refl _) (zB_f Bool.false_ne_true).symm rfl rfl
                · exfalso; omega
            · refine j_aload_n (n := 42) dX10_part0_41 rfl rfl ?_
              refine jm_geti (n := 45) (k := 21) (v := nI (F 21)) dX10_part0_42 rfl fX10_235 hk (mf_f _ _ _ 21) ?_
              refine j_if_eqN (n := 48) (tg := 84) dX10_part0_45 rfl rfl (by omega) (fun h9 => ?_) (fun h9 => ?_)
              · refine j_aload_n (n := 85) dX10_part0_84 rfl rfl ?_
                refine j_bipush (n := 87) (v := nI 33) dX10_part0_85 rfl (by decide) ?_
                refine j_cV (n := 90) dX10_part0_87 rfl sX10_256 (c_isSign (d + 2) G M X hk F p (by (repeat rw [pu_ne _ _ (by decide)]); omega) (by (repeat rw [pu_ne _ _ (by decide)]); omega) 33 (by decide)) (by omega) (by decide) rfl rfl (Nat.le_of_ble_eq_true rfl) (hk).2.1 (by decide) (kM_lt hk) (by decide) (by decide) ?_
                refine j_if_eqB (n := 93) (tg := 145) dX10_part0_90 rfl rfl (fun h10 => ?_) (fun h10 => ?_)
                · refine j_aload_n (n := 146) dX10_part0_145 rfl rfl ?_
                  refine j_bipush (n := 148) (v := nI 40) dX10_part0_146 rfl (by decide) ?_
                  refine j_cV (n := 151) dX10_part0_148 rfl sX10_256 (c_isSign (d + 2) G M X hk F p (by (repeat rw [pu_ne _ _ (by decide)]); omega) (by (repeat rw [pu_ne _ _ (by decide)]); omega) 40 (by decide)) (by omega) (by decide) rfl rfl (Nat.le_of_ble_eq_true rfl) (hk).2.1 (by decide) (kM_lt hk) (by decide) (by decide) ?_
                  refine j_if_eqB (n := 154) (tg := 163) dX10_part0_151 rfl rfl (fun h11 => ?_) (fun h11 => ?_)
                  · refine j_iconst (n := 164) (v := nI 0) dX10_part0_163 rfl rfl ?_
                    exact j_rb dX10_part0_164 rfl rfl (Nat.le_refl _) (Nat.le_refl _) (zB_f Bool.false_ne_true).symm rfl rfl
                  · refine j_aload_n (n := 155) dX10_part0_154 rfl rfl ?_
                    refine jm_geti (n := 158) (k := 22) (v := nI (F 22)) dX10_part0_155 rfl fX10_286 hk (mf_f _ _ _ 22) ?_
                    refine j_bipush (n := 160) (v := nI 8) dX10_part0_158 rfl (by decide) ?_
                    refine j_icmp_neT (n := 163) (tg := 165) dX10_part0_160 rfl rfl (i_N (by omega)) (i_N (by omega)) (fun h12 => ?_) (fun h12 => ?_)
                    · exfalso; omega
                    · refine j_iconst (n := 164) (v := nI 0) dX10_part0_163 rfl rfl ?_
                      exact j_rb dX10_part0_164 rfl rfl (Nat.le_refl _) (Nat.le_refl _) (zB_f Bool.false_ne_true).symm rfl rfl
                · refine j_aload_n (n := 94) dX10_part0_93 rfl rfl ?_
                  refine jm_geti (n := 97) (k := 23) (v := nI (F 23)) dX10_part0_94 rfl fX10_283 hk (mf_f _ _ _ 23) ?_
                  refine j_bipush (n := 99) (v := nI 8) dX10_part0_97 rfl (by decide) ?_
                  refine j_icmp_geT (n := 102) (tg := 145) dX10_part0_99 rfl rfl (i_N (by omega)) (i_N (by omega)) (fun h13 => ?_) (fun h13 => ?_)
                  · refine j_aload_n (n := 146) dX10_part0_145 rfl rfl ?_
                    refine j_bipush (n := 148) (v := nI 40) dX10_part0_146 rfl (by decide) ?_
                    refine j_cV (n := 151) dX10_part0_148 rfl sX10_256 (c_isSign (d + 2) G M X hk F p (by (repeat rw [pu_ne _ _ (by decide)]); omega) (by (repeat rw [pu_ne _ _ (by decide)]); omega) 40 (by decide)) (by omega) (by decide) rfl rfl (Nat.le_of_ble_eq_true rfl) (hk).2.1 (by decide) (kM_lt hk) (by decide) (by decide) ?_
                    refine j_if_eqB (n := 154) (tg := 163) dX10_part0_151 rfl rfl (fun h14 => ?_) (fun h14 => ?_)
                    · refine j_iconst (n := 164) (v := nI 0) dX10_part0_163 rfl rfl ?_
                      exact j_rb dX10_part0_164 rfl rfl (Nat.le_refl _) (Nat.le_refl _) (zB_f Bool.false_ne_true).symm rfl rfl
                    · refine j_aload_n (n := 155) dX10_part0_154 rfl rfl ?_
                      refine jm_geti (n := 158) (k := 22) (v := nI (F 22)) dX10_part0_155 rfl fX10_286 hk (mf_f _ _ _ 22) ?_
                      refine j_bipush (n := 160) (v := nI 8) dX10_part0_158 rfl (by decide) ?_
                      refine j_icmp_neT (n := 163) (tg := 165) dX10_part0_160 rfl rfl (i_N (by omega)) (i_N (by omega)) (fun h15 => ?_) (fun h15 => ?_)
                      · exfalso; omega
                      · refine j_iconst (n := 164) (v := nI 0) dX10_part0_163 rfl rfl ?_
                        exact j_rb dX10_part0_164 rfl rfl (Nat.le_refl _) (Nat.le_refl _) (zB_f Bool.false_ne_true).symm rfl rfl
                  · exfalso; omega
              · refine j_iload_n (n := 49) dX10_part0_48 rfl rfl ?_
                refine j_aload_n (n := 50) dX10_part0_49 rfl rfl ?_
                refine jm_geti (n := 53) (k := 21) (v := nI (F 21)) dX10_part0_50 rfl fX10_235 hk (mf_f _ _ _ 21) ?_
                refine j_cS (n := 56) dX10_part0_53 rfl sX10_280 (c_isName (d + 2) G _ X key (F 21) hkey f21) (by omega) (by decide) rfl rfl (Nat.le_of_ble_eq_true rfl) (by decide) (by decide) ?_
                refine j_if_eqB (n := 59) (tg := 84) dX10_part0_56 rfl rfl (fun h16 => ?_) (fun h16 => ?_)
                · refine j_aload_n (n := 85) dX10_part0_84 rfl rfl ?_
                  refine j_bipush (n := 87) (v := nI 33) dX10_part0_85 rfl (by decide) ?_
                  refine j_cV (n := 90) dX10_part0_87 rfl sX10_256 (c_isSign (d + 2) G M X hk F p (by (repeat rw [pu_ne _ _ (by decide)]); omega) (by (repeat rw [pu_ne _ _ (by decide)]); omega) 33 (by decide)) (by omega) (by decide) rfl rfl (Nat.le_of_ble_eq_true rfl) (hk).2.1 (by decide) (kM_lt hk) (by decide) (by decide) ?_
                  refine j_if_eqB (n := 93) (tg := 145) dX10_part0_90 rfl rfl (fun h17 => ?_) (fun h17 => ?_)
                  · refine j_aload_n (n := 146) dX10_part0_145 rfl rfl ?_
                    refine j_bipush (n := 148) (v := nI 40) dX10_part0_146 rfl (by decide) ?_
                    refine j_cV (n := 151) dX10_part0_148 rfl sX10_256 (c_isSign (d + 2) G M X hk F p (by (repeat rw [pu_ne _ _ (by decide)]); omega) (by (repeat rw [pu_ne _ _ (by decide)]); omega) 40 (by decide)) (by omega) (by decide) rfl rfl (Nat.le_of_ble_eq_true rfl) (hk).2.1 (by decide) (kM_lt hk) (by decide) (by decide) ?_
                    refine j_if_eqB (n := 154) (tg := 163) dX10_part0_151 rfl rfl (fun h18 => ?_) (fun h18 => ?_)
                    · refine j_iconst (n := 164) (v := nI 0) dX10_part0_163 rfl rfl ?_
                      exact j_rb dX10_part0_164 rfl rfl (Nat.le_refl _) (Nat.le_refl _) (zB_f Bool.false_ne_true).symm rfl rfl
                    · refine j_aload_n (n := 155) dX10_part0_154 rfl rfl ?_
                      refine jm_geti (n := 158) (k := 22) (v := nI (F 22)) dX10_part0_155 rfl fX10_286 hk (mf_f _ _ _ 22) ?_
                      refine j_bipush (n := 160) (v := nI 8) dX10_part0_158 rfl (by decide) ?_
                      refine j_icmp_neT (n := 163) (tg := 165) dX10_part0_160 rfl rfl (i_N (by omega)) (i_N (by omega)) (fun h19 => ?_) (fun h19 => ?_)
                      · exfalso; omega
                      · refine j_iconst (n := 164) (v := nI 0) dX10_part0_163 rfl rfl ?_
                        exact j_rb dX10_part0_164 rfl rfl (Nat.le_refl _) (Nat.le_refl _) (zB_f Bool.false_ne_true).symm rfl rfl
                  · refine j_aload_n (n := 94) dX10_part0_93 rfl rfl ?_
                    refine jm_geti (n := 97) (k := 23) (v := nI (F 23)) dX10_part0_94 rfl fX10_283 hk (mf_f _ _ _ 23) ?_
                    refine j_bipush (n := 99) (v := nI 8) dX10_part0_97 rfl (by decide) ?_
                    refine j_icmp_geT (n := 102) (tg := 145) dX10_part0_99 rfl rfl (i_N (by omega)) (i_N (by omega)) (fun h20 => ?_) (fun h20 => ?_)
                    · refine j_aload_n (n := 146) dX10_part0_145 rfl rfl ?_
                      refine j_bipush (n := 148) (v := nI 40) dX10_part0_146 rfl (by decide) ?_
                      refine j_cV (n := 151) dX10_part0_148 rfl sX10_256 (c_isSign (d + 2) G M X hk F p (by (repeat rw [pu_ne _ _ (by decide)]); omega) (by (repeat rw [pu_ne _ _ (by decide)]); omega) 40 (by decide)) (by omega) (by decide) rfl rfl (Nat.le_of_ble_eq_true rfl) (hk).2.1 (by decide) (kM_lt hk) (by decide) (by decide) ?_
                      refine j_if_eqB (n := 154) (tg := 163) dX10_part0_151 rfl rfl (fun h21 => ?_) (fun h21 => ?_)
                      · refine j_iconst (n := 164) (v := nI 0) dX10_part0_163 rfl rfl ?_
                        exact j_rb dX10_part0_164 rfl rfl (Nat.le_refl _) (Nat.le_refl _) (zB_f Bool.false_ne_true).symm rfl rfl
                      · refine j_aload_n (n := 155) dX10_part0_154 rfl rfl ?_
                        refine jm_geti (n := 158) (k := 22) (v := nI (F 22)) dX10_part0_155 rfl fX10_286 hk (mf_f _ _ _ 22) ?_
                        refine j_bipush (n := 160) (v := nI 8) dX10_part0_158 rfl (by decide) ?_
                        refine j_icmp_neT (n := 163) (tg := 165) dX10_part0_160 rfl rfl (i_N (by omega)) (i_N (by omega)) (fun h22 => ?_) (fun h22 => ?_)
                        · exfalso; omega
                        · refine j_iconst (n := 164) (v := nI 0) dX10_part0_163 rfl rfl ?_
                          exact j_rb dX10_part0_164 rfl rfl (Nat.le_refl _) (Nat.le_refl _) (zB_f Bool.false_ne_true).symm rfl rfl
                    · exfalso; omega
                · exfalso; omega
          · exfalso; omega
        · rename_i hD
          obtain ⟨n1, n16, n17, nr⟩ := next_ok hT2 (okF_pu (i := 22) (v := F 22 + 1) a1 (by decide))
          have g22 := nr 22 (by decide)
          have g23 := nr 23 (by decide)
          have g24 := nr 24 (by decide)
          have g25 := nr 25 (by decide)
          clear nr
          rw [pu_ne _ _ (by decide)] at n16 n17 g24 g25
          rw [pu_eq] at g22
          rw [pu_ne _ _ (by decide)] at g23
          have hq : okP c (nextF T (pu F 22 (F 22 + 1)), p) := ⟨n1, by dsimp only; omega, by dsimp only; omega, by dsimp only; omega, by dsimp only; omega⟩
          split at h
          · rename_i s1 hc
            obtain ⟨F1, p1⟩ := s1
            obtain ⟨⟨o1, o2, o3, o4, o5⟩, k22, k23, k25, k16⟩ := (pz_ok hT2 key n _ _ _ c hc hq).2 rfl
            dsimp only [nx, fl] at o1 o2 o3 o4 o5 k22 k23 k25 k16
            have o6 := o1
            obtain ⟨q16, q17, q18, q19, q20, q21, q0⟩ := o6
            split at h
            · rename_i hE
              dsimp only at hE
              cases h
              refine j_aload_n (n := 1) dX10_part0_0 rfl rfl ?_
              refine jm_geti (n := 4) (k := 19) (v := nI (F 19)) dX10_part0_1 rfl fX10_226 hk (mf_f _ _ _ 19) ?_
              refine j_iconst (n := 5) (v := nI 2) dX10_part0_4 rfl rfl ?_
              refine j_icmp_neT (n := 8) (tg := 33) dX10_part0_5 rfl rfl (i_N (by omega)) (i_N (by omega)) (fun h1 => ?_) (fun h1 => ?_)
              · refine j_aload_n (n := 34) dX10_part0_33 rfl rfl ?_
                refine jm_geti (n := 37) (k := 19) (v := nI (F 19)) dX10_part0_34 rfl fX10_226 hk (mf_f _ _ _ 19) ?_
                refine j_iconst (n := 38) (v := nI 1) dX10_part0_37 rfl rfl ?_
                refine j_icmp_neT (n := 41) (tg := 84) dX10_part0_38 rfl rfl (i_N (by omega)) (i_N (by omega)) (fun h2 => ?_) (fun h2 => ?_)
                · refine j_aload_n (n := 85) dX10_part0_84 rfl rfl ?_
                  refine j_bipush (n := 87) (v := nI 33) dX10_part0_85 rfl (by decide) ?_
                  refine j_cV (n := 90) dX10_part0_87 rfl sX10_256 (c_isSign (d + 2) G M X hk F p (by (repeat rw [pu_ne _ _ (by decide)]); omega) (by (repeat rw [pu_ne _ _ (by decide)]); omega) 33 (by decide)) (by omega) (by decide) rfl rfl (Nat.le_of_ble_eq_true rfl) (hk).2.1 (by decide) (kM_lt hk) (by decide) (by decide) ?_
                  refine j_if_eqB (n := 93) (tg := 145) dX10_part0_90 rfl rfl (fun h3 => ?_) (fun h3 => ?_)
                  · refine j_aload_n (n := 146) dX10_part0_145 rfl rfl ?_
                    refine j_bipush (n := 148) (v := nI 40) dX10_part0_146 rfl (by decide) ?_
                    refine j_cV (n := 151) dX10_part0_148 rfl sX10_256 (c_isSign (d + 2) G M X hk F p (by (repeat rw [pu_ne _ _ (by decide)]); omega) (by (repeat rw [pu_ne _ _ (by decide)]); omega) 40 (by decide)) (by omega) (by decide) rfl rfl (Nat.le_of_ble_eq_true rfl) (hk).2.1 (by decide) (kM_lt hk) (by decide) (by decide) ?_
                    refine j_if_eqB (n := 154) (tg := 163) dX10_part0_151 rfl rfl (fun h4 => ?_) (fun h4 => ?_)
                    · exfalso; omega
                    · refine j_aload_n (n := 155) dX10_part0_154 rfl rfl ?_
                      refine jm_geti (n := 158) (k := 22) (v := nI (F 22)) dX10_part0_155 rfl fX10_286 hk (mf_f _ _ _ 22) ?_
                      refine j_bipush (n := 160) (v := nI 8) dX10_part0_158 rfl (by decide) ?_
                      refine j_icmp_neT (n := 163) (tg := 165) dX10_part0_160 rfl rfl (i_N (by omega)) (i_N (by omega)) (fun h5 => ?_) (fun h5 => ?_)
                      · refine j_aload_n (n := 166) dX10_part0_165 rfl rfl ?_
                        refine j_dup (n := 167) dX10_part0_166 rfl rfl ?_
                        refine jm_geti (n := 170) (k := 22) (v := nI (F 22)) dX10_part0_167 rfl fX10_286 hk (mf_f _ _ _ 22) ?_
                        refine j_iconst (n := 171) (v := nI 1) dX10_part0_170 rfl rfl ?_
                        refine j_iaddN (n := 172) (c := F 22 + 1) dX10_part0_171 rfl rfl ?_
                        refine jm_put (n := 175) (k := 22) (x := nI (F 22 + 1)) (M2 := mf M (pu F 22 (F 22 + 1)) p) dX10_part0_172 rfl pX10_286 rfl rfl hk (mf_w rfl) ?_
                        refine j_aload_n (n := 176) dX10_part0_175 rfl rfl ?_
                        refine j_cVv (n := 179) dX10_part0_176 rfl sX10_259 (c_nextToken d G M X hk (pu F 22 (F 22 + 1)) p T hT (by (repeat rw [pu_ne _ _ (by decide)]); omega) hT2 (by (repeat rw [pu_ne _ _ (by decide)]); omega) (by (repeat rw [pu_ne _ _ (by decide)]); omega)) (by omega) (by decide) rfl rfl (Nat.le_of_ble_eq_true rfl) (hk).2.1 (by decide) (kM_lt hk) (by decide) (by decide) ?_
                        refine j_aload_n (n := 180) dX10_part0_179 rfl rfl ?_
                        refine j_iload_n (n := 181) dX10_part0_180 rfl rfl ?_
                        refine j_cV (n := 184) dX10_part0_181 rfl sX10_289 (h0 (nextF T (pu F 22 (F 22 + 1))) p (true, F1, p1) c (d + 2) hc hq (by unfold rmL at hr ⊢; omega)) (by omega) (by decide) rfl rfl (Nat.le_of_ble_eq_true rfl) (hk).2.1 (by decide) (kM_lt hk) (by decide) (by decide) ?_
                        refine j_top (y := nI 1) (zB_t rfl) ?_
                        refine j_mem (M2 := mf M F1 p1) rfl ?_
                        refine j_if_eqN (n := 187) (tg := 196) dX10_part0_184 rfl rfl (by omega) (fun h6 => ?_) (fun h6 => ?_)
                        · exact absurd h6 (by decide)
                        · refine j_aload_n (n := 188) dX10_part0_187 rfl rfl ?_
                          refine j_bipush (n := 190) (v := nI 41) dX10_part0_188 rfl (by decide) ?_
                          refine j_cV (n := 193) dX10_part0_190 rfl sX10_256 (c_isSign (d + 2) G M X hk F1 p1 (by (repeat rw [pu_ne _ _ (by decide)]); omega) (by (repeat rw [pu_ne _ _ (by decide)]); omega) 41 (by decide)) (by omega) (by decide) rfl rfl (Nat.le_of_ble_eq_true rfl) (hk).2.1 (by decide) (kM_lt hk) (by decide) (by decide) ?_
                          refine j_if_neB (n := 196) (tg := 198) dX10_part0_193 rfl rfl (fun h7 => ?_) (fun h7 => ?_)
                          · refine j_aload_n (n := 199) dX10_part0_198 rfl rfl ?_
                            refine j_dup (n := 200) dX10_part0_199 rfl rfl ?_
                            refine jm_geti (n := 203) (k := 22) (v := nI (F1 22)) dX10_part0_200 rfl fX10_286 hk (mf_f _ _ _ 22) ?_
                            refine j_iconst (n := 204) (v := nI 1) dX10_part0_203 rfl rfl ?_
                            refine j_isubN (n := 205) (c := F1 22 - 1) dX10_part0_204 rfl (by omega) (by omega) ?_
                            refine jm_put (n := 208) (k := 22) (x := nI (F1 22 - 1)) (M2 := mf M (pu F1 22 (F1 22 - 1)) p1) dX10_part0_205 rfl pX10_286 rfl rfl hk (mf_w rfl) ?_
                            refine j_aload_n (n := 209) dX10_part0_208 rfl rfl ?_
                            refine j_cVv (n := 212) dX10_part0_209 rfl sX10_259 (c_nextToken d G M X hk (pu F1 22 (F1 22 - 1)) p1 T hT (by (repeat rw [pu_ne _ _ (by decide)]); omega) hT2 (by (repeat rw [pu_ne _ _ (by decide)]); omega) (by (repeat rw [pu_ne _ _ (by decide)]); omega)) (by omega) (by decide) rfl rfl (Nat.le_of_ble_eq_true rfl) (hk).2.1 (by decide) (kM_lt hk) (by decide) (by decide) ?_
                            refine j_iconst (n := 213) (v := nI 1) dX10_part0_212 rfl rfl ?_
                            exact j_rb dX10_part0_213 rfl rfl (Nat.le_refl _) (Nat.le_refl _) (zB_t rfl).symm rfl rfl
                          · exfalso; omega
                      · exfalso; omega
                  · exfalso; omega
                · exfalso; omega
              · exfalso; omega
            · rename_i hE
              dsimp only at hE
              cases h
              refine j_aload_n (n := 1) dX10_part0_0 rfl rfl ?_
              refine jm_geti (n := 4) (k := 19) (v := nI (F 19)) dX10_part0_1 rfl fX10_226 hk (mf_f _ _ _ 19) ?_
              refine j_iconst (n := 5) (v := nI 2) dX10_part0_4 rfl rfl ?_
              refine j_icmp_neT (n := 8) (tg := 33) dX10_part0_5 rfl rfl (i_N (by omega)) (i_N (by omega)) (fun h1 => ?_) (fun h1 => ?_)
              · refine j_aload_n (n := 34) dX10_part0_33 rfl rfl ?_
                refine jm_geti (n := 37) (k := 19) (v := nI (F 19)) dX10_part0_34 rfl fX10_226 hk (mf_f _ _ _ 19) ?_
                refine j_iconst (n := 38) (v := nI 1) dX10_part0_37 rfl rfl ?_
                refine j_icmp_neT (n := 41) (tg := 84) dX10_part0_38 rfl rfl (i_N (by omega)) (i_N (by omega)) (fun h2 => ?_) (fun h2 => ?_)
                · refine j_aload_n (n := 85) dX10_part0_84 rfl rfl ?_
                  refine j_bipush (n := 87) (v := nI 33) dX10_part0_85 rfl (by decide) ?_
                  refine j_cV (n := 90) dX10_part0_87 rfl sX10_256 (c_isSign (d + 2) G M X hk F p (by (repeat rw [pu_ne _ _ (by decide)]); omega) (by (repeat rw [pu_ne _ _ (by decide)]); omega) 33 (by decide)) (by omega) (by decide) rfl rfl (Nat.le_of_ble_eq_true rfl) (hk).2.1 (by decide) (kM_lt hk) (by decide) (by decide) ?_
                  refine j_if_eqB (n := 93) (tg := 145) dX10_part0_90 rfl rfl (fun h3 => ?_) (fun h3 => ?_)
                  · refine j_aload_n (n := 146) dX10_part0_145 rfl rfl ?_
                    refine j_bipush (n := 148) (v := nI 40) dX10_part0_146 rfl (by decide) ?_
                    refine j_cV (n := 151) dX10_part0_148 rfl sX10_256 (c_isSign (d + 2) G M X hk F p (by (repeat rw [pu_ne _ _ (by decide)]); omega) (by (repeat rw [pu_ne _ _ (by decide)]); omega) 40 (by decide)) (by omega) (by decide) rfl rfl (Nat.le_of_ble_eq_true rfl) (hk).2.1 (by decide) (kM_lt hk) (by decide) (by decide) ?_
                    refine j_if_eqB (n := 154) (tg := 163) dX10_part0_151 rfl rfl (fun h4 => ?_) (fun h4 => ?_)
                    · exfalso; omega
                    · refine j_aload_n (n := 155) dX10_part0_154 rfl rfl ?_
                      refine jm_geti (n := 158) (k := 22) (v := nI (F 22)) dX10_part0_155 rfl fX10_286 hk (mf_f _ _ _ 22) ?_
                      refine j_bipush (n := 160) (v := nI 8) dX10_part0_158 rfl (by decide) ?_
                      refine j_icmp_neT (n := 163) (tg := 165) dX10_part0_160 rfl rfl (i_N (by omega)) (i_N (by omega)) (fun h5 => ?_) (fun h5 => ?_)
                      · refine j_aload_n (n := 166) dX10_part0_165 rfl rfl ?_
                        refine j_dup (n := 167) dX10_part0_166 rfl rfl ?_
                        refine jm_geti (n := 170) (k := 22) (v := nI (F 22)) dX10_part0_167 rfl fX10_286 hk (mf_f _ _ _ 22) ?_
                        refine j_iconst (n := 171) (v := nI 1) dX10_part0_170 rfl rfl ?_
                        refine j_iaddN (n := 172) (c := F 22 + 1) dX10_part0_171 rfl rfl ?_
                        refine jm_put (n := 175) (k := 22) (x := nI (F 22 + 1)) (M2 := mf M (pu F 22 (F 22 + 1)) p) dX10_part0_172 rfl pX10_286 rfl rfl hk (mf_w rfl) ?_
                        refine j_aload_n (n := 176) dX10_part0_175 rfl rfl ?_
                        refine j_cVv (n := 179) dX10_part0_176 rfl sX10_259 (c_nextToken d G M X hk (pu F 22 (F 22 + 1)) p T hT (by (repeat rw [pu_ne _ _ (by decide)]); omega) hT2 (by (repeat rw [pu_ne _ _ (by decide)]); omega) (by (repeat rw [pu_ne _ _ (by decide)]); omega)) (by omega) (by decide) rfl rfl (Nat.le_of_ble_eq_true rfl) (hk).2.1 (by decide) (kM_lt hk) (by decide) (by decide) ?_
                        refine j_aload_n (n := 180) dX10_part0_179 rfl rfl ?_
                        refine j_iload_n (n := 181) dX10_part0_180 rfl rfl ?_
                        refine j_cV (n := 184) dX10_part0_181 rfl sX10_289 (h0 (nextF T (pu F 22 (F 22 + 1))) p (true, F1, p1) c (d + 2) hc hq (by unfold rmL at hr ⊢; omega)) (by omega) (by decide) rfl rfl (Nat.le_of_ble_eq_true rfl) (hk).2.1 (by decide) (kM_lt hk) (by decide) (by decide) ?_
                        refine j_top (y := nI 1) (zB_t rfl) ?_
                        refine j_mem (M2 := mf M F1 p1) rfl ?_
                        refine j_if_eqN (n := 187) (tg := 196) dX10_part0_184 rfl rfl (by omega) (fun h6 => ?_) (fun h6 => ?_)
                        · exact absurd h6 (by decide)
                        · refine j_aload_n (n := 188) dX10_part0_187 rfl rfl ?_
                          refine j_bipush (n := 190) (v := nI 41) dX10_part0_188 rfl (by decide) ?_
                          refine j_cV (n := 193) dX10_part0_190 rfl sX10_256 (c_isSign (d + 2) G M X hk F1 p1 (by (repeat rw [pu_ne _ _ (by decide)]); omega) (by (repeat rw [pu_ne _ _ (by decide)]); omega) 41 (by decide)) (by omega) (by decide) rfl rfl (Nat.le_of_ble_eq_true rfl) (hk).2.1 (by decide) (kM_lt hk) (by decide) (by decide) ?_
                          refine j_if_neB (n := 196) (tg := 198) dX10_part0_193 rfl rfl (fun h7 => ?_) (fun h7 => ?_)
                          · exfalso; omega
                          · refine j_iconst (n := 197) (v := nI 0) dX10_part0_196 rfl rfl ?_
                            exact j_rb dX10_part0_197 rfl rfl (Nat.le_refl _) (Nat.le_refl _) (zB_f Bool.false_ne_true).symm rfl rfl
                      · exfalso; omega
                  · exfalso; omega
                · exfalso; omega
              · exfalso; omega
          · rename_i hne
            obtain ⟨b, F1, p1⟩ := r
            cases b
            · refine j_aload_n (n := 1) dX10_part0_0 rfl rfl ?_
              refine jm_geti (n := 4) (k := 19) (v := nI (F 19)) dX10_part0_1 rfl fX10_226 hk (mf_f _ _ _ 19) ?_
              refine j_iconst (n := 5) (v := nI 2) dX10_part0_4 rfl rfl ?_
              refine j_icmp_neT (n := 8) (tg := 33) dX10_part0_5 rfl rfl (i_N (by omega)) (i_N (by omega)) (fun h1 => ?_) (fun h1 => ?_)
              · refine j_aload_n (n := 34) dX10_part0_33 rfl rfl ?_
                refine jm_geti (n := 37) (k := 19) (v := nI (F 19)) dX10_part0_34 rfl fX10_226 hk (mf_f _ _ _ 19) ?_
                refine j_iconst (n := 38) (v := nI 1) dX10_part0_37 rfl rfl ?_
                refine j_icmp_neT (n := 41) (tg := 84) dX10_part0_38 rfl rfl (i_N (by omega)) (i_N (by omega)) (fun h2 => ?_) (fun h2 => ?_)
                · refine j_aload_n (n := 85) dX10_part0_84 rfl rfl ?_
                  refine j_bipush (n := 87) (v := nI 33) dX10_part0_85 rfl (by decide) ?_
                  refine j_cV (n := 90) dX10_part0_87 rfl sX10_256 (c_isSign (d + 2) G M X hk F p (by (repeat rw [pu_ne _ _ (by decide)]); omega) (by (repeat rw [pu_ne _ _ (by decide)]); omega) 33 (by decide)) (by omega) (by decide) rfl rfl (Nat.le_of_ble_eq_true rfl) (hk).2.1 (by decide) (kM_lt hk) (by decide) (by decide) ?_
                  refine j_if_eqB (n := 93) (tg := 145) dX10_part0_90 rfl rfl (fun h3 => ?_) (fun h3 => ?_)
                  · refine j_aload_n (n := 146) dX10_part0_145 rfl rfl ?_
                    refine j_bipush (n := 148) (v := nI 40) dX10_part0_146 rfl (by decide) ?_
                    refine j_cV (n := 151) dX10_part0_148 rfl sX10_256 (c_isSign (d + 2) G M X hk F p (by (repeat rw [pu_ne _ _ (by decide)]); omega) (by (repeat rw [pu_ne _ _ (by decide)]); omega) 40 (by decide)) (by omega) (by decide) rfl rfl (Nat.le_of_ble_eq_true rfl) (hk).2.1 (by decide) (kM_lt hk) (by decide) (by decide) ?_
                    refine j_if_eqB (n := 154) (tg := 163) dX10_part0_151 rfl rfl (fun h4 => ?_) (fun h4 => ?_)
                    · exfalso; omega
                    · refine j_aload_n (n := 155) dX10_part0_154 rfl rfl ?_
                      refine jm_geti (n := 158) (k := 22) (v := nI (F 22)) dX10_part0_155 rfl fX10_286 hk (mf_f _ _ _ 22) ?_
                      refine j_bipush (n := 160) (v := nI 8) dX10_part0_158 rfl (by decide) ?_
                      refine j_icmp_neT (n := 163) (tg := 165) dX10_part0_160 rfl rfl (i_N (by omega)) (i_N (by omega)) (fun h5 => ?_) (fun h5 => ?_)
                      · refine j_aload_n (n := 166) dX10_part0_165 rfl rfl ?_
                        refine j_dup (n := 167) dX10_part0_166 rfl rfl ?_
                        refine jm_geti (n := 170) (k := 22) (v := nI (F 22)) dX10_part0_167 rfl fX10_286 hk (mf_f _ _ _ 22) ?_
                        refine j_iconst (n := 171) (v := nI 1) dX10_part0_170 rfl rfl ?_
                        refine j_iaddN (n := 172) (c := F 22 + 1) dX10_part0_171 rfl rfl ?_
                        refine jm_put (n := 175) (k := 22) (x := nI (F 22 + 1)) (M2 := mf M (pu F 22 (F 22 + 1)) p) dX10_part0_172 rfl pX10_286 rfl rfl hk (mf_w rfl) ?_
                        refine j_aload_n (n := 176) dX10_part0_175 rfl rfl ?_
                        refine j_cVv (n := 179) dX10_part0_176 rfl sX10_259 (c_nextToken d G M X hk (pu F 22 (F 22 + 1)) p T hT (by (repeat rw [pu_ne _ _ (by decide)]); omega) hT2 (by (repeat rw [pu_ne _ _ (by decide)]); omega) (by (repeat rw [pu_ne _ _ (by decide)]); omega)) (by omega) (by decide) rfl rfl (Nat.le_of_ble_eq_true rfl) (hk).2.1 (by decide) (kM_lt hk) (by decide) (by decide) ?_
                        refine j_aload_n (n := 180) dX10_part0_179 rfl rfl ?_
                        refine j_iload_n (n := 181) dX10_part0_180 rfl rfl ?_
                        refine j_cV (n := 184) dX10_part0_181 rfl sX10_289 (h0 (nextF T (pu F 22 (F 22 + 1))) p (false, F1, p1) c (d + 2) h hq (by unfold rmL at hr ⊢; omega)) (by omega) (by decide) rfl rfl (Nat.le_of_ble_eq_true rfl) (hk).2.1 (by decide) (kM_lt hk) (by decide) (by decide) ?_
                        refine j_top (y := nI 0) (zB_f Bool.false_ne_true) ?_
                        refine j_mem (M2 := mf M F1 p1) rfl ?_
                        refine j_if_eqN (n := 187) (tg := 196) dX10_part0_184 rfl rfl (by omega) (fun h6 => ?_) (fun h6 => ?_)
                        · refine j_iconst (n := 197) (v := nI 0) dX10_part0_196 rfl rfl ?_
                          exact j_rb dX10_part0_197 rfl rfl (Nat.le_refl _) (Nat.le_refl _) (zB_f Bool.false_ne_true).symm rfl rfl
                        · exact absurd h6 (by decide)
                      · exfalso; omega
                  · exfalso; omega
                · exfalso; omega
              · exfalso; omega
            · exact (hne _ h).elim
