-- MODEL W: by program (wip/whole/gen/b23.py)
def r_text (T F p : Nat → Nat) : Int32 := if (parseS T F p).2 = 3 then (-100) - nI ((parseS T F p).1.1 17) else if p 1 = 14 then (-1000000003) else nI (p 1)
def p_text (T F p : Nat → Nat) : Nat → Nat := if (parseS T F p).2 = 3 ∨ p 1 = 14 then (parseS T F p).1.2 else pu (pu (pu (pu (parseS T F p).1.2 (100 + 200 * p 1) (parseS T F p).2) (100 + 200 * p 1 + 1) ((parseS T F p).1.1 26)) (100 + 200 * p 1 + 2) ((parseS T F p).1.1 24)) 1 (p 1 + 1)
theorem parseS_k (T F p : Nat → Nat) : (parseS T F p).2 ≤ 3 := by
  have := keyW_le T (nextF T (psF p F))
  unfold parseS
  dsimp only
  split
  · exact Nat.le_refl _
  · split
    · dsimp only
      split <;> omega
    · exact Nat.le_refl _
    · exact Nat.le_refl _
theorem c_text (d : Nat) (G : zG) (M : zMem) (X : zX) (hk : kM X) (T : Nat → Nat) (hT : tpN M T) (hT2 : ∀ i, T i ≤ 255) (F p : Nat → Nat) (h16 : F 16 ≤ 96) (h20 : F 20 ≤ 5287680) (h21 : F 21 ≤ 255) (hp : p 1 ≤ 14) : zCall G miX10_text (d + 66) [.ref 160] (zI (r_text T F p) (mf M (parseS T F p).1.1 (p_text T F p)) X) (mf M F p) X 0 0 := by
  refine zCall.of (lv := [some (.ref 160), none, none]) (by decide) (Nat.le_of_ble_eq_true rfl) rfl ?_
  have hp1 : (parseS T F p).1.2 1 = p 1 := parseS_p (by decide)
  have hkl := parseS_k T F p
  unfold r_text p_text
  obtain ⟨G1, p1, k, hS⟩ : ∃ G1 p1 k, parseS T F p = ((G1, p1), k) := ⟨_, _, _, rfl⟩
  rw [hS] at hp1 hkl ⊢
  dsimp only at hp1 hkl ⊢
  have hc := c_parse (d := d) G M X hk T hT hT2 F p h16 h20 h21 hp
  rw [hS] at hc
  dsimp only at hc
  rw [← hp1]
  refine j_aload_n (n := 1) dX10_text_0 rfl rfl ?_
  refine j_cV (n := 4) dX10_text_1 rfl sX10_298 hc (by omega) (by decide) rfl rfl (Nat.le_of_ble_eq_true rfl) (hk).2.1 (by decide) (kM_lt hk) (by decide) (by decide) ?_
  by_cases hk3 : k = 3
  · refine j_top (y := (-1)) (by unfold keyV; rw [if_pos hk3]) ?_
    refine j_istore_n (n := 5) (lv2 := [some (.ref 160), some (.int (-1)), none]) dX10_text_4 rfl rfl (by decide) rfl ?_
    refine j_iload_n (n := 6) dX10_text_5 rfl rfl ?_
    refine j_if_geT (n := 9) (tg := 17) dX10_text_6 rfl rfl (fun h1 => ?_) (fun h1 => ?_)
    · exact absurd h1 (by decide)
    · refine j_bipush (n := 11) (v := (-100)) dX10_text_9 rfl (by decide) ?_
      refine j_aload_n (n := 12) dX10_text_11 rfl rfl ?_
      refine jm_geti (n := 15) (k := 17) (v := nI (G1 17)) dX10_text_12 rfl fX10_229 hk (mf_f _ _ _ 17) ?_
      refine j_isub (n := 16) dX10_text_15 rfl ?_
      exact j_ri dX10_text_16 rfl (Nat.le_refl _) (Nat.le_refl _) (by rw [if_pos hk3]) (by rw [if_pos (.inl hk3)]) rfl
  · refine j_top (y := nI k) (by unfold keyV; rw [if_neg hk3]) ?_
    refine j_istore_n (n := 5) (lv2 := [some (.ref 160), some (.int (nI k)), none]) dX10_text_4 rfl rfl (by decide) rfl ?_
    refine j_iload_n (n := 6) dX10_text_5 rfl rfl ?_
    refine j_if_geM (n := 9) (tg := 17) dX10_text_6 rfl rfl (by omega) (fun h2 => ?_) (fun h2 => ?_)
    · refine j_aload_n (n := 18) dX10_text_17 rfl rfl ?_
      refine jm_get (n := 21) (k := 0) (b := 161) dX10_text_18 rfl fX10_7 rfl (by decide) hk ?_
      refine j_iconst (n := 22) (v := nI 1) dX10_text_21 rfl rfl ?_
      refine jm_ald (n := 23) (L := 3100) (a := 161) (i := 1) (v := nI (p1 1)) dX10_text_22 rfl hk rfl (by omega) rfl ?_
      refine j_bipush (n := 25) (v := nI 14) dX10_text_23 rfl (by decide) ?_
      refine j_icmp_neT (n := 28) (tg := 31) dX10_text_25 rfl rfl (i_N (by omega)) (i_N (by omega)) (fun h3 => ?_) (fun h3 => ?_)
      · refine j_aload_n (n := 32) dX10_text_31 rfl rfl ?_
        refine j_aload_n (n := 33) dX10_text_32 rfl rfl ?_
        refine jm_get (n := 36) (k := 0) (b := 161) dX10_text_33 rfl fX10_7 rfl (by decide) hk ?_
        refine j_iconst (n := 37) (v := nI 1) dX10_text_36 rfl rfl ?_
        refine jm_ald (n := 38) (L := 3100) (a := 161) (i := 1) (v := nI (p1 1)) dX10_text_37 rfl hk rfl (by omega) rfl ?_
        refine j_cV (n := 41) dX10_text_38 rfl sX10_292 (c_textAt (d + 65) G _ _ (p1 1)) (by omega) (by decide) rfl rfl (Nat.le_of_ble_eq_true rfl) (hk).2.1 (by decide) (kM_lt hk) (by decide) (by decide) ?_
        refine j_istore_n (n := 42) (lv2 := [some (.ref 160), some (.int (nI k)), some (.int (nI (100 + 200 * (p1 1))))]) dX10_text_41 rfl rfl (by decide) rfl ?_
        refine j_aload_n (n := 43) dX10_text_42 rfl rfl ?_
        refine jm_get (n := 46) (k := 0) (b := 161) dX10_text_43 rfl fX10_7 rfl (by decide) hk ?_
        refine j_iload_n (n := 47) dX10_text_46 rfl rfl ?_
        refine j_iconst (n := 48) (v := nI 0) dX10_text_47 rfl rfl ?_
        refine j_iaddN (n := 49) (c := 100 + 200 * (p1 1)) dX10_text_48 rfl (by omega) ?_
        refine j_iload_n (n := 50) dX10_text_49 rfl rfl ?_
        refine jm_ast (n := 51) (L := 3100) (a := 161) (i := 100 + 200 * (p1 1)) (x := nI k) (M2 := mf M G1 (pu p1 (100 + 200 * (p1 1)) k)) dX10_text_50 rfl hk rfl (by omega) (mf_s _ _ _ _ _) ?_
        refine j_aload_n (n := 52) dX10_text_51 rfl rfl ?_
        refine jm_get (n := 55) (k := 0) (b := 161) dX10_text_52 rfl fX10_7 rfl (by decide) hk ?_
        refine j_iload_n (n := 56) dX10_text_55 rfl rfl ?_
        refine j_iconst (n := 57) (v := nI 1) dX10_text_56 rfl rfl ?_
        refine j_iaddN (n := 58) (c := 100 + 200 * (p1 1) + 1) dX10_text_57 rfl rfl ?_
        refine j_aload_n (n := 59) dX10_text_58 rfl rfl ?_
        refine jm_geti (n := 62) (k := 26) (v := nI (G1 26)) dX10_text_59 rfl fX10_277 hk (mf_f _ _ _ 26) ?_
        refine jm_ast (n := 63) (L := 3100) (a := 161) (i := 100 + 200 * (p1 1) + 1) (x := nI (G1 26)) (M2 := mf M G1 (pu (pu p1 (100 + 200 * (p1 1)) k) (100 + 200 * (p1 1) + 1) (G1 26))) dX10_text_62 rfl hk rfl (by omega) (mf_s _ _ _ _ _) ?_
        refine j_aload_n (n := 64) dX10_text_63 rfl rfl ?_
        refine jm_get (n := 67) (k := 0) (b := 161) dX10_text_64 rfl fX10_7 rfl (by decide) hk ?_
        refine j_iload_n (n := 68) dX10_text_67 rfl rfl ?_
        refine j_iconst (n := 69) (v := nI 2) dX10_text_68 rfl rfl ?_
        refine j_iaddN (n := 70) (c := 100 + 200 * (p1 1) + 2) dX10_text_69 rfl rfl ?_
        refine j_aload_n (n := 71) dX10_text_70 rfl rfl ?_
        refine jm_geti (n := 74) (k := 24) (v := nI (G1 24)) dX10_text_71 rfl fX10_250 hk (mf_f _ _ _ 24) ?_
        refine jm_ast (n := 75) (L := 3100) (a := 161) (i := 100 + 200 * (p1 1) + 2) (x := nI (G1 24)) (M2 := mf M G1 (pu (pu (pu p1 (100 + 200 * (p1 1)) k) (100 + 200 * (p1 1) + 1) (G1 26)) (100 + 200 * (p1 1) + 2) (G1 24))) dX10_text_74 rfl hk rfl (by omega) (mf_s _ _ _ _ _) ?_
        refine j_aload_n (n := 76) dX10_text_75 rfl rfl ?_
        refine jm_get (n := 79) (k := 0) (b := 161) dX10_text_76 rfl fX10_7 rfl (by decide) hk ?_
        refine j_iconst (n := 80) (v := nI 1) dX10_text_79 rfl rfl ?_
        refine j_dup2 (n := 81) dX10_text_80 rfl rfl rfl ?_
        refine jm_ald (n := 82) (L := 3100) (a := 161) (i := 1) (v := nI (p1 1)) dX10_text_81 rfl hk rfl (by omega) (congrArg nI (by repeat (first | rw [pu_eq] | rw [pu_ne _ _ (by omega)] | rw [drawZ_ne _ (by omega)]))) ?_
        refine j_iconst (n := 83) (v := nI 1) dX10_text_82 rfl rfl ?_
        refine j_iaddN (n := 84) (c := p1 1 + 1) dX10_text_83 rfl rfl ?_
        refine jm_ast (n := 85) (L := 3100) (a := 161) (i := 1) (x := nI (p1 1 + 1)) (M2 := mf M G1 (pu (pu (pu (pu p1 (100 + 200 * (p1 1)) k) (100 + 200 * (p1 1) + 1) (G1 26)) (100 + 200 * (p1 1) + 2) (G1 24)) 1 (p1 1 + 1))) dX10_text_84 rfl hk rfl (by omega) (mf_s _ _ _ _ _) ?_
        refine j_aload_n (n := 86) dX10_text_85 rfl rfl ?_
        refine jm_get (n := 89) (k := 0) (b := 161) dX10_text_86 rfl fX10_7 rfl (by decide) hk ?_
        refine j_iconst (n := 90) (v := nI 1) dX10_text_89 rfl rfl ?_
        refine jm_ald (n := 91) (L := 3100) (a := 161) (i := 1) (v := nI (p1 1 + 1)) dX10_text_90 rfl hk rfl (by omega) (congrArg nI (by repeat (first | rw [pu_eq] | rw [pu_ne _ _ (by omega)] | rw [drawZ_ne _ (by omega)]))) ?_
        refine j_iconst (n := 92) (v := nI 1) dX10_text_91 rfl rfl ?_
        refine j_isubN (n := 93) (c := p1 1) dX10_text_92 rfl (by omega) (by omega) ?_
        exact j_ri dX10_text_93 rfl (Nat.le_refl _) (Nat.le_refl _) (by rw [if_neg hk3, if_neg (by omega)]) (by rw [if_neg (by omega)]) rfl
      · refine j_ldc (n := 30) (v := -1000000003) dX10_text_28 rfl kX10_94 ?_
        exact j_ri dX10_text_30 rfl (Nat.le_refl _) (Nat.le_refl _) (by rw [if_neg hk3, if_pos (by omega)]) (by rw [if_pos (.inr (by omega))]) rfl
    · exfalso; omega
