-- MODEL L: by program (wip/whole/gen/b12.py)
def r_reads (p : Nat → Nat) (sheet srt : Int32) (len : Nat) (row : Nat → Int32) : Int32 := if ¬ (0 ≤ sheet.toInt ∧ sheet.toInt ≤ 3) then cBAD else if srt.toInt < 0 then cNOTHING else if fi (fun l => ¬ (row l).toInt = -1000000005 ∧ (p 0 ≤ l ∨ ¬ (row l).toInt = (p (10 + 5 * l + 1) : Int))) (len - 0) 0 < len then nI (fi (fun l => ¬ (row l).toInt = -1000000005 ∧ (p 0 ≤ l ∨ ¬ (row l).toInt = (p (10 + 5 * l + 1) : Int))) (len - 0) 0) else cNONE
theorem c_reads (d : Nat) (G : zG) (M : zMem) (X : zX) (hk : kM X) (p : Nat → Nat) (hs : wfS M) (hw : wfO p) (sheet : Int32) : zCall G miX10_reads (d + 2) [.ref 160, .int sheet] (zI (r_reads p sheet (M 164 (tN sheet)) (tN (M 165 (tN sheet))) (fun i => M 166 (24 * tN sheet + i))) (mm M p) X) (mm M p) X 0 0 := by
  refine zCall.of (lv := [some (.ref 160), some (.int sheet), none, none]) (by decide) (Nat.le_of_ble_eq_true rfl) rfl ?_
  have hw0 := hw.1
  refine j_iload_n (n := 1) dX10_reads_0 rfl rfl ?_
  refine j_cS (n := 4) dX10_reads_1 rfl sX10_310 (c_isSheet d G _ _ _) (by omega) (by decide) rfl rfl (Nat.le_of_ble_eq_true rfl) (by decide) (by decide) ?_
  refine j_if_neB (n := 7) (tg := 10) dX10_reads_4 rfl rfl (fun h1 => ?_) (fun h1 => ?_)
  · obtain ⟨q, hq, rfl⟩ := i_of (x := sheet) (n := 4) (by omega) (by omega)
    have eq : tN (nI q) = q := tN_nI (by omega)
    have iq : (nI q).toInt = q := i_N (by omega)
    have hq1 := hs q hq
    refine j_aload_n (n := 11) dX10_reads_10 rfl rfl ?_
    refine jm_get (n := 14) (k := 4) (b := 164) dX10_reads_11 rfl fX10_19 rfl (by decide) hk ?_
    refine j_iload_n (n := 15) dX10_reads_14 rfl rfl ?_
    refine jm_ald (n := 16) (L := 4) (a := 164) (i := q) (v := M 164 q) dX10_reads_15 rfl hk rfl (by omega) rfl ?_
    refine j_if_geT (n := 19) (tg := 23) dX10_reads_16 rfl rfl (fun h2 => ?_) (fun h2 => ?_)
    · refine j_iconst (n := 24) (v := nI 0) dX10_reads_23 rfl rfl ?_
      refine j_istore_n (n := 25) (lv2 := [some (.ref 160), some (.int (nI q)), some (.int (nI 0)), none]) dX10_reads_24 rfl rfl (by decide) rfl ?_
      have loop : ∀ (j l : Nat), tN (M 165 q) - l = j → l ≤ tN (M 165 q) → fi (fun l => ¬ (M 166 (24 * q + l)).toInt = -1000000005 ∧ (p 0 ≤ l ∨ ¬ (M 166 (24 * q + l)).toInt = (p (10 + 5 * l + 1) : Int))) (tN (M 165 q) - 0) 0 = fi (fun l => ¬ (M 166 (24 * q + l)).toInt = -1000000005 ∧ (p 0 ≤ l ∨ ¬ (M 166 (24 * q + l)).toInt = (p (10 + 5 * l + 1) : Int))) (tN (M 165 q) - l) l → zAt G miX10_reads (zRm (d + 2) 0 0) (zQ G (zI (r_reads p (nI q) (M 164 (tN (nI q))) (tN (M 165 (tN (nI q)))) (fun i => M 166 (24 * tN (nI q) + i))) (mm M p) X) 0 0) 25 [some (.ref 160), some (.int (nI q)), some (.int (nI l)), none] [] (mm M p) X (0, 0) := by
        intro j
        induction j using Nat.strongRecOn with
        | ind j ih =>
          intro l hj hl0 hF
          refine j_iload_n (n := 26) dX10_reads_25 rfl rfl ?_
          refine j_aload_n (n := 27) dX10_reads_26 rfl rfl ?_
          refine jm_get (n := 30) (k := 5) (b := 165) dX10_reads_27 rfl fX10_22 rfl (by decide) hk ?_
          refine j_iload_n (n := 31) dX10_reads_30 rfl rfl ?_
          refine jm_ald (n := 32) (L := 4) (a := 165) (i := q) (v := nI (tN (M 165 q))) dX10_reads_31 rfl hk rfl (by omega) (nI_tN (M 165 q)).symm ?_
          refine j_icmp_geT (n := 35) (tg := 81) dX10_reads_32 rfl rfl (i_N (by omega)) (i_N (by omega)) (fun h3 => ?_) (fun h3 => ?_)
          · refine j_ldc (n := 83) (v := -1000000005) dX10_reads_81 rfl kX10_70 ?_
            exact j_ri dX10_reads_83 rfl (Nat.le_refl _) (Nat.le_refl _) (by unfold r_reads; rw [eq, if_neg (by omega), if_neg (by omega)]; have hF2 := hF.trans (fi_n (by omega)); rw [hF2, if_neg (by omega)]) rfl rfl
          · refine j_aload_n (n := 36) dX10_reads_35 rfl rfl ?_
            refine jm_get (n := 39) (k := 6) (b := 166) dX10_reads_36 rfl fX10_25 rfl (by decide) hk ?_
            refine j_bipush (n := 41) (v := nI 24) dX10_reads_39 rfl (by decide) ?_
            refine j_iload_n (n := 42) dX10_reads_41 rfl rfl ?_
            refine j_imulN (n := 43) (c := 24 * q) dX10_reads_42 rfl rfl ?_
            refine j_iload_n (n := 44) dX10_reads_43 rfl rfl ?_
            refine j_iaddN (n := 45) (c := 24 * q + l) dX10_reads_44 rfl rfl ?_
            refine jm_ald (n := 46) (L := 96) (a := 166) (i := 24 * q + l) (v := M 166 (24 * q + l)) dX10_reads_45 rfl hk rfl (by omega) rfl ?_
            refine j_istore_n (n := 47) (lv2 := [some (.ref 160), some (.int (nI q)), some (.int (nI l)), some (.int (M 166 (24 * q + l)))]) dX10_reads_46 rfl rfl (by decide) rfl ?_
            refine j_iload_n (n := 48) dX10_reads_47 rfl rfl ?_
            refine j_ldc (n := 50) (v := -1000000005) dX10_reads_48 rfl kX10_70 ?_
            refine j_icmp_eqT (n := 53) (tg := 75) dX10_reads_50 rfl rfl rfl (show Int32.toInt (-1000000005) = (-1000000005 : Int) from by decide) (fun h4 => ?_) (fun h4 => ?_)
            · refine j_iinc (n := 78) (y := nI (l + 1)) (lv2 := [some (.ref 160), some (.int (nI q)), some (.int (nI (l + 1))), some (.int (M 166 (24 * q + l)))]) dX10_reads_75 rfl rfl (by decide) rfl (show nI l + nI 1 = nI (l + 1) by rw [nI_add]) rfl ?_
              refine j_goto (n := 25) dX10_reads_78 rfl ?_
              refine j_wk (lv2 := [some (.ref 160), some (.int (nI q)), some (.int (nI (l + 1))), none]) ⟨rfl, rfl, rfl, trivial⟩ ?_
              exact ih _ (by omega) (l + 1) rfl (by omega) (hF.trans (fi_s (by omega) (by omega)))
            · refine j_iload_n (n := 54) dX10_reads_53 rfl rfl ?_
              refine j_aload_n (n := 55) dX10_reads_54 rfl rfl ?_
              refine jm_get (n := 58) (k := 0) (b := 161) dX10_reads_55 rfl fX10_7 rfl (by decide) hk ?_
              refine j_iconst (n := 59) (v := nI 0) dX10_reads_58 rfl rfl ?_
              refine jm_ald (n := 60) (L := 3100) (a := 161) (i := 0) (v := nI (p 0)) dX10_reads_59 rfl hk rfl (by omega) rfl ?_
              refine j_icmp_geT (n := 63) (tg := 73) dX10_reads_60 rfl rfl (i_N (by omega)) (i_N (by omega)) (fun h5 => ?_) (fun h5 => ?_)
              · refine j_iload_n (n := 74) dX10_reads_73 rfl rfl ?_
                exact j_ri dX10_reads_74 rfl (Nat.le_refl _) (Nat.le_refl _) (by unfold r_reads; rw [eq, if_neg (by omega), if_neg (by omega)]; have hF2 := hF.trans (fi_t (by omega) (by omega)); rw [hF2, if_pos (by omega)]) rfl rfl
              · have ho := hw.2 l (by omega)
                refine j_iload_n (n := 64) dX10_reads_63 rfl rfl ?_
                refine j_aload_n (n := 65) dX10_reads_64 rfl rfl ?_
                refine j_iload_n (n := 66) dX10_reads_65 rfl rfl ?_
                refine j_iconst (n := 67) (v := nI 1) dX10_reads_66 rfl rfl ?_
                refine j_cV (n := 70) dX10_reads_67 rfl sX10_114 (c_of (d + 1) G _ _ hk _ l 1 (by omega)) (by omega) (by decide) rfl rfl (Nat.le_of_ble_eq_true rfl) (hk).2.1 (by decide) (kM_lt hk) (by decide) (by decide) ?_
                refine j_icmp_eqT (n := 73) (tg := 75) dX10_reads_70 rfl rfl rfl (i_N (by omega)) (fun h6 => ?_) (fun h6 => ?_)
                · refine j_iinc (n := 78) (y := nI (l + 1)) (lv2 := [some (.ref 160), some (.int (nI q)), some (.int (nI (l + 1))), some (.int (M 166 (24 * q + l)))]) dX10_reads_75 rfl rfl (by decide) rfl (show nI l + nI 1 = nI (l + 1) by rw [nI_add]) rfl ?_
                  refine j_goto (n := 25) dX10_reads_78 rfl ?_
                  refine j_wk (lv2 := [some (.ref 160), some (.int (nI q)), some (.int (nI (l + 1))), none]) ⟨rfl, rfl, rfl, trivial⟩ ?_
                  exact ih _ (by omega) (l + 1) rfl (by omega) (hF.trans (fi_s (by omega) (by omega)))
                · refine j_iload_n (n := 74) dX10_reads_73 rfl rfl ?_
                  exact j_ri dX10_reads_74 rfl (Nat.le_refl _) (Nat.le_refl _) (by unfold r_reads; rw [eq, if_neg (by omega), if_neg (by omega)]; have hF2 := hF.trans (fi_t (by omega) (by omega)); rw [hF2, if_pos (by omega)]) rfl rfl
      exact loop _ 0 rfl (Nat.zero_le _) rfl
    · refine j_ldcw (n := 22) (v := -1000000011) dX10_reads_19 rfl kX10_316 ?_
      exact j_ri dX10_reads_22 rfl (Nat.le_refl _) (Nat.le_refl _) (by unfold r_reads; first | (rw [if_pos (by omega)]; done) | (rw [eq, if_neg (by omega), if_pos (by omega)])) rfl rfl
  · refine j_ldc (n := 9) (v := -1000000001) dX10_reads_7 rfl kX10_93 ?_
    exact j_ri dX10_reads_9 rfl (Nat.le_refl _) (Nat.le_refl _) (by unfold r_reads; first | (rw [if_pos (by omega)]; done) | (rw [eq, if_neg (by omega), if_pos (by omega)])) rfl rfl
def cpF (f g : Nat → Int32) (k : Nat) : Nat → Int32 := fun i => if i < k then f i else g i
theorem cpF_0 (f g : Nat → Int32) : cpF f g 0 = g := by
  funext i
  simp [cpF]
theorem cpF_s (f g : Nat → Int32) (k : Nat) : upd (cpF f g k) k (f k) = cpF f g (k + 1) := by
  funext i
  unfold upd cpF
  by_cases h : i = k
  · rw [if_pos h, if_pos (by omega), h]
  · rw [if_neg h]
    by_cases h2 : i < k
    · rw [if_pos h2, if_pos (by omega)]
    · rw [if_neg h2, if_neg (by omega)]
theorem c_setAside (d : Nat) (G : zG) (M : zMem) (X : zX) (hk : kM X) (a b : Nat) (ha : mA a = 3100) (hb : mA b = 3100) (hab : a ≠ b) : zCall G miX10_setAside (d + 0) [.ref 160, .ref a, .ref b] (zV (zs M b (cpF (M a) (M b) 2900)) X) M X 0 0 := by
  refine zCall.of (lv := [some (.ref 160), some (.ref a), some (.ref b), none]) (by decide) (Nat.le_of_ble_eq_true rfl) rfl ?_
  refine j_mem (M2 := zs M b (cpF (M a) (M b) 0)) (by rw [cpF_0, zs_id]) ?_
  refine j_iconst (n := 1) (v := nI 0) dX10_setAside_0 rfl rfl ?_
  refine j_istore_n (n := 2) (lv2 := [some (.ref 160), some (.ref a), some (.ref b), some (.int (nI 0))]) dX10_setAside_1 rfl rfl (by decide) rfl ?_
  have loop : ∀ (j k : Nat), 2900 - k = j → k ≤ 2900 → zAt G miX10_setAside (zRm (d + 0) 0 0) (zQ G (zV (zs M b (cpF (M a) (M b) 2900)) X) 0 0) 2 [some (.ref 160), some (.ref a), some (.ref b), some (.int (nI k))] [] (zs M b (cpF (M a) (M b) k)) X (0, 0) := by
    intro j
    induction j using Nat.strongRecOn with
    | ind j ih =>
      intro k hj hk0
      refine j_iload_n (n := 3) dX10_setAside_2 rfl rfl ?_
      refine j_sipush (n := 6) (v := nI 2900) dX10_setAside_3 rfl (by decide) ?_
      refine j_icmp_geT (n := 9) (tg := 21) dX10_setAside_6 rfl rfl (i_N (by omega)) (i_N (by omega)) (fun h1 => ?_) (fun h1 => ?_)
      · exact j_rv dX10_setAside_21 rfl (Nat.le_refl _) (Nat.le_refl _) (by rw [show k = 2900 by omega]) rfl
      · refine j_aload_n (n := 10) dX10_setAside_9 rfl rfl ?_
        refine j_iload_n (n := 11) dX10_setAside_10 rfl rfl ?_
        refine j_aload_n (n := 12) dX10_setAside_11 rfl rfl ?_
        refine j_iload_n (n := 13) dX10_setAside_12 rfl rfl ?_
        refine jm_ald (n := 14) (L := 3100) (a := a) (i := k) (v := M a k) dX10_setAside_13 rfl hk ha (by omega) (congrFun (zs_ne _ _ hab) k) ?_
        refine jm_ast (n := 15) (L := 3100) (a := b) (i := k) (x := M a k) (M2 := zs M b (cpF (M a) (M b) (k + 1))) dX10_setAside_14 rfl hk hb (by omega) (by rw [zs_eq, zs_zs, cpF_s]) ?_
        refine j_iinc (n := 18) (y := nI (k + 1)) (lv2 := [some (.ref 160), some (.ref a), some (.ref b), some (.int (nI (k + 1)))]) dX10_setAside_15 rfl rfl (by decide) rfl (show nI k + nI 1 = nI (k + 1) by rw [nI_add]) rfl ?_
        refine j_goto (n := 2) dX10_setAside_18 rfl ?_
        exact ih _ (by omega) (k + 1) rfl (by omega)
  exact loop _ 0 rfl (Nat.zero_le _)
/-- the image, as a row of numbers -/
def imP (M : zMem) : Nat → Nat := fun i => tN (M 162 i)
def m_keep (M : zMem) (p : Nat → Nat) : zMem := zs (zs M 160 (upd (M 160) 3 (nI 1))) 162 (cpF (nIf p) (M 162) 2900)
theorem set_si (M : zMem) (p : Nat → Nat) {b : Nat} (hb : b ≠ 161) : zs (mm M p) b (cpF ((mm M p) 161) ((mm M p) b) 2900) = mm (zs M b (cpF (nIf p) (M b) 2900)) p := by
  rw [mm_ne M p hb, show mm M p 161 = nIf p from zs_eq _ _ _]
  unfold mm
  rw [zs_comm _ _ _ (Ne.symm hb)]
theorem set_is (M : zMem) (p : Nat → Nat) {a : Nat} (ha : a ≠ 161) : zs (mm M p) 161 (cpF ((mm M p) a) ((mm M p) 161) 2900) = mm M (bkP (fun i => tN (M a i)) p 2900) := by
  rw [mm_ne M p ha, show mm M p 161 = nIf p from zs_eq _ _ _]
  unfold mm
  rw [zs_zs]
  congr 1
  funext i
  unfold cpF nIf bkP
  split
  · exact (nI_tN _).symm
  · rfl
theorem c_keep (d : Nat) (G : zG) (M : zMem) (X : zX) (hk : kM X) (p : Nat → Nat) : zCall G miX10_keep (d + 1) [.ref 160] (zI (nI (p 0)) (mm (m_keep M p) p) X) (mm M p) X 0 0 := by
  refine zCall.of (lv := [some (.ref 160)]) (by decide) (Nat.le_of_ble_eq_true rfl) rfl ?_
  refine j_aload_n (n := 1) dX10_keep_0 rfl rfl ?_
  refine j_iconst (n := 2) (v := nI 1) dX10_keep_1 rfl rfl ?_
  refine jm_put (n := 5) (k := 3) (x := nI 1) (M2 := mm (zs M 160 (upd (M 160) 3 (nI 1))) p) dX10_keep_2 rfl pX10_333 rfl rfl hk (mm_wo (by decide) rfl) ?_
  refine j_aload_n (n := 6) dX10_keep_5 rfl rfl ?_
  refine j_aload_n (n := 7) dX10_keep_6 rfl rfl ?_
  refine jm_get (n := 10) (k := 0) (b := 161) dX10_keep_7 rfl fX10_7 rfl (by decide) hk ?_
  refine j_aload_n (n := 11) dX10_keep_10 rfl rfl ?_
  refine jm_get (n := 14) (k := 1) (b := 162) dX10_keep_11 rfl fX10_13 rfl (by decide) hk ?_
  refine j_cVv (n := 17) dX10_keep_14 rfl sX10_337 (c_setAside d G _ _ hk 161 162 rfl rfl (by decide)) (by omega) (by decide) rfl rfl (Nat.le_of_ble_eq_true rfl) (hk).2.1 (by decide) (kM_lt hk) (by decide) (by decide) ?_
  refine j_mem (M2 := mm (zs (zs M 160 (upd (M 160) 3 (nI 1))) 162 (cpF (nIf p) (M 162) 2900)) p) ((set_si _ _ (by decide)).trans (congrArg (fun z => mm (zs _ _ (cpF _ z 2900)) _) (by simp [zs]))) ?_
  refine j_aload_n (n := 18) dX10_keep_17 rfl rfl ?_
  refine jm_get (n := 21) (k := 0) (b := 161) dX10_keep_18 rfl fX10_7 rfl (by decide) hk ?_
  refine j_iconst (n := 22) (v := nI 0) dX10_keep_21 rfl rfl ?_
  refine jm_ald (n := 23) (L := 3100) (a := 161) (i := 0) (v := nI (p 0)) dX10_keep_22 rfl hk rfl (by omega) rfl ?_
  exact j_ri dX10_keep_23 rfl (Nat.le_refl _) (Nat.le_refl _) rfl rfl rfl
def r_back (M : zMem) : Int32 := if (M 160 3).toInt = 0 then cNO else M 162 0
def q_back (M : zMem) (p : Nat → Nat) : Nat → Nat := if (M 160 3).toInt = 0 then p else bkP (imP M) p 2900
theorem c_back (d : Nat) (G : zG) (M : zMem) (X : zX) (hk : kM X) (p : Nat → Nat) : zCall G miX10_back (d + 1) [.ref 160] (zI (r_back M) (mm M (q_back M p)) X) (mm M p) X 0 0 := by
  refine zCall.of (lv := [some (.ref 160)]) (by decide) (Nat.le_of_ble_eq_true rfl) rfl ?_
  refine j_aload_n (n := 1) dX10_back_0 rfl rfl ?_
  refine jm_geti (n := 4) (k := 3) (v := M 160 3) dX10_back_1 rfl fX10_333 hk rfl ?_
  refine j_if_neT (n := 7) (tg := 10) dX10_back_4 rfl rfl (fun h1 => ?_) (fun h1 => ?_)
  · refine j_aload_n (n := 11) dX10_back_10 rfl rfl ?_
    refine j_aload_n (n := 12) dX10_back_11 rfl rfl ?_
    refine jm_get (n := 15) (k := 1) (b := 162) dX10_back_12 rfl fX10_13 rfl (by decide) hk ?_
    refine j_aload_n (n := 16) dX10_back_15 rfl rfl ?_
    refine jm_get (n := 19) (k := 0) (b := 161) dX10_back_16 rfl fX10_7 rfl (by decide) hk ?_
    refine j_cVv (n := 22) dX10_back_19 rfl sX10_337 (c_setAside d G _ _ hk 162 161 rfl rfl (by decide)) (by omega) (by decide) rfl rfl (Nat.le_of_ble_eq_true rfl) (hk).2.1 (by decide) (kM_lt hk) (by decide) (by decide) ?_
    refine j_mem (M2 := mm M (bkP (fun i => tN (M 162 i)) p 2900)) (set_is _ _ (by decide)) ?_
    refine j_aload_n (n := 23) dX10_back_22 rfl rfl ?_
    refine jm_get (n := 26) (k := 0) (b := 161) dX10_back_23 rfl fX10_7 rfl (by decide) hk ?_
    refine j_iconst (n := 27) (v := nI 0) dX10_back_26 rfl rfl ?_
    refine jm_ald (n := 28) (L := 3100) (a := 161) (i := 0) (v := M 162 0) dX10_back_27 rfl hk rfl (by omega) (show nI (bkP (fun i => tN (M 162 i)) p 2900 0) = M 162 0 from (by unfold bkP; rw [if_pos (by decide), nI_tN])) ?_
    exact j_ri dX10_back_28 rfl (Nat.le_refl _) (Nat.le_refl _) (by unfold r_back; first | rw [if_pos (by assumption)] | rw [if_neg (by assumption)]) (by unfold q_back; first | rw [if_pos (by assumption)] | (rw [if_neg (by assumption)]; rfl)) rfl
  · refine j_ldc (n := 9) (v := -1000000002) dX10_back_7 rfl kX10_158 ?_
    exact j_ri dX10_back_9 rfl (Nat.le_refl _) (Nat.le_refl _) (by unfold r_back; first | rw [if_pos (by assumption)] | rw [if_neg (by assumption)]) (by unfold q_back; first | rw [if_pos (by assumption)] | (rw [if_neg (by assumption)]; rfl)) rfl
