-- MODEL K: by program (wip/whole/gen/b11.py)
/-- f, but 0 at k places from a on -/
def zf (f : Nat → Int32) (a k : Nat) : Nat → Int32 := fun i => if a ≤ i ∧ i < a + k then nI 0 else f i
theorem zf_0 (f : Nat → Int32) (a : Nat) : zf f a 0 = f := by
  funext i
  unfold zf
  rw [if_neg (by omega)]
theorem zf_s (f : Nat → Int32) (a k : Nat) : upd (zf f a k) (a + k) (nI 0) = zf f a (k + 1) := by
  funext i
  unfold upd zf
  by_cases h : i = a + k
  · rw [if_pos h, if_pos (by omega)]
  · rw [if_neg h]
    by_cases h2 : a ≤ i ∧ i < a + k
    · rw [if_pos h2, if_pos (by omega)]
    · rw [if_neg h2, if_neg (by omega)]
def r_sheet (sheet sort n : Int32) : Int32 := if ¬ ((0 ≤ sheet.toInt ∧ sheet.toInt ≤ 3) ∧ (-1 ≤ sort.toInt ∧ sort.toInt ≤ 1) ∧ (0 ≤ sort.toInt → n.toInt ≤ 24)) then cBAD else if 0 ≤ sort.toInt ∧ n.toInt < 0 then cSIZE else if sort.toInt < 0 then nI 0 else n
def m_sheet (M : zMem) (sheet sort n : Int32) : zMem := if ¬ ((0 ≤ sheet.toInt ∧ sheet.toInt ≤ 3) ∧ (-1 ≤ sort.toInt ∧ sort.toInt ≤ 1) ∧ (0 ≤ sort.toInt → n.toInt ≤ 24)) then M else if 0 ≤ sort.toInt ∧ n.toInt < 0 then M else zs (zs (zs M 164 (upd (M 164) (tN sheet) sort)) 165 (upd (M 165) (tN sheet) (if sort.toInt < 0 then nI 0 else n))) 166 (zf (M 166) (24 * tN sheet) 24)
theorem c_sheet (d : Nat) (G : zG) (M : zMem) (X : zX) (hk : kM X) (p : Nat → Nat) (sheet sort n : Int32) : zCall G miX10_sheet (d + 2) [.ref 160, .int sheet, .int sort, .int n] (zI (r_sheet sheet sort n) (mm (m_sheet M sheet sort n) p) X) (mm M p) X 0 0 := by
  refine zCall.of (lv := [some (.ref 160), some (.int sheet), some (.int sort), some (.int n), none]) (by decide) (Nat.le_of_ble_eq_true rfl) rfl ?_
  refine j_iload_n (n := 1) dX10_sheet_0 rfl rfl ?_
  refine j_cS (n := 4) dX10_sheet_1 rfl sX10_310 (c_isSheet d G _ _ _) (by omega) (by decide) rfl rfl (Nat.le_of_ble_eq_true rfl) (by decide) (by decide) ?_
  refine j_if_eqB (n := 7) (tg := 29) dX10_sheet_4 rfl rfl (fun h1 => ?_) (fun h1 => ?_)
  · refine j_ldc (n := 31) (v := -1000000001) dX10_sheet_29 rfl kX10_93 ?_
    exact j_ri dX10_sheet_31 rfl (Nat.le_refl _) (Nat.le_refl _) (by first | (exfalso; omega) | (unfold r_sheet; repeat (first | rw [if_pos (by omega)] | rw [if_neg (by omega)]))) (by first | (exfalso; omega) | (unfold m_sheet; repeat (first | rw [if_pos (by omega)] | rw [if_neg (by omega)]))) rfl
  · refine j_iload_n (n := 8) dX10_sheet_7 rfl rfl ?_
    refine j_i2l (n := 9) dX10_sheet_8 rfl ?_
    refine j_ldc2 (n := 12) (v := (-1)) dX10_sheet_9 rfl kX10_313 ?_
    refine j_lconst (n := 13) (v := lN 1) dX10_sheet_12 rfl rfl ?_
    refine j_cS (n := 16) dX10_sheet_13 rfl sX10_71 (c_isInI (x := sort.toInt) (a := -1) (b := 1) (d + 1) G _ _ _ _ _ (l_toInt _) rfl rfl) (by omega) (by decide) rfl rfl (Nat.le_of_ble_eq_true rfl) (by decide) (by decide) ?_
    refine j_if_eqB (n := 19) (tg := 29) dX10_sheet_16 rfl rfl (fun h2 => ?_) (fun h2 => ?_)
    · refine j_ldc (n := 31) (v := -1000000001) dX10_sheet_29 rfl kX10_93 ?_
      exact j_ri dX10_sheet_31 rfl (Nat.le_refl _) (Nat.le_refl _) (by first | (exfalso; omega) | (unfold r_sheet; repeat (first | rw [if_pos (by omega)] | rw [if_neg (by omega)]))) (by first | (exfalso; omega) | (unfold m_sheet; repeat (first | rw [if_pos (by omega)] | rw [if_neg (by omega)]))) rfl
    · refine j_iload_n (n := 20) dX10_sheet_19 rfl rfl ?_
      refine j_if_ltT (n := 23) (tg := 32) dX10_sheet_20 rfl rfl (fun h3 => ?_) (fun h3 => ?_)
      · refine j_iload_n (n := 33) dX10_sheet_32 rfl rfl ?_
        refine j_if_ltT (n := 36) (tg := 44) dX10_sheet_33 rfl rfl (fun h4 => ?_) (fun h4 => ?_)
        · obtain ⟨q, hq, rfl⟩ := i_of (x := sheet) (n := 4) (by omega) (by omega)
          have eq : tN (nI q) = q := tN_nI (by omega)
          have iq : (nI q).toInt = q := i_N (by omega)
          refine j_aload_n (n := 45) dX10_sheet_44 rfl rfl ?_
          refine jm_get (n := 48) (k := 4) (b := 164) dX10_sheet_45 rfl fX10_19 rfl (by decide) hk ?_
          refine j_iload_n (n := 49) dX10_sheet_48 rfl rfl ?_
          refine j_iload_n (n := 50) dX10_sheet_49 rfl rfl ?_
          refine jm_ast (n := 51) (L := 4) (a := 164) (i := q) (x := sort) (M2 := mm (zs M 164 (upd (M 164) q sort)) p) dX10_sheet_50 rfl hk rfl (by omega) (mm_wo (by decide) rfl) ?_
          refine j_aload_n (n := 52) dX10_sheet_51 rfl rfl ?_
          refine jm_get (n := 55) (k := 5) (b := 165) dX10_sheet_52 rfl fX10_22 rfl (by decide) hk ?_
          refine j_iload_n (n := 56) dX10_sheet_55 rfl rfl ?_
          refine j_iload_n (n := 57) dX10_sheet_56 rfl rfl ?_
          refine j_if_geT (n := 60) (tg := 64) dX10_sheet_57 rfl rfl (fun h5 => ?_) (fun h5 => ?_)
          · refine j_iload_n (n := 65) dX10_sheet_64 rfl rfl ?_
            refine jm_ast (n := 66) (L := 4) (a := 165) (i := q) (x := n) (M2 := mm (zs (zs M 164 (upd (M 164) q sort)) 165 (upd (M 165) q n)) p) dX10_sheet_65 rfl hk rfl (by omega) (mm_wo (by decide) (congrArg (fun f => zs _ _ (upd f _ _)) (show _ = _ from by simp [zs]))) ?_
            refine j_iconst (n := 67) (v := nI 0) dX10_sheet_66 rfl rfl ?_
            refine j_istore (n := 69) (lv2 := [some (.ref 160), some (.int (nI q)), some (.int sort), some (.int n), some (.int (nI 0))]) dX10_sheet_67 rfl rfl (by decide) rfl ?_
            have loop : ∀ (j k : Nat), 24 - k = j → k ≤ 24 → zAt G miX10_sheet (zRm (d + 2) 0 0) (zQ G (zI (r_sheet (nI q) sort n) (mm (m_sheet M (nI q) sort n) p) X) 0 0) 69 [some (.ref 160), some (.int (nI q)), some (.int sort), some (.int n), some (.int (nI k))] [] (mm (zs (zs (zs M 164 (upd (M 164) q sort)) 165 (upd (M 165) q n)) 166 (zf (M 166) (24 * q) k)) p) X (0, 0) := by
              intro j
              induction j using Nat.strongRecOn with
              | ind j ih =>
                intro k hj hk0
                refine j_iload (n := 71) dX10_sheet_69 rfl rfl ?_
                refine j_bipush (n := 73) (v := nI 24) dX10_sheet_71 rfl (by decide) ?_
                refine j_icmp_geT (n := 76) (tg := 95) dX10_sheet_73 rfl rfl (i_N (by omega)) (i_N (by omega)) (fun h6 => ?_) (fun h6 => ?_)
                · refine j_aload_n (n := 96) dX10_sheet_95 rfl rfl ?_
                  refine jm_get (n := 99) (k := 5) (b := 165) dX10_sheet_96 rfl fX10_22 rfl (by decide) hk ?_
                  refine j_iload_n (n := 100) dX10_sheet_99 rfl rfl ?_
                  refine jm_ald (n := 101) (L := 4) (a := 165) (i := q) (v := n) dX10_sheet_100 rfl hk rfl (by omega) (by simp [mm, zs, upd]) ?_
                  exact j_ri dX10_sheet_101 rfl (Nat.le_refl _) (Nat.le_refl _) (by first | (exfalso; omega) | (unfold r_sheet; repeat (first | rw [if_pos (by omega)] | rw [if_neg (by omega)]))) (by first | (exfalso; omega) | (unfold m_sheet; rw [eq, show k = 24 by omega]; repeat (first | rw [if_pos (by omega)] | rw [if_neg (by omega)]))) rfl
                · refine j_aload_n (n := 77) dX10_sheet_76 rfl rfl ?_
                  refine jm_get (n := 80) (k := 6) (b := 166) dX10_sheet_77 rfl fX10_25 rfl (by decide) hk ?_
                  refine j_bipush (n := 82) (v := nI 24) dX10_sheet_80 rfl (by decide) ?_
                  refine j_iload_n (n := 83) dX10_sheet_82 rfl rfl ?_
                  refine j_imulN (n := 84) (c := 24 * q) dX10_sheet_83 rfl rfl ?_
                  refine j_iload (n := 86) dX10_sheet_84 rfl rfl ?_
                  refine j_iaddN (n := 87) (c := 24 * q + k) dX10_sheet_86 rfl rfl ?_
                  refine j_iconst (n := 88) (v := nI 0) dX10_sheet_87 rfl rfl ?_
                  refine jm_ast (n := 89) (L := 96) (a := 166) (i := 24 * q + k) (x := nI 0) (M2 := mm (zs (zs (zs M 164 (upd (M 164) q sort)) 165 (upd (M 165) q n)) 166 (zf (M 166) (24 * q) (k + 1))) p) dX10_sheet_88 rfl hk rfl (by omega) (mm_wo (by decide) (by rw [zs_eq, zs_zs, zf_s])) ?_
                  refine j_iinc (n := 92) (y := nI (k + 1)) (lv2 := [some (.ref 160), some (.int (nI q)), some (.int sort), some (.int n), some (.int (nI (k + 1)))]) dX10_sheet_89 rfl rfl (by decide) rfl (show nI k + nI 1 = nI (k + 1) by rw [nI_add]) rfl ?_
                  refine j_goto (n := 69) dX10_sheet_92 rfl ?_
                  exact ih _ (by omega) (k + 1) rfl (by omega)
            refine j_mem (M2 := mm (zs (zs (zs M 164 (upd (M 164) q sort)) 165 (upd (M 165) q n)) 166 (zf (M 166) (24 * q) 0)) p) (congrArg (fun z => mm z p) (by rw [zf_0]; exact (zs_id _ 166).symm.trans (congrArg (zs _ 166) (by simp [zs])))) ?_
            exact loop _ 0 rfl (Nat.zero_le _)
          · refine j_iconst (n := 61) (v := nI 0) dX10_sheet_60 rfl rfl ?_
            refine j_goto (n := 65) dX10_sheet_61 rfl ?_
            refine jm_ast (n := 66) (L := 4) (a := 165) (i := q) (x := nI 0) (M2 := mm (zs (zs M 164 (upd (M 164) q sort)) 165 (upd (M 165) q (nI 0))) p) dX10_sheet_65 rfl hk rfl (by omega) (mm_wo (by decide) (congrArg (fun f => zs _ _ (upd f _ _)) (show _ = _ from by simp [zs]))) ?_
            refine j_iconst (n := 67) (v := nI 0) dX10_sheet_66 rfl rfl ?_
            refine j_istore (n := 69) (lv2 := [some (.ref 160), some (.int (nI q)), some (.int sort), some (.int n), some (.int (nI 0))]) dX10_sheet_67 rfl rfl (by decide) rfl ?_
            have loop : ∀ (j k : Nat), 24 - k = j → k ≤ 24 → zAt G miX10_sheet (zRm (d + 2) 0 0) (zQ G (zI (r_sheet (nI q) sort n) (mm (m_sheet M (nI q) sort n) p) X) 0 0) 69 [some (.ref 160), some (.int (nI q)), some (.int sort), some (.int n), some (.int (nI k))] [] (mm (zs (zs (zs M 164 (upd (M 164) q sort)) 165 (upd (M 165) q (nI 0))) 166 (zf (M 166) (24 * q) k)) p) X (0, 0) := by
              intro j
              induction j using Nat.strongRecOn with
              | ind j ih =>
                intro k hj hk0
                refine j_iload (n := 71) dX10_sheet_69 rfl rfl ?_
                refine j_bipush (n := 73) (v := nI 24) dX10_sheet_71 rfl (by decide) ?_
                refine j_icmp_geT (n := 76) (tg := 95) dX10_sheet_73 rfl rfl (i_N (by omega)) (i_N (by omega)) (fun h7 => ?_) (fun h7 => ?_)
                · refine j_aload_n (n := 96) dX10_sheet_95 rfl rfl ?_
                  refine jm_get (n := 99) (k := 5) (b := 165) dX10_sheet_96 rfl fX10_22 rfl (by decide) hk ?_
                  refine j_iload_n (n := 100) dX10_sheet_99 rfl rfl ?_
                  refine jm_ald (n := 101) (L := 4) (a := 165) (i := q) (v := nI 0) dX10_sheet_100 rfl hk rfl (by omega) (by simp [mm, zs, upd]) ?_
                  exact j_ri dX10_sheet_101 rfl (Nat.le_refl _) (Nat.le_refl _) (by first | (exfalso; omega) | (unfold r_sheet; repeat (first | rw [if_pos (by omega)] | rw [if_neg (by omega)]))) (by first | (exfalso; omega) | (unfold m_sheet; rw [eq, show k = 24 by omega]; repeat (first | rw [if_pos (by omega)] | rw [if_neg (by omega)]))) rfl
                · refine j_aload_n (n := 77) dX10_sheet_76 rfl rfl ?_
                  refine jm_get (n := 80) (k := 6) (b := 166) dX10_sheet_77 rfl fX10_25 rfl (by decide) hk ?_
                  refine j_bipush (n := 82) (v := nI 24) dX10_sheet_80 rfl (by decide) ?_
                  refine j_iload_n (n := 83) dX10_sheet_82 rfl rfl ?_
                  refine j_imulN (n := 84) (c := 24 * q) dX10_sheet_83 rfl rfl ?_
                  refine j_iload (n := 86) dX10_sheet_84 rfl rfl ?_
                  refine j_iaddN (n := 87) (c := 24 * q + k) dX10_sheet_86 rfl rfl ?_
                  refine j_iconst (n := 88) (v := nI 0) dX10_sheet_87 rfl rfl ?_
                  refine jm_ast (n := 89) (L := 96) (a := 166) (i := 24 * q + k) (x := nI 0) (M2 := mm (zs (zs (zs M 164 (upd (M 164) q sort)) 165 (upd (M 165) q (nI 0))) 166 (zf (M 166) (24 * q) (k + 1))) p) dX10_sheet_88 rfl hk rfl (by omega) (mm_wo (by decide) (by rw [zs_eq, zs_zs, zf_s])) ?_
                  refine j_iinc (n := 92) (y := nI (k + 1)) (lv2 := [some (.ref 160), some (.int (nI q)), some (.int sort), some (.int n), some (.int (nI (k + 1)))]) dX10_sheet_89 rfl rfl (by decide) rfl (show nI k + nI 1 = nI (k + 1) by rw [nI_add]) rfl ?_
                  refine j_goto (n := 69) dX10_sheet_92 rfl ?_
                  exact ih _ (by omega) (k + 1) rfl (by omega)
            refine j_mem (M2 := mm (zs (zs (zs M 164 (upd (M 164) q sort)) 165 (upd (M 165) q (nI 0))) 166 (zf (M 166) (24 * q) 0)) p) (congrArg (fun z => mm z p) (by rw [zf_0]; exact (zs_id _ 166).symm.trans (congrArg (zs _ 166) (by simp [zs])))) ?_
            exact loop _ 0 rfl (Nat.zero_le _)
        · refine j_iload_n (n := 37) dX10_sheet_36 rfl rfl ?_
          refine j_if_geT (n := 40) (tg := 44) dX10_sheet_37 rfl rfl (fun h8 => ?_) (fun h8 => ?_)
          · obtain ⟨q, hq, rfl⟩ := i_of (x := sheet) (n := 4) (by omega) (by omega)
            have eq : tN (nI q) = q := tN_nI (by omega)
            have iq : (nI q).toInt = q := i_N (by omega)
            refine j_aload_n (n := 45) dX10_sheet_44 rfl rfl ?_
            refine jm_get (n := 48) (k := 4) (b := 164) dX10_sheet_45 rfl fX10_19 rfl (by decide) hk ?_
            refine j_iload_n (n := 49) dX10_sheet_48 rfl rfl ?_
            refine j_iload_n (n := 50) dX10_sheet_49 rfl rfl ?_
            refine jm_ast (n := 51) (L := 4) (a := 164) (i := q) (x := sort) (M2 := mm (zs M 164 (upd (M 164) q sort)) p) dX10_sheet_50 rfl hk rfl (by omega) (mm_wo (by decide) rfl) ?_
            refine j_aload_n (n := 52) dX10_sheet_51 rfl rfl ?_
            refine jm_get (n := 55) (k := 5) (b := 165) dX10_sheet_52 rfl fX10_22 rfl (by decide) hk ?_
            refine j_iload_n (n := 56) dX10_sheet_55 rfl rfl ?_
            refine j_iload_n (n := 57) dX10_sheet_56 rfl rfl ?_
            refine j_if_geT (n := 60) (tg := 64) dX10_sheet_57 rfl rfl (fun h9 => ?_) (fun h9 => ?_)
            · refine j_iload_n (n := 65) dX10_sheet_64 rfl rfl ?_
              refine jm_ast (n := 66) (L := 4) (a := 165) (i := q) (x := n) (M2 := mm (zs (zs M 164 (upd (M 164) q sort)) 165 (upd (M 165) q n)) p) dX10_sheet_65 rfl hk rfl (by omega) (mm_wo (by decide) (congrArg (fun f => zs _ _ (upd f _ _)) (show _ = _ from by simp [zs]))) ?_
              refine j_iconst (n := 67) (v := nI 0) dX10_sheet_66 rfl rfl ?_
              refine j_istore (n := 69) (lv2 := [some (.ref 160), some (.int (nI q)), some (.int sort), some (.int n), some (.int (nI 0))]) dX10_sheet_67 rfl rfl (by decide) rfl ?_
              have loop : ∀ (j k : Nat), 24 - k = j → k ≤ 24 → zAt G miX10_sheet (zRm (d + 2) 0 0) (zQ G (zI (r_sheet (nI q) sort n) (mm (m_sheet M (nI q) sort n) p) X) 0 0) 69 [some (.ref 160), some (.int (nI q)), some (.int sort), some (.int n), some (.int (nI k))] [] (mm (zs (zs (zs M 164 (upd (M 164) q sort)) 165 (upd (M 165) q n)) 166 (zf (M 166) (24 * q) k)) p) X (0, 0) := by
                intro j
                induction j using Nat.strongRecOn with
                | ind j ih =>
                  intro k hj hk0
                  refine j_iload (n := 71) dX10_sheet_69 rfl rfl ?_
                  refine j_bipush (n := 73) (v := nI 24) dX10_sheet_71 rfl (by decide) ?_
                  refine j_icmp_geT (n := 76) (tg := 95) dX10_sheet_73 rfl rfl (i_N (by omega)) (i_N (by omega)) (fun h10 => ?_) (fun h10 => ?_)
                  · refine j_aload_n (n := 96) dX10_sheet_95 rfl rfl ?_
                    refine jm_get (n := 99) (k := 5) (b := 165) dX10_sheet_96 rfl fX10_22 rfl (by decide) hk ?_
                    refine j_iload_n (n := 100) dX10_sheet_99 rfl rfl ?_
                    refine jm_ald (n := 101) (L := 4) (a := 165) (i := q) (v := n) dX10_sheet_100 rfl hk rfl (by omega) (by simp [mm, zs, upd]) ?_
                    exact j_ri dX10_sheet_101 rfl (Nat.le_refl _) (Nat.le_refl _) (by first | (exfalso; omega) | (unfold r_sheet; repeat (first | rw [if_pos (by omega)] | rw [if_neg (by omega)]))) (by first | (exfalso; omega) | (unfold m_sheet; rw [eq, show k = 24 by omega]; repeat (first | rw [if_pos (by omega)] | rw [if_neg (by omega)]))) rfl
                  · refine j_aload_n (n := 77) dX10_sheet_76 rfl rfl ?_
                    refine jm_get (n := 80) (k := 6) (b := 166) dX10_sheet_77 rfl fX10_25 rfl (by decide) hk ?_
                    refine j_bipush (n := 82) (v := nI 24) dX10_sheet_80 rfl (by decide) ?_
                    refine j_iload_n (n := 83) dX10_sheet_82 rfl rfl ?_
                    refine j_imulN (n := 84) (c := 24 * q) dX10_sheet_83 rfl rfl ?_
                    refine j_iload (n := 86) dX10_sheet_84 rfl rfl ?_
                    refine j_iaddN (n := 87) (c := 24 * q + k) dX10_sheet_86 rfl rfl ?_
                    refine j_iconst (n := 88) (v := nI 0) dX10_sheet_87 rfl rfl ?_
                    refine jm_ast (n := 89) (L := 96) (a := 166) (i := 24 * q + k) (x := nI 0) (M2 := mm (zs (zs (zs M 164 (upd (M 164) q sort)) 165 (upd (M 165) q n)) 166 (zf (M 166) (24 * q) (k + 1))) p) dX10_sheet_88 rfl hk rfl (by omega) (mm_wo (by decide) (by rw [zs_eq, zs_zs, zf_s])) ?_
                    refine j_iinc (n := 92) (y := nI (k + 1)) (lv2 := [some (.ref 160), some (.int (nI q)), some (.int sort), some (.int n), some (.int (nI (k + 1)))]) dX10_sheet_89 rfl rfl (by decide) rfl (show nI k + nI 1 = nI (k + 1) by rw [nI_add]) rfl ?_
                    refine j_goto (n := 69) dX10_sheet_92 rfl ?_
                    exact ih _ (by omega) (k + 1) rfl (by omega)
              refine j_mem (M2 := mm (zs (zs (zs M 164 (upd (M 164) q sort)) 165 (upd (M 165) q n)) 166 (zf (M 166) (24 * q) 0)) p) (congrArg (fun z => mm z p) (by rw [zf_0]; exact (zs_id _ 166).symm.trans (congrArg (zs _ 166) (by simp [zs])))) ?_
              exact loop _ 0 rfl (Nat.zero_le _)
            · refine j_iconst (n := 61) (v := nI 0) dX10_sheet_60 rfl rfl ?_
              refine j_goto (n := 65) dX10_sheet_61 rfl ?_
              refine jm_ast (n := 66) (L := 4) (a := 165) (i := q) (x := nI 0) (M2 := mm (zs (zs M 164 (upd (M 164) q sort)) 165 (upd (M 165) q (nI 0))) p) dX10_sheet_65 rfl hk rfl (by omega) (mm_wo (by decide) (congrArg (fun f => zs _ _ (upd f _ _)) (show _ = _ from by simp [zs]))) ?_
              refine j_iconst (n := 67) (v := nI 0) dX10_sheet_66 rfl rfl ?_
              refine j_istore (n := 69) (lv2 := [some (.ref 160), some (.int (nI q)), some (.int sort), some (.int n), some (.int (nI 0))]) dX10_sheet_67 rfl rfl (by decide) rfl ?_
              have loop : ∀ (j k : Nat), 24 - k = j → k ≤ 24 → zAt G miX10_sheet (zRm (d + 2) 0 0) (zQ G (zI (r_sheet (nI q) sort n) (mm (m_sheet M (nI q) sort n) p) X) 0 0) 69 [some (.ref 160), some (.int (nI q)), some (.int sort), some (.int n), some (.int (nI k))] [] (mm (zs (zs (zs M 164 (upd (M 164) q sort)) 165 (upd (M 165) q (nI 0))) 166 (zf (M 166) (24 * q) k)) p) X (0, 0) := by
                intro j
                induction j using Nat.strongRecOn with
                | ind j ih =>
                  intro k hj hk0
                  refine j_iload (n := 71) dX10_sheet_69 rfl rfl ?_
                  refine j_bipush (n := 73) (v := nI 24) dX10_sheet_71 rfl (by decide) ?_
                  refine j_icmp_geT (n := 76) (tg := 95) dX10_sheet_73 rfl rfl (i_N (by omega)) (i_N (by omega)) (fun h11 => ?_) (fun h11 => ?_)
                  · refine j_aload_n (n := 96) dX10_sheet_95 rfl rfl ?_
                    refine jm_get (n := 99) (k := 5) (b := 165) dX10_sheet_96 rfl fX10_22 rfl (by decide) hk ?_
                    refine j_iload_n (n := 100) dX10_sheet_99 rfl rfl ?_
                    refine jm_ald (n := 101) (L := 4) (a := 165) (i := q) (v := nI 0) dX10_sheet_100 rfl hk rfl (by omega) (by simp [mm, zs, upd]) ?_
                    exact j_ri dX10_sheet_101 rfl (Nat.le_refl _) (Nat.le_refl _) (by first | (exfalso; omega) | (unfold r_sheet; repeat (first | rw [if_pos (by omega)] | rw [if_neg (by omega)]))) (by first | (exfalso; omega) | (unfold m_sheet; rw [eq, show k = 24 by omega]; repeat (first | rw [if_pos (by omega)] | rw [if_neg (by omega)]))) rfl
                  · refine j_aload_n (n := 77) dX10_sheet_76 rfl rfl ?_
                    refine jm_get (n := 80) (k := 6) (b := 166) dX10_sheet_77 rfl fX10_25 rfl (by decide) hk ?_
                    refine j_bipush (n := 82) (v := nI 24) dX10_sheet_80 rfl (by decide) ?_
                    refine j_iload_n (n := 83) dX10_sheet_82 rfl rfl ?_
                    refine j_imulN (n := 84) (c := 24 * q) dX10_sheet_83 rfl rfl ?_
                    refine j_iload (n := 86) dX10_sheet_84 rfl rfl ?_
                    refine j_iaddN (n := 87) (c := 24 * q + k) dX10_sheet_86 rfl rfl ?_
                    refine j_iconst (n := 88) (v := nI 0) dX10_sheet_87 rfl rfl ?_
                    refine jm_ast (n := 89) (L := 96) (a := 166) (i := 24 * q + k) (x := nI 0) (M2 := mm (zs (zs (zs M 164 (upd (M 164) q sort)) 165 (upd (M 165) q (nI 0))) 166 (zf (M 166) (24 * q) (k + 1))) p) dX10_sheet_88 rfl hk rfl (by omega) (mm_wo (by decide) (by rw [zs_eq, zs_zs, zf_s])) ?_
                    refine j_iinc (n := 92) (y := nI (k + 1)) (lv2 := [some (.ref 160), some (.int (nI q)), some (.int sort), some (.int n), some (.int (nI (k + 1)))]) dX10_sheet_89 rfl rfl (by decide) rfl (show nI k + nI 1 = nI (k + 1) by rw [nI_add]) rfl ?_
                    refine j_goto (n := 69) dX10_sheet_92 rfl ?_
                    exact ih _ (by omega) (k + 1) rfl (by omega)
              refine j_mem (M2 := mm (zs (zs (zs M 164 (upd (M 164) q sort)) 165 (upd (M 165) q (nI 0))) 166 (zf (M 166) (24 * q) 0)) p) (congrArg (fun z => mm z p) (by rw [zf_0]; exact (zs_id _ 166).symm.trans (congrArg (zs _ 166) (by simp [zs])))) ?_
              exact loop _ 0 rfl (Nat.zero_le _)
          · refine j_ldcw (n := 43) (v := -1000000014) dX10_sheet_40 rfl kX10_315 ?_
            exact j_ri dX10_sheet_43 rfl (Nat.le_refl _) (Nat.le_refl _) (by first | (exfalso; omega) | (unfold r_sheet; repeat (first | rw [if_pos (by omega)] | rw [if_neg (by omega)]))) (by first | (exfalso; omega) | (unfold m_sheet; repeat (first | rw [if_pos (by omega)] | rw [if_neg (by omega)]))) rfl
      · refine j_iload_n (n := 24) dX10_sheet_23 rfl rfl ?_
        refine j_bipush (n := 26) (v := nI 24) dX10_sheet_24 rfl (by decide) ?_
        refine j_icmp_leT (n := 29) (tg := 32) dX10_sheet_26 rfl rfl rfl (i_N (by omega)) (fun h12 => ?_) (fun h12 => ?_)
        · refine j_iload_n (n := 33) dX10_sheet_32 rfl rfl ?_
          refine j_if_ltT (n := 36) (tg := 44) dX10_sheet_33 rfl rfl (fun h13 => ?_) (fun h13 => ?_)
          · obtain ⟨q, hq, rfl⟩ := i_of (x := sheet) (n := 4) (by omega) (by omega)
            have eq : tN (nI q) = q := tN_nI (by omega)
            have iq : (nI q).toInt = q := i_N (by omega)
            refine j_aload_n (n := 45) dX10_sheet_44 rfl rfl ?_
            refine jm_get (n := 48) (k := 4) (b := 164) dX10_sheet_45 rfl fX10_19 rfl (by decide) hk ?_
            refine j_iload_n (n := 49) dX10_sheet_48 rfl rfl ?_
            refine j_iload_n (n := 50) dX10_sheet_49 rfl rfl ?_
            refine jm_ast (n := 51) (L := 4) (a := 164) (i := q) (x := sort) (M2 := mm (zs M 164 (upd (M 164) q sort)) p) dX10_sheet_50 rfl hk rfl (by omega) (mm_wo (by decide) rfl) ?_
            refine j_aload_n (n := 52) dX10_sheet_51 rfl rfl ?_
            refine jm_get (n := 55) (k := 5) (b := 165) dX10_sheet_52 rfl fX10_22 rfl (by decide) hk ?_
            refine j_iload_n (n := 56) dX10_sheet_55 rfl rfl ?_
            refine j_iload_n (n := 57) dX10_sheet_56 rfl rfl ?_
            refine j_if_geT (n := 60) (tg := 64) dX10_sheet_57 rfl rfl (fun h14 => ?_) (fun h14 => ?_)
            · refine j_iload_n (n := 65) dX10_sheet_64 rfl rfl ?_
              refine jm_ast (n := 66) (L := 4) (a := 165) (i := q) (x := n) (M2 := mm (zs (zs M 164 (upd (M 164) q sort)) 165 (upd (M 165) q n)) p) dX10_sheet_65 rfl hk rfl (by omega) (mm_wo (by decide) (congrArg (fun f => zs _ _ (upd f _ _)) (show _ = _ from by simp [zs]))) ?_
              refine j_iconst (n := 67) (v := nI 0) dX10_sheet_66 rfl rfl ?_
              refine j_istore (n := 69) (lv2 := [some (.ref 160), some (.int (nI q)), some (.int sort), some (.int n), some (.int (nI 0))]) dX10_sheet_67 rfl rfl (by decide) rfl ?_
              have loop : ∀ (j k : Nat), 24 - k = j → k ≤ 24 → zAt G miX10_sheet (zRm (d + 2) 0 0) (zQ G (zI (r_sheet (nI q) sort n) (mm (m_sheet M (nI q) sort n) p) X) 0 0) 69 [some (.ref 160), some (.int (nI q)), some (.int sort), some (.int n), some (.int (nI k))] [] (mm (zs (zs (zs M 164 (upd (M 164) q sort)) 165 (upd (M 165) q n)) 166 (zf (M 166) (24 * q) k)) p) X (0, 0) := by
                intro j
                induction j using Nat.strongRecOn with
                | ind j ih =>
                  intro k hj hk0
                  refine j_iload (n := 71) dX10_sheet_69 rfl rfl ?_
                  refine j_bipush (n := 73) (v := nI 24) dX10_sheet_71 rfl (by decide) ?_
                  refine j_icmp_geT (n := 76) (tg := 95) dX10_sheet_73 rfl rfl (i_N (by omega)) (i_N (by omega)) (fun h15 => ?_) (fun h15 => ?_)
                  · refine j_aload_n (n := 96) dX10_sheet_95 rfl rfl ?_
                    refine jm_get (n := 99) (k := 5) (b := 165) dX10_sheet_96 rfl fX10_22 rfl (by decide) hk ?_
                    refine j_iload_n (n := 100) dX10_sheet_99 rfl rfl ?_
                    refine jm_ald (n := 101) (L := 4) (a := 165) (i := q) (v := n) dX10_sheet_100 rfl hk rfl (by omega) (by simp [mm, zs, upd]) ?_
                    exact j_ri dX10_sheet_101 rfl (Nat.le_refl _) (Nat.le_refl _) (by first | (exfalso; omega) | (unfold r_sheet; repeat (first | rw [if_pos (by omega)] | rw [if_neg (by omega)]))) (by first | (exfalso; omega) | (unfold m_sheet; rw [eq, show k = 24 by omega]; repeat (first | rw [if_pos (by omega)] | rw [if_neg (by omega)]))) rfl
                  · refine j_aload_n (n := 77) dX10_sheet_76 rfl rfl ?_
                    refine jm_get (n := 80) (k := 6) (b := 166) dX10_sheet_77 rfl fX10_25 rfl (by decide) hk ?_
                    refine j_bipush (n := 82) (v := nI 24) dX10_sheet_80 rfl (by decide) ?_
                    refine j_iload_n (n := 83) dX10_sheet_82 rfl rfl ?_
                    refine j_imulN (n := 84) (c := 24 * q) dX10_sheet_83 rfl rfl ?_
                    refine j_iload (n := 86) dX10_sheet_84 rfl rfl ?_
                    refine j_iaddN (n := 87) (c := 24 * q + k) dX10_sheet_86 rfl rfl ?_
                    refine j_iconst (n := 88) (v := nI 0) dX10_sheet_87 rfl rfl ?_
                    refine jm_ast (n := 89) (L := 96) (a := 166) (i := 24 * q + k) (x := nI 0) (M2 := mm (zs (zs (zs M 164 (upd (M 164) q sort)) 165 (upd (M 165) q n)) 166 (zf (M 166) (24 * q) (k + 1))) p) dX10_sheet_88 rfl hk rfl (by omega) (mm_wo (by decide) (by rw [zs_eq, zs_zs, zf_s])) ?_
                    refine j_iinc (n := 92) (y := nI (k + 1)) (lv2 := [some (.ref 160), some (.int (nI q)), some (.int sort), some (.int n), some (.int (nI (k + 1)))]) dX10_sheet_89 rfl rfl (by decide) rfl (show nI k + nI 1 = nI (k + 1) by rw [nI_add]) rfl ?_
                    refine j_goto (n := 69) dX10_sheet_92 rfl ?_
                    exact ih _ (by omega) (k + 1) rfl (by omega)
              refine j_mem (M2 := mm (zs (zs (zs M 164 (upd (M 164) q sort)) 165 (upd (M 165) q n)) 166 (zf (M 166) (24 * q) 0)) p) (congrArg (fun z => mm z p) (by rw [zf_0]; exact (zs_id _ 166).symm.trans (congrArg (zs _ 166) (by simp [zs])))) ?_
              exact loop _ 0 rfl (Nat.zero_le _)
            · refine j_iconst (n := 61) (v := nI 0) dX10_sheet_60 rfl rfl ?_
              refine j_goto (n := 65) dX10_sheet_61 rfl ?_
              refine jm_ast (n := 66) (L := 4) (a := 165) (i := q) (x := nI 0) (M2 := mm (zs (zs M 164 (upd (M 164) q sort)) 165 (upd (M 165) q (nI 0))) p) dX10_sheet_65 rfl hk rfl (by omega) (mm_wo (by decide) (congrArg (fun f => zs _ _ (upd f _ _)) (show _ = _ from by simp [zs]))) ?_
              refine j_iconst (n := 67) (v := nI 0) dX10_sheet_66 rfl rfl ?_
              refine j_istore (n := 69) (lv2 := [some (.ref 160), some (.int (nI q)), some (.int sort), some (.int n), some (.int (nI 0))]) dX10_sheet_67 rfl rfl (by decide) rfl ?_
              have loop : ∀ (j k : Nat), 24 - k = j → k ≤ 24 → zAt G miX10_sheet (zRm (d + 2) 0 0) (zQ G (zI (r_sheet (nI q) sort n) (mm (m_sheet M (nI q) sort n) p) X) 0 0) 69 [some (.ref 160), some (.int (nI q)), some (.int sort), some (.int n), some (.int (nI k))] [] (mm (zs (zs (zs M 164 (upd (M 164) q sort)) 165 (upd (M 165) q (nI 0))) 166 (zf (M 166) (24 * q) k)) p) X (0, 0) := by
                intro j
                induction j using Nat.strongRecOn with
                | ind j ih =>
                  intro k hj hk0
                  refine j_iload (n := 71) dX10_sheet_69 rfl rfl ?_
                  refine j_bipush (n := 73) (v := nI 24) dX10_sheet_71 rfl (by decide) ?_
                  refine j_icmp_geT (n := 76) (tg := 95) dX10_sheet_73 rfl rfl (i_N (by omega)) (i_N (by omega)) (fun h16 => ?_) (fun h16 => ?_)
                  · refine j_aload_n (n := 96) dX10_sheet_95 rfl rfl ?_
                    refine jm_get (n := 99) (k := 5) (b := 165) dX10_sheet_96 rfl fX10_22 rfl (by decide) hk ?_
                    refine j_iload_n (n := 100) dX10_sheet_99 rfl rfl ?_
                    refine jm_ald (n := 101) (L := 4) (a := 165) (i := q) (v := nI 0) dX10_sheet_100 rfl hk rfl (by omega) (by simp [mm, zs, upd]) ?_
                    exact j_ri dX10_sheet_101 rfl (Nat.le_refl _) (Nat.le_refl _) (by first | (exfalso; omega) | (unfold r_sheet; repeat (first | rw [if_pos (by omega)] | rw [if_neg (by omega)]))) (by first | (exfalso; omega) | (unfold m_sheet; rw [eq, show k = 24 by omega]; repeat (first | rw [if_pos (by omega)] | rw [if_neg (by omega)]))) rfl
                  · refine j_aload_n (n := 77) dX10_sheet_76 rfl rfl ?_
                    refine jm_get (n := 80) (k := 6) (b := 166) dX10_sheet_77 rfl fX10_25 rfl (by decide) hk ?_
                    refine j_bipush (n := 82) (v := nI 24) dX10_sheet_80 rfl (by decide) ?_
                    refine j_iload_n (n := 83) dX10_sheet_82 rfl rfl ?_
                    refine j_imulN (n := 84) (c := 24 * q) dX10_sheet_83 rfl rfl ?_
                    refine j_iload (n := 86) dX10_sheet_84 rfl rfl ?_
                    refine j_iaddN (n := 87) (c := 24 * q + k) dX10_sheet_86 rfl rfl ?_
                    refine j_iconst (n := 88) (v := nI 0) dX10_sheet_87 rfl rfl ?_
                    refine jm_ast (n := 89) (L := 96) (a := 166) (i := 24 * q + k) (x := nI 0) (M2 := mm (zs (zs (zs M 164 (upd (M 164) q sort)) 165 (upd (M 165) q (nI 0))) 166 (zf (M 166) (24 * q) (k + 1))) p) dX10_sheet_88 rfl hk rfl (by omega) (mm_wo (by decide) (by rw [zs_eq, zs_zs, zf_s])) ?_
                    refine j_iinc (n := 92) (y := nI (k + 1)) (lv2 := [some (.ref 160), some (.int (nI q)), some (.int sort), some (.int n), some (.int (nI (k + 1)))]) dX10_sheet_89 rfl rfl (by decide) rfl (show nI k + nI 1 = nI (k + 1) by rw [nI_add]) rfl ?_
                    refine j_goto (n := 69) dX10_sheet_92 rfl ?_
                    exact ih _ (by omega) (k + 1) rfl (by omega)
              refine j_mem (M2 := mm (zs (zs (zs M 164 (upd (M 164) q sort)) 165 (upd (M 165) q (nI 0))) 166 (zf (M 166) (24 * q) 0)) p) (congrArg (fun z => mm z p) (by rw [zf_0]; exact (zs_id _ 166).symm.trans (congrArg (zs _ 166) (by simp [zs])))) ?_
              exact loop _ 0 rfl (Nat.zero_le _)
          · refine j_iload_n (n := 37) dX10_sheet_36 rfl rfl ?_
            refine j_if_geT (n := 40) (tg := 44) dX10_sheet_37 rfl rfl (fun h17 => ?_) (fun h17 => ?_)
            · obtain ⟨q, hq, rfl⟩ := i_of (x := sheet) (n := 4) (by omega) (by omega)
              have eq : tN (nI q) = q := tN_nI (by omega)
              have iq : (nI q).toInt = q := i_N (by omega)
              refine j_aload_n (n := 45) dX10_sheet_44 rfl rfl ?_
              refine jm_get (n := 48) (k := 4) (b := 164) dX10_sheet_45 rfl fX10_19 rfl (by decide) hk ?_
              refine j_iload_n (n := 49) dX10_sheet_48 rfl rfl ?_
              refine j_iload_n (n := 50) dX10_sheet_49 rfl rfl ?_
              refine jm_ast (n := 51) (L := 4) (a := 164) (i := q) (x := sort) (M2 := mm (zs M 164 (upd (M 164) q sort)) p) dX10_sheet_50 rfl hk rfl (by omega) (mm_wo (by decide) rfl) ?_
              refine j_aload_n (n := 52) dX10_sheet_51 rfl rfl ?_
              refine jm_get (n := 55) (k := 5) (b := 165) dX10_sheet_52 rfl fX10_22 rfl (by decide) hk ?_
              refine j_iload_n (n := 56) dX10_sheet_55 rfl rfl ?_
              refine j_iload_n (n := 57) dX10_sheet_56 rfl rfl ?_
              refine j_if_geT (n := 60) (tg := 64) dX10_sheet_57 rfl rfl (fun h18 => ?_) (fun h18 => ?_)
              · refine j_iload_n (n := 65) dX10_sheet_64 rfl rfl ?_
                refine jm_ast (n := 66) (L := 4) (a := 165) (i := q) (x := n) (M2 := mm (zs (zs M 164 (upd (M 164) q sort)) 165 (upd (M 165) q n)) p) dX10_sheet_65 rfl hk rfl (by omega) (mm_wo (by decide) (congrArg (fun f => zs _ _ (upd f _ _)) (show _ = _ from by simp [zs]))) ?_
                refine j_iconst (n := 67) (v := nI 0) dX10_sheet_66 rfl rfl ?_
                refine j_istore (n := 69) (lv2 := [some (.ref 160), some (.int (nI q)), some (.int sort), some (.int n), some (.int (nI 0))]) dX10_sheet_67 rfl rfl (by decide) rfl ?_
                have loop : ∀ (j k : Nat), 24 - k = j → k ≤ 24 → zAt G miX10_sheet (zRm (d + 2) 0 0) (zQ G (zI (r_sheet (nI q) sort n) (mm (m_sheet M (nI q) sort n) p) X) 0 0) 69 [some (.ref 160), some (.int (nI q)), some (.int sort), some (.int n), some (.int (nI k))] [] (mm (zs (zs (zs M 164 (upd (M 164) q sort)) 165 (upd (M 165) q n)) 166 (zf (M 166) (24 * q) k)) p) X (0, 0) := by
                  intro j
                  induction j using Nat.strongRecOn with
                  | ind j ih =>
                    intro k hj hk0
                    refine j_iload (n := 71) dX10_sheet_69 rfl rfl ?_
                    refine j_bipush (n := 73) (v := nI 24) dX10_sheet_71 rfl (by decide) ?_
                    refine j_icmp_geT (n := 76) (tg := 95) dX10_sheet_73 rfl rfl (i_N (by omega)) (i_N (by omega)) (fun h19 => ?_) (fun h19 => ?_)
                    · refine j_aload_n (n := 96) dX10_sheet_95 rfl rfl ?_
                      refine jm_get (n := 99) (k := 5) (b := 165) dX10_sheet_96 rfl fX10_22 rfl (by decide) hk ?_
                      refine j_iload_n (n := 100) dX10_sheet_99 rfl rfl ?_
                      refine jm_ald (n := 101) (L := 4) (a := 165) (i := q) (v := n) dX10_sheet_100 rfl hk rfl (by omega) (by simp [mm, zs, upd]) ?_
                      exact j_ri dX10_sheet_101 rfl (Nat.le_refl _) (Nat.le_refl _) (by first | (exfalso; omega) | (unfold r_sheet; repeat (first | rw [if_pos (by omega)] | rw [if_neg (by omega)]))) (by first | (exfalso; omega) | (unfold m_sheet; rw [eq, show k = 24 by omega]; repeat (first | rw [if_pos (by omega)] | rw [if_neg (by omega)]))) rfl
                    · refine j_aload_n (n := 77) dX10_sheet_76 rfl rfl ?_
                      refine jm_get (n := 80) (k := 6) (b := 166) dX10_sheet_77 rfl fX10_25 rfl (by decide) hk ?_
                      refine j_bipush (n := 82) (v := nI 24) dX10_sheet_80 rfl (by decide) ?_
                      refine j_iload_n (n := 83) dX10_sheet_82 rfl rfl ?_
                      refine j_imulN (n := 84) (c := 24 * q) dX10_sheet_83 rfl rfl ?_
                      refine j_iload (n := 86) dX10_sheet_84 rfl rfl ?_
                      refine j_iaddN (n := 87) (c := 24 * q + k) dX10_sheet_86 rfl rfl ?_
                      refine j_iconst (n := 88) (v := nI 0) dX10_sheet_87 rfl rfl ?_
                      refine jm_ast (n := 89) (L := 96) (a := 166) (i := 24 * q + k) (x := nI 0) (M2 := mm (zs (zs (zs M 164 (upd (M 164) q sort)) 165 (upd (M 165) q n)) 166 (zf (M 166) (24 * q) (k + 1))) p) dX10_sheet_88 rfl hk rfl (by omega) (mm_wo (by decide) (by rw [zs_eq, zs_zs, zf_s])) ?_
                      refine j_iinc (n := 92) (y := nI (k + 1)) (lv2 := [some (.ref 160), some (.int (nI q)), some (.int sort), some (.int n), some (.int (nI (k + 1)))]) dX10_sheet_89 rfl rfl (by decide) rfl (show nI k + nI 1 = nI (k + 1) by rw [nI_add]) rfl ?_
                      refine j_goto (n := 69) dX10_sheet_92 rfl ?_
                      exact ih _ (by omega) (k + 1) rfl (by omega)
                refine j_mem (M2 := mm (zs (zs (zs M 164 (upd (M 164) q sort)) 165 (upd (M 165) q n)) 166 (zf (M 166) (24 * q) 0)) p) (congrArg (fun z => mm z p) (by rw [zf_0]; exact (zs_id _ 166).symm.trans (congrArg (zs _ 166) (by simp [zs])))) ?_
                exact loop _ 0 rfl (Nat.zero_le _)
              · refine j_iconst (n := 61) (v := nI 0) dX10_sheet_60 rfl rfl ?_
                refine j_goto (n := 65) dX10_sheet_61 rfl ?_
                refine jm_ast (n := 66) (L := 4) (a := 165) (i := q) (x := nI 0) (M2 := mm (zs (zs M 164 (upd (M 164) q sort)) 165 (upd (M 165) q (nI 0))) p) dX10_sheet_65 rfl hk rfl (by omega) (mm_wo (by decide) (congrArg (fun f => zs _ _ (upd f _ _)) (show _ = _ from by simp [zs]))) ?_
                refine j_iconst (n := 67) (v := nI 0) dX10_sheet_66 rfl rfl ?_
                refine j_istore (n := 69) (lv2 := [some (.ref 160), some (.int (nI q)), some (.int sort), some (.int n), some (.int (nI 0))]) dX10_sheet_67 rfl rfl (by decide) rfl ?_
                have loop : ∀ (j k : Nat), 24 - k = j → k ≤ 24 → zAt G miX10_sheet (zRm (d + 2) 0 0) (zQ G (zI (r_sheet (nI q) sort n) (mm (m_sheet M (nI q) sort n) p) X) 0 0) 69 [some (.ref 160), some (.int (nI q)), some (.int sort), some (.int n), some (.int (nI k))] [] (mm (zs (zs (zs M 164 (upd (M 164) q sort)) 165 (upd (M 165) q (nI 0))) 166 (zf (M 166) (24 * q) k)) p) X (0, 0) := by
                  intro j
                  induction j using Nat.strongRecOn with
                  | ind j ih =>
                    intro k hj hk0
                    refine j_iload (n := 71) dX10_sheet_69 rfl rfl ?_
                    refine j_bipush (n := 73) (v := nI 24) dX10_sheet_71 rfl (by decide) ?_
                    refine j_icmp_geT (n := 76) (tg := 95) dX10_sheet_73 rfl rfl (i_N (by omega)) (i_N (by omega)) (fun h20 => ?_) (fun h20 => ?_)
                    · refine j_aload_n (n := 96) dX10_sheet_95 rfl rfl ?_
                      refine jm_get (n := 99) (k := 5) (b := 165) dX10_sheet_96 rfl fX10_22 rfl (by decide) hk ?_
                      refine j_iload_n (n := 100) dX10_sheet_99 rfl rfl ?_
                      refine jm_ald (n := 101) (L := 4) (a := 165) (i := q) (v := nI 0) dX10_sheet_100 rfl hk rfl (by omega) (by simp [mm, zs, upd]) ?_
                      exact j_ri dX10_sheet_101 rfl (Nat.le_refl _) (Nat.le_refl _) (by first | (exfalso; omega) | (unfold r_sheet; repeat (first | rw [if_pos (by omega)] | rw [if_neg (by omega)]))) (by first | (exfalso; omega) | (unfold m_sheet; rw [eq, show k = 24 by omega]; repeat (first | rw [if_pos (by omega)] | rw [if_neg (by omega)]))) rfl
                    · refine j_aload_n (n := 77) dX10_sheet_76 rfl rfl ?_
                      refine jm_get (n := 80) (k := 6) (b := 166) dX10_sheet_77 rfl fX10_25 rfl (by decide) hk ?_
                      refine j_bipush (n := 82) (v := nI 24) dX10_sheet_80 rfl (by decide) ?_
                      refine j_iload_n (n := 83) dX10_sheet_82 rfl rfl ?_
                      refine j_imulN (n := 84) (c := 24 * q) dX10_sheet_83 rfl rfl ?_
                      refine j_iload (n := 86) dX10_sheet_84 rfl rfl ?_
                      refine j_iaddN (n := 87) (c := 24 * q + k) dX10_sheet_86 rfl rfl ?_
                      refine j_iconst (n := 88) (v := nI 0) dX10_sheet_87 rfl rfl ?_
                      refine jm_ast (n := 89) (L := 96) (a := 166) (i := 24 * q + k) (x := nI 0) (M2 := mm (zs (zs (zs M 164 (upd (M 164) q sort)) 165 (upd (M 165) q (nI 0))) 166 (zf (M 166) (24 * q) (k + 1))) p) dX10_sheet_88 rfl hk rfl (by omega) (mm_wo (by decide) (by rw [zs_eq, zs_zs, zf_s])) ?_
                      refine j_iinc (n := 92) (y := nI (k + 1)) (lv2 := [some (.ref 160), some (.int (nI q)), some (.int sort), some (.int n), some (.int (nI (k + 1)))]) dX10_sheet_89 rfl rfl (by decide) rfl (show nI k + nI 1 = nI (k + 1) by rw [nI_add]) rfl ?_
                      refine j_goto (n := 69) dX10_sheet_92 rfl ?_
                      exact ih _ (by omega) (k + 1) rfl (by omega)
                refine j_mem (M2 := mm (zs (zs (zs M 164 (upd (M 164) q sort)) 165 (upd (M 165) q (nI 0))) 166 (zf (M 166) (24 * q) 0)) p) (congrArg (fun z => mm z p) (by rw [zf_0]; exact (zs_id _ 166).symm.trans (congrArg (zs _ 166) (by simp [zs])))) ?_
                exact loop _ 0 rfl (Nat.zero_le _)
            · refine j_ldcw (n := 43) (v := -1000000014) dX10_sheet_40 rfl kX10_315 ?_
              exact j_ri dX10_sheet_43 rfl (Nat.le_refl _) (Nat.le_refl _) (by first | (exfalso; omega) | (unfold r_sheet; repeat (first | rw [if_pos (by omega)] | rw [if_neg (by omega)]))) (by first | (exfalso; omega) | (unfold m_sheet; repeat (first | rw [if_pos (by omega)] | rw [if_neg (by omega)]))) rfl
        · refine j_ldc (n := 31) (v := -1000000001) dX10_sheet_29 rfl kX10_93 ?_
          exact j_ri dX10_sheet_31 rfl (Nat.le_refl _) (Nat.le_refl _) (by first | (exfalso; omega) | (unfold r_sheet; repeat (first | rw [if_pos (by omega)] | rw [if_neg (by omega)]))) (by first | (exfalso; omega) | (unfold m_sheet; repeat (first | rw [if_pos (by omega)] | rw [if_neg (by omega)]))) rfl
def r_mark (sheet : Int32) (srt : Int32) (len : Nat) (place v : Int32) : Int32 := if ¬ (0 ≤ sheet.toInt ∧ sheet.toInt ≤ 3) then cBAD else if srt.toInt < 0 then cNOTHING else if ¬ (0 ≤ place.toInt ∧ place.toInt ≤ (len : Int) - 1) then cINDEX else if srt.toInt = 0 ∧ v.toInt = -1000000005 then cKIND else if srt.toInt = 1 ∧ ¬ v.toInt = -1000000005 ∧ ¬ (-99999 ≤ v.toInt ∧ v.toInt ≤ 99999) then cBAD else nI 1
def markV (srt v : Int32) : Int32 := if srt.toInt = 0 then (v <<< (nI 16 &&& 31)) >>> (nI 16 &&& 31) else v
def m_mark (M : zMem) (sheet place v : Int32) : zMem := if r_mark sheet (M 164 (tN sheet)) (tN (M 165 (tN sheet))) place v = nI 1 then zs M 166 (upd (M 166) (24 * tN sheet + tN place) (markV (M 164 (tN sheet)) v)) else M
theorem c_mark (d : Nat) (G : zG) (M : zMem) (X : zX) (hk : kM X) (p : Nat → Nat) (hs : wfS M) (sheet place v : Int32) : zCall G miX10_mark (d + 2) [.ref 160, .int sheet, .int place, .int v] (zI (r_mark sheet (M 164 (tN sheet)) (tN (M 165 (tN sheet))) place v) (mm (m_mark M sheet place v) p) X) (mm M p) X 0 0 := by
  refine zCall.of (lv := [some (.ref 160), some (.int sheet), some (.int place), some (.int v)]) (by decide) (Nat.le_of_ble_eq_true rfl) rfl ?_
  refine j_iload_n (n := 1) dX10_mark_0 rfl rfl ?_
  refine j_cS (n := 4) dX10_mark_1 rfl sX10_310 (c_isSheet d G _ _ _) (by omega) (by decide) rfl rfl (Nat.le_of_ble_eq_true rfl) (by decide) (by decide) ?_
  refine j_if_neB (n := 7) (tg := 10) dX10_mark_4 rfl rfl (fun h1 => ?_) (fun h1 => ?_)
  · obtain ⟨q, hq, rfl⟩ := i_of (x := sheet) (n := 4) (by omega) (by omega)
    have eq : tN (nI q) = q := tN_nI (by omega)
    have iq : (nI q).toInt = q := i_N (by omega)
    have hq1 := hs q hq
    refine j_aload_n (n := 11) dX10_mark_10 rfl rfl ?_
    refine jm_get (n := 14) (k := 4) (b := 164) dX10_mark_11 rfl fX10_19 rfl (by decide) hk ?_
    refine j_iload_n (n := 15) dX10_mark_14 rfl rfl ?_
    refine jm_ald (n := 16) (L := 4) (a := 164) (i := q) (v := M 164 q) dX10_mark_15 rfl hk rfl (by omega) rfl ?_
    refine j_if_geT (n := 19) (tg := 23) dX10_mark_16 rfl rfl (fun h2 => ?_) (fun h2 => ?_)
    · refine j_iload_n (n := 24) dX10_mark_23 rfl rfl ?_
      refine j_i2l (n := 25) dX10_mark_24 rfl ?_
      refine j_lconst (n := 26) (v := lN 0) dX10_mark_25 rfl rfl ?_
      refine j_aload_n (n := 27) dX10_mark_26 rfl rfl ?_
      refine jm_get (n := 30) (k := 5) (b := 165) dX10_mark_27 rfl fX10_22 rfl (by decide) hk ?_
      refine j_iload_n (n := 31) dX10_mark_30 rfl rfl ?_
      refine jm_ald (n := 32) (L := 4) (a := 165) (i := q) (v := nI (tN (M 165 q))) dX10_mark_31 rfl hk rfl (by omega) (nI_tN (M 165 q)).symm ?_
      refine j_iconst (n := 33) (v := nI 1) dX10_mark_32 rfl rfl ?_
      refine j_isub (n := 34) dX10_mark_33 rfl ?_
      refine j_i2l (n := 35) dX10_mark_34 rfl ?_
      refine j_cS (n := 38) dX10_mark_35 rfl sX10_71 (c_isInI (x := place.toInt) (a := 0) (b := (((tN (M 165 q)) : Nat) : Int) - 1) (d + 1) G _ _ _ _ _ (l_toInt _) rfl ((l_toInt _).trans (pk_sub_toInt (b := 1) (by omega) (by decide)))) (by omega) (by decide) rfl rfl (Nat.le_of_ble_eq_true rfl) (by decide) (by decide) ?_
      refine j_if_neB (n := 41) (tg := 45) dX10_mark_38 rfl rfl (fun h3 => ?_) (fun h3 => ?_)
      · obtain ⟨w, hw, rfl⟩ := i_of (x := place) (n := 24) (by omega) (by omega)
        have ew : tN (nI w) = w := tN_nI (by omega)
        have iw : (nI w).toInt = w := i_N (by omega)
        refine j_aload_n (n := 46) dX10_mark_45 rfl rfl ?_
        refine jm_get (n := 49) (k := 4) (b := 164) dX10_mark_46 rfl fX10_19 rfl (by decide) hk ?_
        refine j_iload_n (n := 50) dX10_mark_49 rfl rfl ?_
        refine jm_ald (n := 51) (L := 4) (a := 164) (i := q) (v := M 164 q) dX10_mark_50 rfl hk rfl (by omega) rfl ?_
        refine j_if_neT (n := 54) (tg := 63) dX10_mark_51 rfl rfl (fun h4 => ?_) (fun h4 => ?_)
        · refine j_aload_n (n := 64) dX10_mark_63 rfl rfl ?_
          refine jm_get (n := 67) (k := 4) (b := 164) dX10_mark_64 rfl fX10_19 rfl (by decide) hk ?_
          refine j_iload_n (n := 68) dX10_mark_67 rfl rfl ?_
          refine jm_ald (n := 69) (L := 4) (a := 164) (i := q) (v := M 164 q) dX10_mark_68 rfl hk rfl (by omega) rfl ?_
          refine j_iconst (n := 70) (v := nI 1) dX10_mark_69 rfl rfl ?_
          refine j_icmp_neT (n := 73) (tg := 96) dX10_mark_70 rfl rfl rfl (i_N (by omega)) (fun h5 => ?_) (fun h5 => ?_)
          · refine j_aload_n (n := 97) dX10_mark_96 rfl rfl ?_
            refine jm_get (n := 100) (k := 6) (b := 166) dX10_mark_97 rfl fX10_25 rfl (by decide) hk ?_
            refine j_bipush (n := 102) (v := nI 24) dX10_mark_100 rfl (by decide) ?_
            refine j_iload_n (n := 103) dX10_mark_102 rfl rfl ?_
            refine j_imulN (n := 104) (c := 24 * q) dX10_mark_103 rfl rfl ?_
            refine j_iload_n (n := 105) dX10_mark_104 rfl rfl ?_
            refine j_iaddN (n := 106) (c := 24 * q + w) dX10_mark_105 rfl rfl ?_
            refine j_aload_n (n := 107) dX10_mark_106 rfl rfl ?_
            refine jm_get (n := 110) (k := 4) (b := 164) dX10_mark_107 rfl fX10_19 rfl (by decide) hk ?_
            refine j_iload_n (n := 111) dX10_mark_110 rfl rfl ?_
            refine jm_ald (n := 112) (L := 4) (a := 164) (i := q) (v := M 164 q) dX10_mark_111 rfl hk rfl (by omega) rfl ?_
            refine j_if_neT (n := 115) (tg := 125) dX10_mark_112 rfl rfl (fun h6 => ?_) (fun h6 => ?_)
            · refine j_iload_n (n := 126) dX10_mark_125 rfl rfl ?_
              refine jm_ast (n := 127) (L := 96) (a := 166) (i := 24 * q + w) (x := v) (M2 := mm (zs M 166 (upd (M 166) (24 * q + w) v)) p) dX10_mark_126 rfl hk rfl (by omega) (mm_wo (by decide) rfl) ?_
              refine j_iconst (n := 128) (v := nI 1) dX10_mark_127 rfl rfl ?_
              exact j_ri dX10_mark_128 rfl (Nat.le_refl _) (Nat.le_refl _) (by first | (exfalso; omega) | (unfold r_mark; (try rw [eq]); repeat (first | rw [if_pos (by omega)] | rw [if_neg (by omega)]))) (by first | (exfalso; omega) | (unfold m_mark; rw [if_pos (by unfold r_mark; rw [eq]; repeat (first | rw [if_pos (by omega)] | rw [if_neg (by omega)])), eq, ew]; unfold markV; first | rw [if_pos (by omega)] | rw [if_neg (by omega)])) rfl
            · refine j_iload_n (n := 116) dX10_mark_115 rfl rfl ?_
              refine j_bipush (n := 118) (v := nI 16) dX10_mark_116 rfl (by decide) ?_
              refine j_ishl (n := 119) dX10_mark_118 rfl ?_
              refine j_bipush (n := 121) (v := nI 16) dX10_mark_119 rfl (by decide) ?_
              refine j_ishr (n := 122) dX10_mark_121 rfl ?_
              refine j_goto (n := 126) dX10_mark_122 rfl ?_
              refine jm_ast (n := 127) (L := 96) (a := 166) (i := 24 * q + w) (x := (v <<< ((nI 16) &&& 31)) >>> ((nI 16) &&& 31)) (M2 := mm (zs M 166 (upd (M 166) (24 * q + w) ((v <<< ((nI 16) &&& 31)) >>> ((nI 16) &&& 31)))) p) dX10_mark_126 rfl hk rfl (by omega) (mm_wo (by decide) rfl) ?_
              refine j_iconst (n := 128) (v := nI 1) dX10_mark_127 rfl rfl ?_
              exact j_ri dX10_mark_128 rfl (Nat.le_refl _) (Nat.le_refl _) (by first | (exfalso; omega) | (unfold r_mark; (try rw [eq]); repeat (first | rw [if_pos (by omega)] | rw [if_neg (by omega)]))) (by first | (exfalso; omega) | (unfold m_mark; rw [if_pos (by unfold r_mark; rw [eq]; repeat (first | rw [if_pos (by omega)] | rw [if_neg (by omega)])), eq, ew]; unfold markV; first | rw [if_pos (by omega)] | rw [if_neg (by omega)])) rfl
          · refine j_iload_n (n := 74) dX10_mark_73 rfl rfl ?_
            refine j_ldc (n := 76) (v := -1000000005) dX10_mark_74 rfl kX10_70 ?_
            refine j_icmp_eqT (n := 79) (tg := 96) dX10_mark_76 rfl rfl rfl (show Int32.toInt (-1000000005) = (-1000000005 : Int) from by decide) (fun h7 => ?_) (fun h7 => ?_)
            · refine j_aload_n (n := 97) dX10_mark_96 rfl rfl ?_
              refine jm_get (n := 100) (k := 6) (b := 166) dX10_mark_97 rfl fX10_25 rfl (by decide) hk ?_
              refine j_bipush (n := 102) (v := nI 24) dX10_mark_100 rfl (by decide) ?_
              refine j_iload_n (n := 103) dX10_mark_102 rfl rfl ?_
              refine j_imulN (n := 104) (c := 24 * q) dX10_mark_103 rfl rfl ?_
              refine j_iload_n (n := 105) dX10_mark_104 rfl rfl ?_
              refine j_iaddN (n := 106) (c := 24 * q + w) dX10_mark_105 rfl rfl ?_
              refine j_aload_n (n := 107) dX10_mark_106 rfl rfl ?_
              refine jm_get (n := 110) (k := 4) (b := 164) dX10_mark_107 rfl fX10_19 rfl (by decide) hk ?_
              refine j_iload_n (n := 111) dX10_mark_110 rfl rfl ?_
              refine jm_ald (n := 112) (L := 4) (a := 164) (i := q) (v := M 164 q) dX10_mark_111 rfl hk rfl (by omega) rfl ?_
              refine j_if_neT (n := 115) (tg := 125) dX10_mark_112 rfl rfl (fun h8 => ?_) (fun h8 => ?_)
              · refine j_iload_n (n := 126) dX10_mark_125 rfl rfl ?_
                refine jm_ast (n := 127) (L := 96) (a := 166) (i := 24 * q + w) (x := v) (M2 := mm (zs M 166 (upd (M 166) (24 * q + w) v)) p) dX10_mark_126 rfl hk rfl (by omega) (mm_wo (by decide) rfl) ?_
                refine j_iconst (n := 128) (v := nI 1) dX10_mark_127 rfl rfl ?_
                exact j_ri dX10_mark_128 rfl (Nat.le_refl _) (Nat.le_refl _) (by first | (exfalso; omega) | (unfold r_mark; (try rw [eq]); repeat (first | rw [if_pos (by omega)] | rw [if_neg (by omega)]))) (by first | (exfalso; omega) | (unfold m_mark; rw [if_pos (by unfold r_mark; rw [eq]; repeat (first | rw [if_pos (by omega)] | rw [if_neg (by omega)])), eq, ew]; unfold markV; first | rw [if_pos (by omega)] | rw [if_neg (by omega)])) rfl
              · refine j_iload_n (n := 116) dX10_mark_115 rfl rfl ?_
                refine j_bipush (n := 118) (v := nI 16) dX10_mark_116 rfl (by decide) ?_
                refine j_ishl (n := 119) dX10_mark_118 rfl ?_
                refine j_bipush (n := 121) (v := nI 16) dX10_mark_119 rfl (by decide) ?_
                refine j_ishr (n := 122) dX10_mark_121 rfl ?_
                refine j_goto (n := 126) dX10_mark_122 rfl ?_
                refine jm_ast (n := 127) (L := 96) (a := 166) (i := 24 * q + w) (x := (v <<< ((nI 16) &&& 31)) >>> ((nI 16) &&& 31)) (M2 := mm (zs M 166 (upd (M 166) (24 * q + w) ((v <<< ((nI 16) &&& 31)) >>> ((nI 16) &&& 31)))) p) dX10_mark_126 rfl hk rfl (by omega) (mm_wo (by decide) rfl) ?_
                refine j_iconst (n := 128) (v := nI 1) dX10_mark_127 rfl rfl ?_
                exact j_ri dX10_mark_128 rfl (Nat.le_refl _) (Nat.le_refl _) (by first | (exfalso; omega) | (unfold r_mark; (try rw [eq]); repeat (first | rw [if_pos (by omega)] | rw [if_neg (by omega)]))) (by first | (exfalso; omega) | (unfold m_mark; rw [if_pos (by unfold r_mark; rw [eq]; repeat (first | rw [if_pos (by omega)] | rw [if_neg (by omega)])), eq, ew]; unfold markV; first | rw [if_pos (by omega)] | rw [if_neg (by omega)])) rfl
            · refine j_iload_n (n := 80) dX10_mark_79 rfl rfl ?_
              refine j_i2l (n := 81) dX10_mark_80 rfl ?_
              refine j_ldc2 (n := 84) (v := (-99999)) dX10_mark_81 rfl kX10_318 ?_
              refine j_ldc2 (n := 87) (v := lN 99999) dX10_mark_84 rfl kX10_320 ?_
              refine j_cS (n := 90) dX10_mark_87 rfl sX10_71 (c_isInI (x := v.toInt) (a := -99999) (b := 99999) (d + 1) G _ _ _ _ _ (l_toInt _) rfl rfl) (by omega) (by decide) rfl rfl (Nat.le_of_ble_eq_true rfl) (by decide) (by decide) ?_
              refine j_if_neB (n := 93) (tg := 96) dX10_mark_90 rfl rfl (fun h9 => ?_) (fun h9 => ?_)
              · refine j_aload_n (n := 97) dX10_mark_96 rfl rfl ?_
                refine jm_get (n := 100) (k := 6) (b := 166) dX10_mark_97 rfl fX10_25 rfl (by decide) hk ?_
                refine j_bipush (n := 102) (v := nI 24) dX10_mark_100 rfl (by decide) ?_
                refine j_iload_n (n := 103) dX10_mark_102 rfl rfl ?_
                refine j_imulN (n := 104) (c := 24 * q) dX10_mark_103 rfl rfl ?_
                refine j_iload_n (n := 105) dX10_mark_104 rfl rfl ?_
                refine j_iaddN (n := 106) (c := 24 * q + w) dX10_mark_105 rfl rfl ?_
                refine j_aload_n (n := 107) dX10_mark_106 rfl rfl ?_
                refine jm_get (n := 110) (k := 4) (b := 164) dX10_mark_107 rfl fX10_19 rfl (by decide) hk ?_
                refine j_iload_n (n := 111) dX10_mark_110 rfl rfl ?_
                refine jm_ald (n := 112) (L := 4) (a := 164) (i := q) (v := M 164 q) dX10_mark_111 rfl hk rfl (by omega) rfl ?_
                refine j_if_neT (n := 115) (tg := 125) dX10_mark_112 rfl rfl (fun h10 => ?_) (fun h10 => ?_)
                · refine j_iload_n (n := 126) dX10_mark_125 rfl rfl ?_
                  refine jm_ast (n := 127) (L := 96) (a := 166) (i := 24 * q + w) (x := v) (M2 := mm (zs M 166 (upd (M 166) (24 * q + w) v)) p) dX10_mark_126 rfl hk rfl (by omega) (mm_wo (by decide) rfl) ?_
                  refine j_iconst (n := 128) (v := nI 1) dX10_mark_127 rfl rfl ?_
                  exact j_ri dX10_mark_128 rfl (Nat.le_refl _) (Nat.le_refl _) (by first | (exfalso; omega) | (unfold r_mark; (try rw [eq]); repeat (first | rw [if_pos (by omega)] | rw [if_neg (by omega)]))) (by first | (exfalso; omega) | (unfold m_mark; rw [if_pos (by unfold r_mark; rw [eq]; repeat (first | rw [if_pos (by omega)] | rw [if_neg (by omega)])), eq, ew]; unfold markV; first | rw [if_pos (by omega)] | rw [if_neg (by omega)])) rfl
                · refine j_iload_n (n := 116) dX10_mark_115 rfl rfl ?_
                  refine j_bipush (n := 118) (v := nI 16) dX10_mark_116 rfl (by decide) ?_
                  refine j_ishl (n := 119) dX10_mark_118 rfl ?_
                  refine j_bipush (n := 121) (v := nI 16) dX10_mark_119 rfl (by decide) ?_
                  refine j_ishr (n := 122) dX10_mark_121 rfl ?_
                  refine j_goto (n := 126) dX10_mark_122 rfl ?_
                  refine jm_ast (n := 127) (L := 96) (a := 166) (i := 24 * q + w) (x := (v <<< ((nI 16) &&& 31)) >>> ((nI 16) &&& 31)) (M2 := mm (zs M 166 (upd (M 166) (24 * q + w) ((v <<< ((nI 16) &&& 31)) >>> ((nI 16) &&& 31)))) p) dX10_mark_126 rfl hk rfl (by omega) (mm_wo (by decide) rfl) ?_
                  refine j_iconst (n := 128) (v := nI 1) dX10_mark_127 rfl rfl ?_
                  exact j_ri dX10_mark_128 rfl (Nat.le_refl _) (Nat.le_refl _) (by first | (exfalso; omega) | (unfold r_mark; (try rw [eq]); repeat (first | rw [if_pos (by omega)] | rw [if_neg (by omega)]))) (by first | (exfalso; omega) | (unfold m_mark; rw [if_pos (by unfold r_mark; rw [eq]; repeat (first | rw [if_pos (by omega)] | rw [if_neg (by omega)])), eq, ew]; unfold markV; first | rw [if_pos (by omega)] | rw [if_neg (by omega)])) rfl
              · refine j_ldc (n := 95) (v := -1000000001) dX10_mark_93 rfl kX10_93 ?_
                exact j_ri dX10_mark_95 rfl (Nat.le_refl _) (Nat.le_refl _) (by first | (exfalso; omega) | (unfold r_mark; (try rw [eq]); repeat (first | rw [if_pos (by omega)] | rw [if_neg (by omega)]))) (by first | (exfalso; omega) | (unfold m_mark; rw [if_neg]; unfold r_mark; (try rw [eq]); (repeat (first | rw [if_pos (by omega)] | rw [if_neg (by omega)])); decide)) rfl
        · refine j_iload_n (n := 55) dX10_mark_54 rfl rfl ?_
          refine j_ldc (n := 57) (v := -1000000005) dX10_mark_55 rfl kX10_70 ?_
          refine j_icmp_neT (n := 60) (tg := 63) dX10_mark_57 rfl rfl rfl (show Int32.toInt (-1000000005) = (-1000000005 : Int) from by decide) (fun h11 => ?_) (fun h11 => ?_)
          · refine j_aload_n (n := 64) dX10_mark_63 rfl rfl ?_
            refine jm_get (n := 67) (k := 4) (b := 164) dX10_mark_64 rfl fX10_19 rfl (by decide) hk ?_
            refine j_iload_n (n := 68) dX10_mark_67 rfl rfl ?_
            refine jm_ald (n := 69) (L := 4) (a := 164) (i := q) (v := M 164 q) dX10_mark_68 rfl hk rfl (by omega) rfl ?_
            refine j_iconst (n := 70) (v := nI 1) dX10_mark_69 rfl rfl ?_
            refine j_icmp_neT (n := 73) (tg := 96) dX10_mark_70 rfl rfl rfl (i_N (by omega)) (fun h12 => ?_) (fun h12 => ?_)
            · refine j_aload_n (n := 97) dX10_mark_96 rfl rfl ?_
              refine jm_get (n := 100) (k := 6) (b := 166) dX10_mark_97 rfl fX10_25 rfl (by decide) hk ?_
              refine j_bipush (n := 102) (v := nI 24) dX10_mark_100 rfl (by decide) ?_
              refine j_iload_n (n := 103) dX10_mark_102 rfl rfl ?_
              refine j_imulN (n := 104) (c := 24 * q) dX10_mark_103 rfl rfl ?_
              refine j_iload_n (n := 105) dX10_mark_104 rfl rfl ?_
              refine j_iaddN (n := 106) (c := 24 * q + w) dX10_mark_105 rfl rfl ?_
              refine j_aload_n (n := 107) dX10_mark_106 rfl rfl ?_
              refine jm_get (n := 110) (k := 4) (b := 164) dX10_mark_107 rfl fX10_19 rfl (by decide) hk ?_
              refine j_iload_n (n := 111) dX10_mark_110 rfl rfl ?_
              refine jm_ald (n := 112) (L := 4) (a := 164) (i := q) (v := M 164 q) dX10_mark_111 rfl hk rfl (by omega) rfl ?_
              refine j_if_neT (n := 115) (tg := 125) dX10_mark_112 rfl rfl (fun h13 => ?_) (fun h13 => ?_)
              · refine j_iload_n (n := 126) dX10_mark_125 rfl rfl ?_
                refine jm_ast (n := 127) (L := 96) (a := 166) (i := 24 * q + w) (x := v) (M2 := mm (zs M 166 (upd (M 166) (24 * q + w) v)) p) dX10_mark_126 rfl hk rfl (by omega) (mm_wo (by decide) rfl) ?_
                refine j_iconst (n := 128) (v := nI 1) dX10_mark_127 rfl rfl ?_
                exact j_ri dX10_mark_128 rfl (Nat.le_refl _) (Nat.le_refl _) (by first | (exfalso; omega) | (unfold r_mark; (try rw [eq]); repeat (first | rw [if_pos (by omega)] | rw [if_neg (by omega)]))) (by first | (exfalso; omega) | (unfold m_mark; rw [if_pos (by unfold r_mark; rw [eq]; repeat (first | rw [if_pos (by omega)] | rw [if_neg (by omega)])), eq, ew]; unfold markV; first | rw [if_pos (by omega)] | rw [if_neg (by omega)])) rfl
              · refine j_iload_n (n := 116) dX10_mark_115 rfl rfl ?_
                refine j_bipush (n := 118) (v := nI 16) dX10_mark_116 rfl (by decide) ?_
                refine j_ishl (n := 119) dX10_mark_118 rfl ?_
                refine j_bipush (n := 121) (v := nI 16) dX10_mark_119 rfl (by decide) ?_
                refine j_ishr (n := 122) dX10_mark_121 rfl ?_
                refine j_goto (n := 126) dX10_mark_122 rfl ?_
                refine jm_ast (n := 127) (L := 96) (a := 166) (i := 24 * q + w) (x := (v <<< ((nI 16) &&& 31)) >>> ((nI 16) &&& 31)) (M2 := mm (zs M 166 (upd (M 166) (24 * q + w) ((v <<< ((nI 16) &&& 31)) >>> ((nI 16) &&& 31)))) p) dX10_mark_126 rfl hk rfl (by omega) (mm_wo (by decide) rfl) ?_
                refine j_iconst (n := 128) (v := nI 1) dX10_mark_127 rfl rfl ?_
                exact j_ri dX10_mark_128 rfl (Nat.le_refl _) (Nat.le_refl _) (by first | (exfalso; omega) | (unfold r_mark; (try rw [eq]); repeat (first | rw [if_pos (by omega)] | rw [if_neg (by omega)]))) (by first | (exfalso; omega) | (unfold m_mark; rw [if_pos (by unfold r_mark; rw [eq]; repeat (first | rw [if_pos (by omega)] | rw [if_neg (by omega)])), eq, ew]; unfold markV; first | rw [if_pos (by omega)] | rw [if_neg (by omega)])) rfl
            · refine j_iload_n (n := 74) dX10_mark_73 rfl rfl ?_
              refine j_ldc (n := 76) (v := -1000000005) dX10_mark_74 rfl kX10_70 ?_
              refine j_icmp_eqT (n := 79) (tg := 96) dX10_mark_76 rfl rfl rfl (show Int32.toInt (-1000000005) = (-1000000005 : Int) from by decide) (fun h14 => ?_) (fun h14 => ?_)
              · refine j_aload_n (n := 97) dX10_mark_96 rfl rfl ?_
                refine jm_get (n := 100) (k := 6) (b := 166) dX10_mark_97 rfl fX10_25 rfl (by decide) hk ?_
                refine j_bipush (n := 102) (v := nI 24) dX10_mark_100 rfl (by decide) ?_
                refine j_iload_n (n := 103) dX10_mark_102 rfl rfl ?_
                refine j_imulN (n := 104) (c := 24 * q) dX10_mark_103 rfl rfl ?_
                refine j_iload_n (n := 105) dX10_mark_104 rfl rfl ?_
                refine j_iaddN (n := 106) (c := 24 * q + w) dX10_mark_105 rfl rfl ?_
                refine j_aload_n (n := 107) dX10_mark_106 rfl rfl ?_
                refine jm_get (n := 110) (k := 4) (b := 164) dX10_mark_107 rfl fX10_19 rfl (by decide) hk ?_
                refine j_iload_n (n := 111) dX10_mark_110 rfl rfl ?_
                refine jm_ald (n := 112) (L := 4) (a := 164) (i := q) (v := M 164 q) dX10_mark_111 rfl hk rfl (by omega) rfl ?_
                refine j_if_neT (n := 115) (tg := 125) dX10_mark_112 rfl rfl (fun h15 => ?_) (fun h15 => ?_)
                · refine j_iload_n (n := 126) dX10_mark_125 rfl rfl ?_
                  refine jm_ast (n := 127) (L := 96) (a := 166) (i := 24 * q + w) (x := v) (M2 := mm (zs M 166 (upd (M 166) (24 * q + w) v)) p) dX10_mark_126 rfl hk rfl (by omega) (mm_wo (by decide) rfl) ?_
                  refine j_iconst (n := 128) (v := nI 1) dX10_mark_127 rfl rfl ?_
                  exact j_ri dX10_mark_128 rfl (Nat.le_refl _) (Nat.le_refl _) (by first | (exfalso; omega) | (unfold r_mark; (try rw [eq]); repeat (first | rw [if_pos (by omega)] | rw [if_neg (by omega)]))) (by first | (exfalso; omega) | (unfold m_mark; rw [if_pos (by unfold r_mark; rw [eq]; repeat (first | rw [if_pos (by omega)] | rw [if_neg (by omega)])), eq, ew]; unfold markV; first | rw [if_pos (by omega)] | rw [if_neg (by omega)])) rfl
                · refine j_iload_n (n := 116) dX10_mark_115 rfl rfl ?_
                  refine j_bipush (n := 118) (v := nI 16) dX10_mark_116 rfl (by decide) ?_
                  refine j_ishl (n := 119) dX10_mark_118 rfl ?_
                  refine j_bipush (n := 121) (v := nI 16) dX10_mark_119 rfl (by decide) ?_
                  refine j_ishr (n := 122) dX10_mark_121 rfl ?_
                  refine j_goto (n := 126) dX10_mark_122 rfl ?_
                  refine jm_ast (n := 127) (L := 96) (a := 166) (i := 24 * q + w) (x := (v <<< ((nI 16) &&& 31)) >>> ((nI 16) &&& 31)) (M2 := mm (zs M 166 (upd (M 166) (24 * q + w) ((v <<< ((nI 16) &&& 31)) >>> ((nI 16) &&& 31)))) p) dX10_mark_126 rfl hk rfl (by omega) (mm_wo (by decide) rfl) ?_
                  refine j_iconst (n := 128) (v := nI 1) dX10_mark_127 rfl rfl ?_
                  exact j_ri dX10_mark_128 rfl (Nat.le_refl _) (Nat.le_refl _) (by first | (exfalso; omega) | (unfold r_mark; (try rw [eq]); repeat (first | rw [if_pos (by omega)] | rw [if_neg (by omega)]))) (by first | (exfalso; omega) | (unfold m_mark; rw [if_pos (by unfold r_mark; rw [eq]; repeat (first | rw [if_pos (by omega)] | rw [if_neg (by omega)])), eq, ew]; unfold markV; first | rw [if_pos (by omega)] | rw [if_neg (by omega)])) rfl
              · refine j_iload_n (n := 80) dX10_mark_79 rfl rfl ?_
                refine j_i2l (n := 81) dX10_mark_80 rfl ?_
                refine j_ldc2 (n := 84) (v := (-99999)) dX10_mark_81 rfl kX10_318 ?_
                refine j_ldc2 (n := 87) (v := lN 99999) dX10_mark_84 rfl kX10_320 ?_
                refine j_cS (n := 90) dX10_mark_87 rfl sX10_71 (c_isInI (x := v.toInt) (a := -99999) (b := 99999) (d + 1) G _ _ _ _ _ (l_toInt _) rfl rfl) (by omega) (by decide) rfl rfl (Nat.le_of_ble_eq_true rfl) (by decide) (by decide) ?_
                refine j_if_neB (n := 93) (tg := 96) dX10_mark_90 rfl rfl (fun h16 => ?_) (fun h16 => ?_)
                · refine j_aload_n (n := 97) dX10_mark_96 rfl rfl ?_
                  refine jm_get (n := 100) (k := 6) (b := 166) dX10_mark_97 rfl fX10_25 rfl (by decide) hk ?_
                  refine j_bipush (n := 102) (v := nI 24) dX10_mark_100 rfl (by decide) ?_
                  refine j_iload_n (n := 103) dX10_mark_102 rfl rfl ?_
                  refine j_imulN (n := 104) (c := 24 * q) dX10_mark_103 rfl rfl ?_
                  refine j_iload_n (n := 105) dX10_mark_104 rfl rfl ?_
                  refine j_iaddN (n := 106) (c := 24 * q + w) dX10_mark_105 rfl rfl ?_
                  refine j_aload_n (n := 107) dX10_mark_106 rfl rfl ?_
                  refine jm_get (n := 110) (k := 4) (b := 164) dX10_mark_107 rfl fX10_19 rfl (by decide) hk ?_
                  refine j_iload_n (n := 111) dX10_mark_110 rfl rfl ?_
                  refine jm_ald (n := 112) (L := 4) (a := 164) (i := q) (v := M 164 q) dX10_mark_111 rfl hk rfl (by omega) rfl ?_
                  refine j_if_neT (n := 115) (tg := 125) dX10_mark_112 rfl rfl (fun h17 => ?_) (fun h17 => ?_)
                  · refine j_iload_n (n := 126) dX10_mark_125 rfl rfl ?_
                    refine jm_ast (n := 127) (L := 96) (a := 166) (i := 24 * q + w) (x := v) (M2 := mm (zs M 166 (upd (M 166) (24 * q + w) v)) p) dX10_mark_126 rfl hk rfl (by omega) (mm_wo (by decide) rfl) ?_
                    refine j_iconst (n := 128) (v := nI 1) dX10_mark_127 rfl rfl ?_
                    exact j_ri dX10_mark_128 rfl (Nat.le_refl _) (Nat.le_refl _) (by first | (exfalso; omega) | (unfold r_mark; (try rw [eq]); repeat (first | rw [if_pos (by omega)] | rw [if_neg (by omega)]))) (by first | (exfalso; omega) | (unfold m_mark; rw [if_pos (by unfold r_mark; rw [eq]; repeat (first | rw [if_pos (by omega)] | rw [if_neg (by omega)])), eq, ew]; unfold markV; first | rw [if_pos (by omega)] | rw [if_neg (by omega)])) rfl
                  · refine j_iload_n (n := 116) dX10_mark_115 rfl rfl ?_
                    refine j_bipush (n := 118) (v := nI 16) dX10_mark_116 rfl (by decide) ?_
                    refine j_ishl (n := 119) dX10_mark_118 rfl ?_
                    refine j_bipush (n := 121) (v := nI 16) dX10_mark_119 rfl (by decide) ?_
                    refine j_ishr (n := 122) dX10_mark_121 rfl ?_
                    refine j_goto (n := 126) dX10_mark_122 rfl ?_
                    refine jm_ast (n := 127) (L := 96) (a := 166) (i := 24 * q + w) (x := (v <<< ((nI 16) &&& 31)) >>> ((nI 16) &&& 31)) (M2 := mm (zs M 166 (upd (M 166) (24 * q + w) ((v <<< ((nI 16) &&& 31)) >>> ((nI 16) &&& 31)))) p) dX10_mark_126 rfl hk rfl (by omega) (mm_wo (by decide) rfl) ?_
                    refine j_iconst (n := 128) (v := nI 1) dX10_mark_127 rfl rfl ?_
                    exact j_ri dX10_mark_128 rfl (Nat.le_refl _) (Nat.le_refl _) (by first | (exfalso; omega) | (unfold r_mark; (try rw [eq]); repeat (first | rw [if_pos (by omega)] | rw [if_neg (by omega)]))) (by first | (exfalso; omega) | (unfold m_mark; rw [if_pos (by unfold r_mark; rw [eq]; repeat (first | rw [if_pos (by omega)] | rw [if_neg (by omega)])), eq, ew]; unfold markV; first | rw [if_pos (by omega)] | rw [if_neg (by omega)])) rfl
                · refine j_ldc (n := 95) (v := -1000000001) dX10_mark_93 rfl kX10_93 ?_
                  exact j_ri dX10_mark_95 rfl (Nat.le_refl _) (Nat.le_refl _) (by first | (exfalso; omega) | (unfold r_mark; (try rw [eq]); repeat (first | rw [if_pos (by omega)] | rw [if_neg (by omega)]))) (by first | (exfalso; omega) | (unfold m_mark; rw [if_neg]; unfold r_mark; (try rw [eq]); (repeat (first | rw [if_pos (by omega)] | rw [if_neg (by omega)])); decide)) rfl
          · refine j_ldc (n := 62) (v := -1000000012) dX10_mark_60 rfl kX10_135 ?_
            exact j_ri dX10_mark_62 rfl (Nat.le_refl _) (Nat.le_refl _) (by first | (exfalso; omega) | (unfold r_mark; (try rw [eq]); repeat (first | rw [if_pos (by omega)] | rw [if_neg (by omega)]))) (by first | (exfalso; omega) | (unfold m_mark; rw [if_neg]; unfold r_mark; (try rw [eq]); (repeat (first | rw [if_pos (by omega)] | rw [if_neg (by omega)])); decide)) rfl
      · refine j_ldcw (n := 44) (v := -1000000013) dX10_mark_41 rfl kX10_317 ?_
        exact j_ri dX10_mark_44 rfl (Nat.le_refl _) (Nat.le_refl _) (by first | (exfalso; omega) | (unfold r_mark; (try rw [eq]); repeat (first | rw [if_pos (by omega)] | rw [if_neg (by omega)]))) (by first | (exfalso; omega) | (unfold m_mark; rw [if_neg]; unfold r_mark; (try rw [eq]); (repeat (first | rw [if_pos (by omega)] | rw [if_neg (by omega)])); decide)) rfl
    · refine j_ldcw (n := 22) (v := -1000000011) dX10_mark_19 rfl kX10_316 ?_
      exact j_ri dX10_mark_22 rfl (Nat.le_refl _) (Nat.le_refl _) (by first | (exfalso; omega) | (unfold r_mark; (try rw [eq]); repeat (first | rw [if_pos (by omega)] | rw [if_neg (by omega)]))) (by first | (exfalso; omega) | (unfold m_mark; rw [if_neg]; unfold r_mark; (try rw [eq]); (repeat (first | rw [if_pos (by omega)] | rw [if_neg (by omega)])); decide)) rfl
  · refine j_ldc (n := 9) (v := -1000000001) dX10_mark_7 rfl kX10_93 ?_
    exact j_ri dX10_mark_9 rfl (Nat.le_refl _) (Nat.le_refl _) (by first | (exfalso; omega) | (unfold r_mark; (try rw [eq]); repeat (first | rw [if_pos (by omega)] | rw [if_neg (by omega)]))) (by first | (exfalso; omega) | (unfold m_mark; rw [if_neg]; unfold r_mark; (try rw [eq]); (repeat (first | rw [if_pos (by omega)] | rw [if_neg (by omega)])); decide)) rfl
