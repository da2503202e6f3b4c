-- MODEL N: by program (wip/whole/gen/b14.py)
def bytV (a b e : Int32) (k : Nat) : Int32 := ((if k < 4 then a else if k < 8 then b else e) >>> (nI (24 - 8 * (k % 4)) &&& 31)) &&& nI 255
def tpF (f : Nat → Int32) (l : Nat) (v : Nat → Int32) (k : Nat) : Nat → Int32 := fun i => if l ≤ i ∧ i < l + k then v (i - l) else f i
theorem tpF_0 (f : Nat → Int32) (l : Nat) (v : Nat → Int32) : tpF f l v 0 = f := by
  funext i
  unfold tpF
  rw [if_neg (by omega)]
theorem tpF_s (f : Nat → Int32) (l : Nat) (v : Nat → Int32) (k : Nat) : upd (tpF f l v k) (l + k) (v k) = tpF f l v (k + 1) := by
  funext i
  unfold upd tpF
  by_cases h : i = l + k
  · rw [if_pos h, if_pos (by omega), show i - l = k by omega]
  · rw [if_neg h]
    by_cases h2 : l ≤ i ∧ i < l + k
    · rw [if_pos h2, if_pos (by omega)]
    · rw [if_neg h2, if_neg (by omega)]
def mF (M : zMem) (T : Nat → Int32) (n : Nat) : zMem := zs (zs M 175 T) 160 (upd (M 160) 16 (nI n))
theorem mF_t (M : zMem) (T : Nat → Int32) (n i : Nat) (x : Int32) : zs (mF M T n) 175 (upd ((mF M T n) 175) i x) = mF M (upd T i x) n := by
  unfold mF
  rw [zs_ne _ _ (by decide : (175 : Nat) ≠ 160), zs_eq, zs_comm _ _ _ (by decide : (160 : Nat) ≠ 175), zs_zs]
theorem upd_upd (f : Nat → Int32) (i : Nat) (x y : Int32) : upd (upd f i x) i y = upd f i y := by
  funext j
  unfold upd
  split <;> rfl
theorem mF_n (M : zMem) (T : Nat → Int32) (n m : Nat) : zs (mF M T n) 160 (upd ((mF M T n) 160) 16 (nI m)) = mF M T m := by
  unfold mF
  rw [zs_eq, zs_zs, upd_upd]
theorem mF_16 (M : zMem) (T : Nat → Int32) (n : Nat) : mF M T n 160 16 = nI n := by
  unfold mF
  rw [zs_eq]
  exact if_pos rfl
theorem mF_0 {M : zMem} {n : Nat} (h : M 160 16 = nI n) : mF M (M 175) n = M := by
  unfold mF
  rw [zs_id]
  have e : upd (M 160) 16 (nI n) = M 160 := by
    funext j
    unfold upd
    split
    · rename_i e; rw [e, h]
    · rfl
  rw [e, zs_id]
def r_feed (l : Nat) : Int32 := if 96 < l + 12 then cFULL else nI (l + 12)
def m_feed (M : zMem) (a b e : Int32) : zMem := if 96 < tN (M 160 16) + 12 then M else mF M (tpF (M 175) (tN (M 160 16)) (bytV a b e) 12) (tN (M 160 16) + 12)
theorem c_feed (d : Nat) (G : zG) (M : zMem) (X : zX) (hk : kM X) (p : Nat → Nat) (hwt : tN (M 160 16) ≤ 96) (a b e : Int32) : zCall G miX10_feed (d + 0) [.ref 160, .int a, .int b, .int e] (zI (r_feed (tN (M 160 16))) (mm (m_feed M a b e) p) X) (mm M p) X 0 0 := by
  refine zCall.of (lv := [some (.ref 160), some (.int a), some (.int b), some (.int e), none, none]) (by decide) (Nat.le_of_ble_eq_true rfl) rfl ?_
  refine j_aload_n (n := 1) dX10_feed_0 rfl rfl ?_
  refine jm_geti (n := 4) (k := 16) (v := nI (tN (M 160 16))) dX10_feed_1 rfl fX10_211 hk (nI_tN (M 160 16)).symm ?_
  refine j_bipush (n := 6) (v := nI 12) dX10_feed_4 rfl (by decide) ?_
  refine j_iaddN (n := 7) (c := tN (M 160 16) + 12) dX10_feed_6 rfl rfl ?_
  refine j_bipush (n := 9) (v := nI 96) dX10_feed_7 rfl (by decide) ?_
  refine j_icmp_leT (n := 12) (tg := 15) dX10_feed_9 rfl rfl (i_N (by omega)) (i_N (by omega)) (fun h1 => ?_) (fun h1 => ?_)
  · refine j_iconst (n := 16) (v := nI 0) dX10_feed_15 rfl rfl ?_
    refine j_istore (n := 18) (lv2 := [some (.ref 160), some (.int a), some (.int b), some (.int e), some (.int (nI 0)), none]) dX10_feed_16 rfl rfl (by decide) rfl ?_
    have loop : ∀ (j k : Nat), 12 - k = j → k ≤ 12 → zAt G miX10_feed (zRm (d + 0) 0 0) (zQ G (zI (r_feed (tN (M 160 16))) (mm (m_feed M a b e) p) X) 0 0) 18 [some (.ref 160), some (.int a), some (.int b), some (.int e), some (.int (nI k)), none] [] (mm (mF M (tpF (M 175) (tN (M 160 16)) (bytV a b e) k) (tN (M 160 16) + k)) p) X (0, 0) := by
      intro j
      induction j using Nat.strongRecOn with
      | ind j ih =>
        intro k hj hk0
        refine j_iload (n := 20) dX10_feed_18 rfl rfl ?_
        refine j_bipush (n := 22) (v := nI 12) dX10_feed_20 rfl (by decide) ?_
        refine j_icmp_geT (n := 25) (tg := 91) dX10_feed_22 rfl rfl (i_N (by omega)) (i_N (by omega)) (fun h2 => ?_) (fun h2 => ?_)
        · refine j_aload_n (n := 92) dX10_feed_91 rfl rfl ?_
          refine jm_geti (n := 95) (k := 16) (v := nI (tN (M 160 16) + k)) dX10_feed_92 rfl fX10_211 hk (mF_16 M (tpF (M 175) (tN (M 160 16)) (bytV a b e) k) (tN (M 160 16) + k)) ?_
          exact j_ri dX10_feed_95 rfl (Nat.le_refl _) (Nat.le_refl _) (by unfold r_feed; rw [if_neg (by omega), show k = 12 by omega]) (by unfold m_feed; rw [if_neg (by omega), show k = 12 by omega]) rfl
        · refine j_iload (n := 27) dX10_feed_25 rfl rfl ?_
          refine j_iconst (n := 28) (v := nI 4) dX10_feed_27 rfl rfl ?_
          refine j_icmp_geT (n := 31) (tg := 35) dX10_feed_28 rfl rfl (i_N (by omega)) (i_N (by omega)) (fun h3 => ?_) (fun h3 => ?_)
          · refine j_iload (n := 37) dX10_feed_35 rfl rfl ?_
            refine j_bipush (n := 39) (v := nI 8) dX10_feed_37 rfl (by decide) ?_
            refine j_icmp_geT (n := 42) (tg := 46) dX10_feed_39 rfl rfl (i_N (by omega)) (i_N (by omega)) (fun h4 => ?_) (fun h4 => ?_)
            · refine j_iload_n (n := 47) dX10_feed_46 rfl rfl ?_
              refine j_istore (n := 49) (lv2 := [some (.ref 160), some (.int a), some (.int b), some (.int e), some (.int (nI k)), some (.int e)]) dX10_feed_47 rfl rfl (by decide) rfl ?_
              refine j_aload_n (n := 50) dX10_feed_49 rfl rfl ?_
              refine jm_get (n := 53) (k := 15) (b := 175) dX10_feed_50 rfl fX10_52 rfl (by decide) hk ?_
              refine j_aload_n (n := 54) dX10_feed_53 rfl rfl ?_
              refine jm_geti (n := 57) (k := 16) (v := nI (tN (M 160 16) + k)) dX10_feed_54 rfl fX10_211 hk (mF_16 M (tpF (M 175) (tN (M 160 16)) (bytV a b e) k) (tN (M 160 16) + k)) ?_
              refine j_iload (n := 59) dX10_feed_57 rfl rfl ?_
              refine j_bipush (n := 61) (v := nI 24) dX10_feed_59 rfl (by decide) ?_
              refine j_bipush (n := 63) (v := nI 8) dX10_feed_61 rfl (by decide) ?_
              refine j_iload (n := 65) dX10_feed_63 rfl rfl ?_
              refine j_iconst (n := 66) (v := nI 4) dX10_feed_65 rfl rfl ?_
              refine j_iremN (n := 67) (c := k % 4) dX10_feed_66 rfl (by omega) (by omega) (by omega) rfl ?_
              refine j_imulN (n := 68) (c := 8 * (k % 4)) dX10_feed_67 rfl rfl ?_
              refine j_isubN (n := 69) (c := 24 - (8 * (k % 4))) dX10_feed_68 rfl (by omega) (by omega) ?_
              refine j_ishr (n := 70) dX10_feed_69 rfl ?_
              refine j_sipush (n := 73) (v := nI 255) dX10_feed_70 rfl (by decide) ?_
              refine j_iand (n := 74) dX10_feed_73 rfl ?_
              have ev : bytV a b e k = (e >>> ((nI (24 - (8 * (k % 4)))) &&& 31)) &&& (nI 255) := by unfold bytV; repeat (first | rw [if_pos (by omega)] | rw [if_neg (by omega)])
              refine jm_ast (n := 75) (L := 96) (a := 175) (i := tN (M 160 16) + k) (x := (e >>> ((nI (24 - (8 * (k % 4)))) &&& 31)) &&& (nI 255)) (M2 := mm (mF M (tpF (M 175) (tN (M 160 16)) (bytV a b e) (k + 1)) (tN (M 160 16) + k)) p) dX10_feed_74 rfl hk rfl (by omega) (mm_wo (by decide) (by rw [mF_t, ← ev, tpF_s])) ?_
              refine j_aload_n (n := 76) dX10_feed_75 rfl rfl ?_
              refine j_dup (n := 77) dX10_feed_76 rfl rfl ?_
              refine jm_geti (n := 80) (k := 16) (v := nI (tN (M 160 16) + k)) dX10_feed_77 rfl fX10_211 hk (mF_16 M (tpF (M 175) (tN (M 160 16)) (bytV a b e) (k + 1)) (tN (M 160 16) + k)) ?_
              refine j_iconst (n := 81) (v := nI 1) dX10_feed_80 rfl rfl ?_
              refine j_iaddN (n := 82) (c := tN (M 160 16) + k + 1) dX10_feed_81 rfl rfl ?_
              refine jm_put (n := 85) (k := 16) (x := nI (tN (M 160 16) + k + 1)) (M2 := mm (mF M (tpF (M 175) (tN (M 160 16)) (bytV a b e) (k + 1)) (tN (M 160 16) + (k + 1))) p) dX10_feed_82 rfl pX10_211 rfl rfl hk (mm_wo (by decide) (by rw [mF_n]; rfl)) ?_
              refine j_iinc (n := 88) (y := nI (k + 1)) (lv2 := [some (.ref 160), some (.int a), some (.int b), some (.int e), some (.int (nI (k + 1))), some (.int e)]) dX10_feed_85 rfl rfl (by decide) rfl (show nI k + nI 1 = nI (k + 1) by rw [nI_add]) rfl ?_
              refine j_goto (n := 18) dX10_feed_88 rfl ?_
              refine j_wk (lv2 := [some (.ref 160), some (.int a), some (.int b), some (.int e), some (.int (nI (k + 1))), none]) ⟨rfl, rfl, rfl, rfl, rfl, trivial⟩ ?_
              exact ih _ (by omega) (k + 1) rfl (by omega)
            · refine j_iload_n (n := 43) dX10_feed_42 rfl rfl ?_
              refine j_goto (n := 47) dX10_feed_43 rfl ?_
              refine j_istore (n := 49) (lv2 := [some (.ref 160), some (.int a), some (.int b), some (.int e), some (.int (nI k)), some (.int b)]) dX10_feed_47 rfl rfl (by decide) rfl ?_
              refine j_aload_n (n := 50) dX10_feed_49 rfl rfl ?_
              refine jm_get (n := 53) (k := 15) (b := 175) dX10_feed_50 rfl fX10_52 rfl (by decide) hk ?_
              refine j_aload_n (n := 54) dX10_feed_53 rfl rfl ?_
              refine jm_geti (n := 57) (k := 16) (v := nI (tN (M 160 16) + k)) dX10_feed_54 rfl fX10_211 hk (mF_16 M (tpF (M 175) (tN (M 160 16)) (bytV a b e) k) (tN (M 160 16) + k)) ?_
              refine j_iload (n := 59) dX10_feed_57 rfl rfl ?_
              refine j_bipush (n := 61) (v := nI 24) dX10_feed_59 rfl (by decide) ?_
              refine j_bipush (n := 63) (v := nI 8) dX10_feed_61 rfl (by decide) ?_
              refine j_iload (n := 65) dX10_feed_63 rfl rfl ?_
              refine j_iconst (n := 66) (v := nI 4) dX10_feed_65 rfl rfl ?_
              refine j_iremN (n := 67) (c := k % 4) dX10_feed_66 rfl (by omega) (by omega) (by omega) rfl ?_
              refine j_imulN (n := 68) (c := 8 * (k % 4)) dX10_feed_67 rfl rfl ?_
              refine j_isubN (n := 69) (c := 24 - (8 * (k % 4))) dX10_feed_68 rfl (by omega) (by omega) ?_
              refine j_ishr (n := 70) dX10_feed_69 rfl ?_
              refine j_sipush (n := 73) (v := nI 255) dX10_feed_70 rfl (by decide) ?_
              refine j_iand (n := 74) dX10_feed_73 rfl ?_
              have ev : bytV a b e k = (b >>> ((nI (24 - (8 * (k % 4)))) &&& 31)) &&& (nI 255) := by unfold bytV; repeat (first | rw [if_pos (by omega)] | rw [if_neg (by omega)])
              refine jm_ast (n := 75) (L := 96) (a := 175) (i := tN (M 160 16) + k) (x := (b >>> ((nI (24 - (8 * (k % 4)))) &&& 31)) &&& (nI 255)) (M2 := mm (mF M (tpF (M 175) (tN (M 160 16)) (bytV a b e) (k + 1)) (tN (M 160 16) + k)) p) dX10_feed_74 rfl hk rfl (by omega) (mm_wo (by decide) (by rw [mF_t, ← ev, tpF_s])) ?_
              refine j_aload_n (n := 76) dX10_feed_75 rfl rfl ?_
              refine j_dup (n := 77) dX10_feed_76 rfl rfl ?_
              refine jm_geti (n := 80) (k := 16) (v := nI (tN (M 160 16) + k)) dX10_feed_77 rfl fX10_211 hk (mF_16 M (tpF (M 175) (tN (M 160 16)) (bytV a b e) (k + 1)) (tN (M 160 16) + k)) ?_
              refine j_iconst (n := 81) (v := nI 1) dX10_feed_80 rfl rfl ?_
              refine j_iaddN (n := 82) (c := tN (M 160 16) + k + 1) dX10_feed_81 rfl rfl ?_
              refine jm_put (n := 85) (k := 16) (x := nI (tN (M 160 16) + k + 1)) (M2 := mm (mF M (tpF (M 175) (tN (M 160 16)) (bytV a b e) (k + 1)) (tN (M 160 16) + (k + 1))) p) dX10_feed_82 rfl pX10_211 rfl rfl hk (mm_wo (by decide) (by rw [mF_n]; rfl)) ?_
              refine j_iinc (n := 88) (y := nI (k + 1)) (lv2 := [some (.ref 160), some (.int a), some (.int b), some (.int e), some (.int (nI (k + 1))), some (.int b)]) dX10_feed_85 rfl rfl (by decide) rfl (show nI k + nI 1 = nI (k + 1) by rw [nI_add]) rfl ?_
              refine j_goto (n := 18) dX10_feed_88 rfl ?_
              refine j_wk (lv2 := [some (.ref 160), some (.int a), some (.int b), some (.int e), some (.int (nI (k + 1))), none]) ⟨rfl, rfl, rfl, rfl, rfl, trivial⟩ ?_
              exact ih _ (by omega) (k + 1) rfl (by omega)
          · refine j_iload_n (n := 32) dX10_feed_31 rfl rfl ?_
            refine j_goto (n := 47) dX10_feed_32 rfl ?_
            refine j_istore (n := 49) (lv2 := [some (.ref 160), some (.int a), some (.int b), some (.int e), some (.int (nI k)), some (.int a)]) dX10_feed_47 rfl rfl (by decide) rfl ?_
            refine j_aload_n (n := 50) dX10_feed_49 rfl rfl ?_
            refine jm_get (n := 53) (k := 15) (b := 175) dX10_feed_50 rfl fX10_52 rfl (by decide) hk ?_
            refine j_aload_n (n := 54) dX10_feed_53 rfl rfl ?_
            refine jm_geti (n := 57) (k := 16) (v := nI (tN (M 160 16) + k)) dX10_feed_54 rfl fX10_211 hk (mF_16 M (tpF (M 175) (tN (M 160 16)) (bytV a b e) k) (tN (M 160 16) + k)) ?_
            refine j_iload (n := 59) dX10_feed_57 rfl rfl ?_
            refine j_bipush (n := 61) (v := nI 24) dX10_feed_59 rfl (by decide) ?_
            refine j_bipush (n := 63) (v := nI 8) dX10_feed_61 rfl (by decide) ?_
            refine j_iload (n := 65) dX10_feed_63 rfl rfl ?_
            refine j_iconst (n := 66) (v := nI 4) dX10_feed_65 rfl rfl ?_
            refine j_iremN (n := 67) (c := k % 4) dX10_feed_66 rfl (by omega) (by omega) (by omega) rfl ?_
            refine j_imulN (n := 68) (c := 8 * (k % 4)) dX10_feed_67 rfl rfl ?_
            refine j_isubN (n := 69) (c := 24 - (8 * (k % 4))) dX10_feed_68 rfl (by omega) (by omega) ?_
            refine j_ishr (n := 70) dX10_feed_69 rfl ?_
            refine j_sipush (n := 73) (v := nI 255) dX10_feed_70 rfl (by decide) ?_
            refine j_iand (n := 74) dX10_feed_73 rfl ?_
            have ev : bytV a b e k = (a >>> ((nI (24 - (8 * (k % 4)))) &&& 31)) &&& (nI 255) := by unfold bytV; repeat (first | rw [if_pos (by omega)] | rw [if_neg (by omega)])
            refine jm_ast (n := 75) (L := 96) (a := 175) (i := tN (M 160 16) + k) (x := (a >>> ((nI (24 - (8 * (k % 4)))) &&& 31)) &&& (nI 255)) (M2 := mm (mF M (tpF (M 175) (tN (M 160 16)) (bytV a b e) (k + 1)) (tN (M 160 16) + k)) p) dX10_feed_74 rfl hk rfl (by omega) (mm_wo (by decide) (by rw [mF_t, ← ev, tpF_s])) ?_
            refine j_aload_n (n := 76) dX10_feed_75 rfl rfl ?_
            refine j_dup (n := 77) dX10_feed_76 rfl rfl ?_
            refine jm_geti (n := 80) (k := 16) (v := nI (tN (M 160 16) + k)) dX10_feed_77 rfl fX10_211 hk (mF_16 M (tpF (M 175) (tN (M 160 16)) (bytV a b e) (k + 1)) (tN (M 160 16) + k)) ?_
            refine j_iconst (n := 81) (v := nI 1) dX10_feed_80 rfl rfl ?_
            refine j_iaddN (n := 82) (c := tN (M 160 16) + k + 1) dX10_feed_81 rfl rfl ?_
            refine jm_put (n := 85) (k := 16) (x := nI (tN (M 160 16) + k + 1)) (M2 := mm (mF M (tpF (M 175) (tN (M 160 16)) (bytV a b e) (k + 1)) (tN (M 160 16) + (k + 1))) p) dX10_feed_82 rfl pX10_211 rfl rfl hk (mm_wo (by decide) (by rw [mF_n]; rfl)) ?_
            refine j_iinc (n := 88) (y := nI (k + 1)) (lv2 := [some (.ref 160), some (.int a), some (.int b), some (.int e), some (.int (nI (k + 1))), some (.int a)]) dX10_feed_85 rfl rfl (by decide) rfl (show nI k + nI 1 = nI (k + 1) by rw [nI_add]) rfl ?_
            refine j_goto (n := 18) dX10_feed_88 rfl ?_
            refine j_wk (lv2 := [some (.ref 160), some (.int a), some (.int b), some (.int e), some (.int (nI (k + 1))), none]) ⟨rfl, rfl, rfl, rfl, rfl, trivial⟩ ?_
            exact ih _ (by omega) (k + 1) rfl (by omega)
    refine j_mem (M2 := mm (mF M (tpF (M 175) (tN (M 160 16)) (bytV a b e) 0) (tN (M 160 16) + 0)) p) (by rw [tpF_0, Nat.add_zero, mF_0 (nI_tN _).symm]) ?_
    exact loop _ 0 rfl (Nat.zero_le _)
  · refine j_ldc (n := 14) (v := -1000000003) dX10_feed_12 rfl kX10_94 ?_
    exact j_ri dX10_feed_14 rfl (Nat.le_refl _) (Nat.le_refl _) (by unfold r_feed; rw [if_pos (by omega)]) (by unfold m_feed; rw [if_pos (by omega)]) rfl
def likeN (p : Nat → Nat) (row : Nat → Int32) (k : Nat) : Nat → Nat
  | 0 => 0
  | n + 1 => likeN p row k n + (if ¬ (row n).toInt = -1000000005 ∧ (row n).toInt = (daysP p n (10 + 5 * k + 1) : Int) then 1 else 0)
theorem likeN_le (p : Nat → Nat) (row : Nat → Int32) (k : Nat) : ∀ n, likeN p row k n ≤ n
  | 0 => Nat.le_refl _
  | n + 1 => by
    have := likeN_le p row k n
    unfold likeN
    split <;> omega
def r_like (p : Nat → Nat) (sheet srt : Int32) (len : Nat) (row : Nat → Int32) (what : Int32) : Int32 := if ¬ ((0 ≤ sheet.toInt ∧ sheet.toInt ≤ 3) ∧ (0 ≤ what.toInt ∧ what.toInt ≤ 1)) then cBAD else if srt.toInt < 0 then cNOTHING else if (bst (-1) (fun k => likeN p row k len) (p 0)).1.toInt < 0 then cNONE else if what.toInt = 0 then (bst (-1) (fun k => likeN p row k len) (p 0)).1 else (bst (-1) (fun k => likeN p row k len) (p 0)).2
theorem c_likeOnes (d : Nat) (G : zG) (M : zMem) (X : zX) (hk : kM X) (p : Nat → Nat) (b : Nat) (hw : wf p b 9999) (hb : b ≤ 800000000) (q k : Nat) (hq : q < 4) (hlen : tN (M 165 q) ≤ 24) (hk1 : k < p 0) : zCall G miX10_likeOnes (d + 6) [.ref 160, .int (nI q), .int (nI k)] (zIr (fun r0 M1 X1 => r0 = nI (likeN p (fun i => M 166 (24 * q + i)) k (tN (M 165 q))) ∧ X1 = X ∧ ∃ M2, scw M M2 ∧ M1 = mm M2 p)) (mm M p) X 0 0 := by
  refine zCall.of (lv := [some (.ref 160), some (.int (nI q)), some (.int (nI k)), none, none, none]) (by decide) (Nat.le_of_ble_eq_true rfl) rfl ?_
  have h0 := hw.1.1
  refine j_aload_n (n := 1) dX10_likeOnes_0 rfl rfl ?_
  refine j_cVvr (n := 4) dX10_likeOnes_1 rfl sX10_200 (c_laysBy (d + 5) G _ _ hk _) (by omega) (by decide) rfl rfl (Nat.le_of_ble_eq_true rfl) (hk).2.1 (by decide) (kM_lt hk) (by decide) (by decide) (fun N1 Y1 hh1 => ?_)
  obtain ⟨e21, M_1, ⟨hs1, hc1⟩, e31⟩ := hh1
  rw [e21, e31]
  refine j_iconst (n := 5) (v := nI 0) dX10_likeOnes_4 rfl rfl ?_
  refine j_istore_n (n := 6) (lv2 := [some (.ref 160), some (.int (nI q)), some (.int (nI k)), some (.int (nI 0)), none, none]) dX10_likeOnes_5 rfl rfl (by decide) rfl ?_
  refine j_iconst (n := 7) (v := nI 0) dX10_likeOnes_6 rfl rfl ?_
  refine j_istore (n := 9) (lv2 := [some (.ref 160), some (.int (nI q)), some (.int (nI k)), some (.int (nI 0)), some (.int (nI 0)), none]) dX10_likeOnes_7 rfl rfl (by decide) rfl ?_
  have loop : ∀ (j n : Nat) (M1 : zMem), tN (M 165 q) - n = j → n ≤ tN (M 165 q) → scw M M1 → (∀ i, i < 100 → M1 174 i = nI (p i)) → zAt G miX10_likeOnes (zRm (d + 6) 0 0) (zQ G (zIr (fun r0 M1 X1 => r0 = nI (likeN p (fun i => M 166 (24 * q + i)) k (tN (M 165 q))) ∧ X1 = X ∧ ∃ M2, scw M M2 ∧ M1 = mm M2 p)) 0 0) 9 [some (.ref 160), some (.int (nI q)), some (.int (nI k)), some (.int (nI (likeN p (fun i => M 166 (24 * q + i)) k n))), some (.int (nI n)), none] [] (mm M1 (daysP p n)) X (0, 0) := by
    intro j
    induction j using Nat.strongRecOn with
    | ind j ih =>
      intro n M1 hj hn0 hsc hcl
      have hwd := wf_days hw n
      have hro := (hwd.1.2 k (by rw [days_0 hw]; exact hk1)).2.1
      have hll := likeN_le p (fun i => M 166 (24 * q + i)) k n
      refine j_iload (n := 11) dX10_likeOnes_9 rfl rfl ?_
      refine j_aload_n (n := 12) dX10_likeOnes_11 rfl rfl ?_
      refine jm_get (n := 15) (k := 5) (b := 165) dX10_likeOnes_12 rfl fX10_22 rfl (by decide) hk ?_
      refine j_iload_n (n := 16) dX10_likeOnes_15 rfl rfl ?_
      refine jm_ald (n := 17) (L := 4) (a := 165) (i := q) (v := nI (tN (M 165 q))) dX10_likeOnes_16 rfl hk rfl (by omega) ((congrFun (hsc 165 (by unfold scq; omega)) q).trans (nI_tN _).symm) ?_
      refine j_icmp_geT (n := 20) (tg := 70) dX10_likeOnes_17 rfl rfl (i_N (by omega)) (i_N (by omega)) (fun h2 => ?_) (fun h2 => ?_)
      · refine j_aload_n (n := 71) dX10_likeOnes_70 rfl rfl ?_
        refine j_cVv (n := 74) dX10_likeOnes_71 rfl sX10_203 (c_laysBack (d + 5) G _ _ hk p _ hcl) (by omega) (by decide) rfl rfl (Nat.le_of_ble_eq_true rfl) (hk).2.1 (by decide) (kM_lt hk) (by decide) (by decide) ?_
        refine j_mem (M2 := mm M1 p) (congrArg (mm _) (bkP_all (fun i hi => days_hi hw hi n))) ?_
        refine j_iload_n (n := 75) dX10_likeOnes_74 rfl rfl ?_
        exact j_iret dX10_likeOnes_75 rfl rfl (Nat.le_refl _) (Nat.le_refl _) ⟨_, rfl, (by rw [show tN (M 165 q) = n by omega]), rfl, _, hsc, rfl⟩
      · refine j_aload_n (n := 21) dX10_likeOnes_20 rfl rfl ?_
        refine jm_get (n := 24) (k := 6) (b := 166) dX10_likeOnes_21 rfl fX10_25 rfl (by decide) hk ?_
        refine j_bipush (n := 26) (v := nI 24) dX10_likeOnes_24 rfl (by decide) ?_
        refine j_iload_n (n := 27) dX10_likeOnes_26 rfl rfl ?_
        refine j_imulN (n := 28) (c := 24 * q) dX10_likeOnes_27 rfl rfl ?_
        refine j_iload (n := 30) dX10_likeOnes_28 rfl rfl ?_
        refine j_iaddN (n := 31) (c := 24 * q + n) dX10_likeOnes_30 rfl rfl ?_
        refine jm_ald (n := 32) (L := 96) (a := 166) (i := 24 * q + n) (v := M 166 (24 * q + n)) dX10_likeOnes_31 rfl hk rfl (by omega) (congrFun (hsc 166 (by unfold scq; omega)) _) ?_
        refine j_istore (n := 34) (lv2 := [some (.ref 160), some (.int (nI q)), some (.int (nI k)), some (.int (nI (likeN p (fun i => M 166 (24 * q + i)) k n))), some (.int (nI n)), some (.int (M 166 (24 * q + n)))]) dX10_likeOnes_32 rfl rfl (by decide) rfl ?_
        refine j_iload_n (n := 35) dX10_likeOnes_34 rfl rfl ?_
        refine j_iload (n := 37) dX10_likeOnes_35 rfl rfl ?_
        refine j_ldc (n := 39) (v := -1000000005) dX10_likeOnes_37 rfl kX10_70 ?_
        refine j_icmp_eqT (n := 42) (tg := 57) dX10_likeOnes_39 rfl rfl rfl (show Int32.toInt (-1000000005) = (-1000000005 : Int) from by decide) (fun h3 => ?_) (fun h3 => ?_)
        · refine j_iconst (n := 58) (v := nI 0) dX10_likeOnes_57 rfl rfl ?_
          refine j_iaddN (n := 59) (c := likeN p (fun i => M 166 (24 * q + i)) k n) dX10_likeOnes_58 rfl (by omega) ?_
          refine j_istore_n (n := 60) (lv2 := [some (.ref 160), some (.int (nI q)), some (.int (nI k)), some (.int (nI (likeN p (fun i => M 166 (24 * q + i)) k n))), some (.int (nI n)), some (.int (M 166 (24 * q + n)))]) dX10_likeOnes_59 rfl rfl (by decide) rfl ?_
          refine j_aload_n (n := 61) dX10_likeOnes_60 rfl rfl ?_
          refine j_cVvr (n := 64) dX10_likeOnes_61 rfl sX10_182 (c_goesOn d G _ _ hk _ _ _ (wf_days hw n) (by omega) (by omega)) (by omega) (by decide) rfl rfl (Nat.le_of_ble_eq_true rfl) (hk).2.1 (by decide) (kM_lt hk) (by decide) (by decide) (fun N4 Y4 hh4 => ?_)
          obtain ⟨e24, M_4, hs4, e34⟩ := hh4
          rw [e24, e34]
          refine j_iinc (n := 67) (y := nI (n + 1)) (lv2 := [some (.ref 160), some (.int (nI q)), some (.int (nI k)), some (.int (nI (likeN p (fun i => M 166 (24 * q + i)) k n))), some (.int (nI (n + 1))), some (.int (M 166 (24 * q + n)))]) dX10_likeOnes_64 rfl rfl (by decide) rfl (show nI n + nI 1 = nI (n + 1) by rw [nI_add]) rfl ?_
          refine j_goto (n := 9) dX10_likeOnes_67 rfl ?_
          have ec : likeN p (fun i => M 166 (24 * q + i)) k (n + 1) = likeN p (fun i => M 166 (24 * q + i)) k n := by first | (exfalso; omega) | (rw [likeN, if_pos (by omega)]; done) | (rw [likeN, if_neg (by omega), Nat.add_zero])
          refine j_lv (lv2 := [some (.ref 160), some (.int (nI q)), some (.int (nI k)), some (.int (nI (likeN p (fun i => M 166 (24 * q + i)) k (n + 1)))), some (.int (nI (n + 1))), some (.int (M 166 (24 * q + n)))]) (by rw [ec]) ?_
          refine j_wk (lv2 := [some (.ref 160), some (.int (nI q)), some (.int (nI k)), some (.int (nI (likeN p (fun i => M 166 (24 * q + i)) k (n + 1)))), some (.int (nI (n + 1))), none]) ⟨rfl, rfl, rfl, rfl, rfl, trivial⟩ ?_
          exact ih _ (by omega) (n + 1) _ rfl (by omega) ((hsc).tr hs4.w) (fun i hi => (congrFun (hs4 174 (by decide) (by decide)) i).trans (hcl i hi))
        · refine j_iload (n := 44) dX10_likeOnes_42 rfl rfl ?_
          refine j_aload_n (n := 45) dX10_likeOnes_44 rfl rfl ?_
          refine j_iload_n (n := 46) dX10_likeOnes_45 rfl rfl ?_
          refine j_iconst (n := 47) (v := nI 1) dX10_likeOnes_46 rfl rfl ?_
          refine j_cV (n := 50) dX10_likeOnes_47 rfl sX10_114 (c_of (d + 5) G _ _ hk _ k 1 (by omega)) (by omega) (by decide) rfl rfl (Nat.le_of_ble_eq_true rfl) (hk).2.1 (by decide) (kM_lt hk) (by decide) (by decide) ?_
          refine j_icmp_neT (n := 53) (tg := 57) dX10_likeOnes_50 rfl rfl rfl (i_N (by omega)) (fun h5 => ?_) (fun h5 => ?_)
          · refine j_iconst (n := 58) (v := nI 0) dX10_likeOnes_57 rfl rfl ?_
            refine j_iaddN (n := 59) (c := likeN p (fun i => M 166 (24 * q + i)) k n) dX10_likeOnes_58 rfl (by omega) ?_
            refine j_istore_n (n := 60) (lv2 := [some (.ref 160), some (.int (nI q)), some (.int (nI k)), some (.int (nI (likeN p (fun i => M 166 (24 * q + i)) k n))), some (.int (nI n)), some (.int (M 166 (24 * q + n)))]) dX10_likeOnes_59 rfl rfl (by decide) rfl ?_
            refine j_aload_n (n := 61) dX10_likeOnes_60 rfl rfl ?_
            refine j_cVvr (n := 64) dX10_likeOnes_61 rfl sX10_182 (c_goesOn d G _ _ hk _ _ _ (wf_days hw n) (by omega) (by omega)) (by omega) (by decide) rfl rfl (Nat.le_of_ble_eq_true rfl) (hk).2.1 (by decide) (kM_lt hk) (by decide) (by decide) (fun N6 Y6 hh6 => ?_)
            obtain ⟨e26, M_6, hs6, e36⟩ := hh6
            rw [e26, e36]
            refine j_iinc (n := 67) (y := nI (n + 1)) (lv2 := [some (.ref 160), some (.int (nI q)), some (.int (nI k)), some (.int (nI (likeN p (fun i => M 166 (24 * q + i)) k n))), some (.int (nI (n + 1))), some (.int (M 166 (24 * q + n)))]) dX10_likeOnes_64 rfl rfl (by decide) rfl (show nI n + nI 1 = nI (n + 1) by rw [nI_add]) rfl ?_
            refine j_goto (n := 9) dX10_likeOnes_67 rfl ?_
            have ec : likeN p (fun i => M 166 (24 * q + i)) k (n + 1) = likeN p (fun i => M 166 (24 * q + i)) k n := by first | (exfalso; omega) | (rw [likeN, if_pos (by omega)]; done) | (rw [likeN, if_neg (by omega), Nat.add_zero])
            refine j_lv (lv2 := [some (.ref 160), some (.int (nI q)), some (.int (nI k)), some (.int (nI (likeN p (fun i => M 166 (24 * q + i)) k (n + 1)))), some (.int (nI (n + 1))), some (.int (M 166 (24 * q + n)))]) (by rw [ec]) ?_
            refine j_wk (lv2 := [some (.ref 160), some (.int (nI q)), some (.int (nI k)), some (.int (nI (likeN p (fun i => M 166 (24 * q + i)) k (n + 1)))), some (.int (nI (n + 1))), none]) ⟨rfl, rfl, rfl, rfl, rfl, trivial⟩ ?_
            exact ih _ (by omega) (n + 1) _ rfl (by omega) ((hsc).tr hs6.w) (fun i hi => (congrFun (hs6 174 (by decide) (by decide)) i).trans (hcl i hi))
          · refine j_iconst (n := 54) (v := nI 1) dX10_likeOnes_53 rfl rfl ?_
            refine j_goto (n := 58) dX10_likeOnes_54 rfl ?_
            refine j_iaddN (n := 59) (c := likeN p (fun i => M 166 (24 * q + i)) k n + 1) dX10_likeOnes_58 rfl rfl ?_
            refine j_istore_n (n := 60) (lv2 := [some (.ref 160), some (.int (nI q)), some (.int (nI k)), some (.int (nI (likeN p (fun i => M 166 (24 * q + i)) k n + 1))), some (.int (nI n)), some (.int (M 166 (24 * q + n)))]) dX10_likeOnes_59 rfl rfl (by decide) rfl ?_
            refine j_aload_n (n := 61) dX10_likeOnes_60 rfl rfl ?_
            refine j_cVvr (n := 64) dX10_likeOnes_61 rfl sX10_182 (c_goesOn d G _ _ hk _ _ _ (wf_days hw n) (by omega) (by omega)) (by omega) (by decide) rfl rfl (Nat.le_of_ble_eq_true rfl) (hk).2.1 (by decide) (kM_lt hk) (by decide) (by decide) (fun N7 Y7 hh7 => ?_)
            obtain ⟨e27, M_7, hs7, e37⟩ := hh7
            rw [e27, e37]
            refine j_iinc (n := 67) (y := nI (n + 1)) (lv2 := [some (.ref 160), some (.int (nI q)), some (.int (nI k)), some (.int (nI (likeN p (fun i => M 166 (24 * q + i)) k n + 1))), some (.int (nI (n + 1))), some (.int (M 166 (24 * q + n)))]) dX10_likeOnes_64 rfl rfl (by decide) rfl (show nI n + nI 1 = nI (n + 1) by rw [nI_add]) rfl ?_
            refine j_goto (n := 9) dX10_likeOnes_67 rfl ?_
            have ec : likeN p (fun i => M 166 (24 * q + i)) k (n + 1) = likeN p (fun i => M 166 (24 * q + i)) k n + 1 := by first | (exfalso; omega) | (rw [likeN, if_pos (by omega)]; done) | (rw [likeN, if_neg (by omega), Nat.add_zero])
            refine j_lv (lv2 := [some (.ref 160), some (.int (nI q)), some (.int (nI k)), some (.int (nI (likeN p (fun i => M 166 (24 * q + i)) k (n + 1)))), some (.int (nI (n + 1))), some (.int (M 166 (24 * q + n)))]) (by rw [ec]) ?_
            refine j_wk (lv2 := [some (.ref 160), some (.int (nI q)), some (.int (nI k)), some (.int (nI (likeN p (fun i => M 166 (24 * q + i)) k (n + 1)))), some (.int (nI (n + 1))), none]) ⟨rfl, rfl, rfl, rfl, rfl, trivial⟩ ?_
            exact ih _ (by omega) (n + 1) _ rfl (by omega) ((hsc).tr hs7.w) (fun i hi => (congrFun (hs7 174 (by decide) (by decide)) i).trans (hcl i hi))
  refine j_wk (lv2 := [some (.ref 160), some (.int (nI q)), some (.int (nI k)), some (.int (nI 0)), some (.int (nI 0)), none]) ⟨rfl, rfl, rfl, rfl, rfl, trivial⟩ ?_
  exact loop _ 0 _ rfl (Nat.zero_le _) ((scw.rf M).tr hs1) hc1
theorem c_like (d : Nat) (G : zG) (M : zMem) (X : zX) (hk : kM X) (p : Nat → Nat) (hs : wfS M) (b : Nat) (hw : wf p b 9999) (hb : b ≤ 800000000) (sheet what : Int32) : zCall G miX10_like (d + 7) [.ref 160, .int sheet, .int what] (zIr (fun r0 M1 X1 => r0 = r_like p sheet (M 164 (tN sheet)) (tN (M 165 (tN sheet))) (fun i => M 166 (24 * tN sheet + i)) what ∧ X1 = X ∧ ∃ M2, scw M M2 ∧ M1 = mm M2 p)) (mm M p) X 0 0 := by
  refine zCall.of (lv := [some (.ref 160), some (.int sheet), some (.int what), none, none, none, none]) (by decide) (Nat.le_of_ble_eq_true rfl) rfl ?_
  have h0 := hw.1.1
  refine j_iload_n (n := 1) dX10_like_0 rfl rfl ?_
  refine j_cS (n := 4) dX10_like_1 rfl sX10_310 (c_isSheet (d + 5) G _ _ _) (by omega) (by decide) rfl rfl (Nat.le_of_ble_eq_true rfl) (by decide) (by decide) ?_
  refine j_if_eqB (n := 7) (tg := 17) dX10_like_4 rfl rfl (fun h1 => ?_) (fun h1 => ?_)
  · refine j_ldc (n := 19) (v := -1000000001) dX10_like_17 rfl kX10_93 ?_
    exact j_iret dX10_like_19 rfl rfl (Nat.le_refl _) (Nat.le_refl _) ⟨_, rfl, (by unfold r_like; first | (rw [if_pos (by omega)]; done) | (rw [eq, if_neg (by omega), if_pos (by omega)])), rfl, _, scw.rf M, rfl⟩
  · refine j_iload_n (n := 8) dX10_like_7 rfl rfl ?_
    refine j_i2l (n := 9) dX10_like_8 rfl ?_
    refine j_lconst (n := 10) (v := lN 0) dX10_like_9 rfl rfl ?_
    refine j_lconst (n := 11) (v := lN 1) dX10_like_10 rfl rfl ?_
    refine j_cS (n := 14) dX10_like_11 rfl sX10_71 (c_isInI (x := what.toInt) (a := 0) (b := 1) (d + 6) G _ _ _ _ _ (l_toInt _) rfl rfl) (by omega) (by decide) rfl rfl (Nat.le_of_ble_eq_true rfl) (by decide) (by decide) ?_
    refine j_if_neB (n := 17) (tg := 20) dX10_like_14 rfl rfl (fun h2 => ?_) (fun h2 => ?_)
    · obtain ⟨q, hq, rfl⟩ := i_of (x := sheet) (n := 4) (by omega) (by omega)
      have eq : tN (nI q) = q := tN_nI (by omega)
      have iq : (nI q).toInt = q := i_N (by omega)
      obtain ⟨u, hu, rfl⟩ := i_of (x := what) (n := 2) (by omega) (by omega)
      have eu : tN (nI u) = u := tN_nI (by omega)
      have iu : (nI u).toInt = u := i_N (by omega)
      have hq1 := hs q hq
      refine j_aload_n (n := 21) dX10_like_20 rfl rfl ?_
      refine jm_get (n := 24) (k := 4) (b := 164) dX10_like_21 rfl fX10_19 rfl (by decide) hk ?_
      refine j_iload_n (n := 25) dX10_like_24 rfl rfl ?_
      refine jm_ald (n := 26) (L := 4) (a := 164) (i := q) (v := M 164 q) dX10_like_25 rfl hk rfl (by omega) rfl ?_
      refine j_if_geT (n := 29) (tg := 33) dX10_like_26 rfl rfl (fun h3 => ?_) (fun h3 => ?_)
      · refine j_iconst (n := 34) (v := (-1)) dX10_like_33 rfl rfl ?_
        refine j_istore_n (n := 35) (lv2 := [some (.ref 160), some (.int (nI q)), some (.int (nI u)), some (.int (-1)), none, none, none]) dX10_like_34 rfl rfl (by decide) rfl ?_
        refine j_iconst (n := 36) (v := (-1)) dX10_like_35 rfl rfl ?_
        refine j_istore (n := 38) (lv2 := [some (.ref 160), some (.int (nI q)), some (.int (nI u)), some (.int (-1)), some (.int (-1)), none, none]) dX10_like_36 rfl rfl (by decide) rfl ?_
        refine j_iconst (n := 39) (v := nI 0) dX10_like_38 rfl rfl ?_
        refine j_istore (n := 41) (lv2 := [some (.ref 160), some (.int (nI q)), some (.int (nI u)), some (.int (-1)), some (.int (-1)), some (.int (nI 0)), none]) dX10_like_39 rfl rfl (by decide) rfl ?_
        have loop : ∀ (j k : Nat) (M1 : zMem), p 0 - k = j → k ≤ p 0 → scw M M1 → zAt G miX10_like (zRm (d + 7) 0 0) (zQ G (zIr (fun r0 M1 X1 => r0 = r_like p (nI q) (M 164 (tN (nI q))) (tN (M 165 (tN (nI q)))) (fun i => M 166 (24 * tN (nI q) + i)) (nI u) ∧ X1 = X ∧ ∃ M2, scw M M2 ∧ M1 = mm M2 p)) 0 0) 41 [some (.ref 160), some (.int (nI q)), some (.int (nI u)), some (.int ((bst (-1) (fun k => likeN p (fun i => M 166 (24 * q + i)) k (tN (M 165 q))) k).1)), some (.int ((bst (-1) (fun k => likeN p (fun i => M 166 (24 * q + i)) k (tN (M 165 q))) k).2)), some (.int (nI k)), none] [] (mm M1 p) X (0, 0) := by
          intro j
          induction j using Nat.strongRecOn with
          | ind j ih =>
            intro k M1 hj hk0 hsc
            have hll := likeN_le p (fun i => M 166 (24 * q + i)) k (tN (M 165 q))
            refine j_iload (n := 43) dX10_like_41 rfl rfl ?_
            refine j_aload_n (n := 44) dX10_like_43 rfl rfl ?_
            refine jm_get (n := 47) (k := 0) (b := 161) dX10_like_44 rfl fX10_7 rfl (by decide) hk ?_
            refine j_iconst (n := 48) (v := nI 0) dX10_like_47 rfl rfl ?_
            refine jm_ald (n := 49) (L := 3100) (a := 161) (i := 0) (v := nI (p 0)) dX10_like_48 rfl hk rfl (by omega) rfl ?_
            refine j_icmp_geT (n := 52) (tg := 97) dX10_like_49 rfl rfl (i_N (by omega)) (i_N (by omega)) (fun h4 => ?_) (fun h4 => ?_)
            · refine j_iload_n (n := 98) dX10_like_97 rfl rfl ?_
              refine j_if_geT (n := 101) (tg := 106) dX10_like_98 rfl rfl (fun h5 => ?_) (fun h5 => ?_)
              · refine j_iload_n (n := 107) dX10_like_106 rfl rfl ?_
                refine j_if_neN (n := 110) (tg := 114) dX10_like_107 rfl rfl (by omega) (fun h6 => ?_) (fun h6 => ?_)
                · refine j_iload (n := 116) dX10_like_114 rfl rfl ?_
                  exact j_iret dX10_like_116 rfl rfl (Nat.le_refl _) (Nat.le_refl _) ⟨_, rfl, (by unfold r_like; rw [eq, if_neg (by omega), if_neg (by omega), ← show k = p 0 by omega]; first | (rw [if_pos (by omega)]; done) | (rw [if_neg (by omega)]; first | rw [if_pos (by omega)] | rw [if_neg (by omega)])), rfl, _, hsc, rfl⟩
                · refine j_iload_n (n := 111) dX10_like_110 rfl rfl ?_
                  refine j_goto (n := 116) dX10_like_111 rfl ?_
                  exact j_iret dX10_like_116 rfl rfl (Nat.le_refl _) (Nat.le_refl _) ⟨_, rfl, (by unfold r_like; rw [eq, if_neg (by omega), if_neg (by omega), ← show k = p 0 by omega]; first | (rw [if_pos (by omega)]; done) | (rw [if_neg (by omega)]; first | rw [if_pos (by omega)] | rw [if_neg (by omega)])), rfl, _, hsc, rfl⟩
              · refine j_ldc (n := 103) (v := -1000000005) dX10_like_101 rfl kX10_70 ?_
                refine j_goto (n := 116) dX10_like_103 rfl ?_
                exact j_iret dX10_like_116 rfl rfl (Nat.le_refl _) (Nat.le_refl _) ⟨_, rfl, (by unfold r_like; rw [eq, if_neg (by omega), if_neg (by omega), ← show k = p 0 by omega]; first | (rw [if_pos (by omega)]; done) | (rw [if_neg (by omega)]; first | rw [if_pos (by omega)] | rw [if_neg (by omega)])), rfl, _, hsc, rfl⟩
            · refine j_aload_n (n := 53) dX10_like_52 rfl rfl ?_
              refine j_iload_n (n := 54) dX10_like_53 rfl rfl ?_
              refine j_iload (n := 56) dX10_like_54 rfl rfl ?_
              refine j_cVr (n := 59) dX10_like_56 rfl sX10_322 (c_likeOnes d G _ _ hk _ _ hw hb q k hq (by rw [congrFun (hsc 165 (by unfold scq; omega)) q]; omega) (by omega)) (by omega) (by decide) rfl rfl (Nat.le_of_ble_eq_true rfl) (hk).2.1 (by decide) (kM_lt hk) (by decide) (by decide) (fun r7 N7 Y7 hh7 => ?_)
              obtain ⟨e17, e27, M_7, hs7, e37⟩ := hh7
              rw [e17, e27, e37]
              rw [show (fun i => M1 166 (24 * q + i)) = (fun i => M 166 (24 * q + i)) from by rw [hsc 166 (by unfold scq; omega)], show M1 165 q = M 165 q from congrFun (hsc 165 (by unfold scq; omega)) q]
              refine j_istore (n := 61) (lv2 := [some (.ref 160), some (.int (nI q)), some (.int (nI u)), some (.int ((bst (-1) (fun k => likeN p (fun i => M 166 (24 * q + i)) k (tN (M 165 q))) k).1)), some (.int ((bst (-1) (fun k => likeN p (fun i => M 166 (24 * q + i)) k (tN (M 165 q))) k).2)), some (.int (nI k)), some (.int (nI (likeN p (fun i => M 166 (24 * q + i)) k (tN (M 165 q)))))]) dX10_like_59 rfl rfl (by decide) rfl ?_
              refine j_iload (n := 63) dX10_like_61 rfl rfl ?_
              refine j_iload (n := 65) dX10_like_63 rfl rfl ?_
              refine j_icmp_leT (n := 68) (tg := 73) dX10_like_65 rfl rfl (i_N (by omega)) rfl (fun h8 => ?_) (fun h8 => ?_)
              · refine j_iload_n (n := 74) dX10_like_73 rfl rfl ?_
                refine j_istore_n (n := 75) (lv2 := [some (.ref 160), some (.int (nI q)), some (.int (nI u)), some (.int ((bst (-1) (fun k => likeN p (fun i => M 166 (24 * q + i)) k (tN (M 165 q))) k).1)), some (.int ((bst (-1) (fun k => likeN p (fun i => M 166 (24 * q + i)) k (tN (M 165 q))) k).2)), some (.int (nI k)), some (.int (nI (likeN p (fun i => M 166 (24 * q + i)) k (tN (M 165 q)))))]) dX10_like_74 rfl rfl (by decide) rfl ?_
                refine j_iload (n := 77) dX10_like_75 rfl rfl ?_
                refine j_iload (n := 79) dX10_like_77 rfl rfl ?_
                refine j_icmp_leT (n := 82) (tg := 87) dX10_like_79 rfl rfl (i_N (by omega)) rfl (fun h9 => ?_) (fun h9 => ?_)
                · refine j_iload (n := 89) dX10_like_87 rfl rfl ?_
                  refine j_istore (n := 91) (lv2 := [some (.ref 160), some (.int (nI q)), some (.int (nI u)), some (.int ((bst (-1) (fun k => likeN p (fun i => M 166 (24 * q + i)) k (tN (M 165 q))) k).1)), some (.int ((bst (-1) (fun k => likeN p (fun i => M 166 (24 * q + i)) k (tN (M 165 q))) k).2)), some (.int (nI k)), some (.int (nI (likeN p (fun i => M 166 (24 * q + i)) k (tN (M 165 q)))))]) dX10_like_89 rfl rfl (by decide) rfl ?_
                  refine j_iinc (n := 94) (y := nI (k + 1)) (lv2 := [some (.ref 160), some (.int (nI q)), some (.int (nI u)), some (.int ((bst (-1) (fun k => likeN p (fun i => M 166 (24 * q + i)) k (tN (M 165 q))) k).1)), some (.int ((bst (-1) (fun k => likeN p (fun i => M 166 (24 * q + i)) k (tN (M 165 q))) k).2)), some (.int (nI (k + 1))), some (.int (nI (likeN p (fun i => M 166 (24 * q + i)) k (tN (M 165 q)))))]) dX10_like_91 rfl rfl (by decide) rfl (show nI k + nI 1 = nI (k + 1) by rw [nI_add]) rfl ?_
                  refine j_goto (n := 41) dX10_like_94 rfl ?_
                  have e1 : bst (-1) (fun k => likeN p (fun i => M 166 (24 * q + i)) k (tN (M 165 q))) (k + 1) = ((bst (-1) (fun k => likeN p (fun i => M 166 (24 * q + i)) k (tN (M 165 q))) k).1, (bst (-1) (fun k => likeN p (fun i => M 166 (24 * q + i)) k (tN (M 165 q))) k).2) := by first | (exfalso; omega) | (rw [bst, if_pos (by omega)]; done) | (rw [bst, if_neg (by omega)])
                  refine j_lv (lv2 := [some (.ref 160), some (.int (nI q)), some (.int (nI u)), some (.int ((bst (-1) (fun k => likeN p (fun i => M 166 (24 * q + i)) k (tN (M 165 q))) (k + 1)).1)), some (.int ((bst (-1) (fun k => likeN p (fun i => M 166 (24 * q + i)) k (tN (M 165 q))) (k + 1)).2)), some (.int (nI (k + 1))), some (.int (nI (likeN p (fun i => M 166 (24 * q + i)) k (tN (M 165 q)))))]) (by rw [e1]) ?_
                  refine j_wk (lv2 := [some (.ref 160), some (.int (nI q)), some (.int (nI u)), some (.int ((bst (-1) (fun k => likeN p (fun i => M 166 (24 * q + i)) k (tN (M 165 q))) (k + 1)).1)), some (.int ((bst (-1) (fun k => likeN p (fun i => M 166 (24 * q + i)) k (tN (M 165 q))) (k + 1)).2)), some (.int (nI (k + 1))), none]) ⟨rfl, rfl, rfl, rfl, rfl, rfl, trivial⟩ ?_
                  exact ih _ (by omega) (k + 1) _ rfl (by omega) ((hsc).tr hs7)
                · refine j_iload (n := 84) dX10_like_82 rfl rfl ?_
                  refine j_goto (n := 89) dX10_like_84 rfl ?_
                  refine j_istore (n := 91) (lv2 := [some (.ref 160), some (.int (nI q)), some (.int (nI u)), some (.int ((bst (-1) (fun k => likeN p (fun i => M 166 (24 * q + i)) k (tN (M 165 q))) k).1)), some (.int (nI (likeN p (fun i => M 166 (24 * q + i)) k (tN (M 165 q))))), some (.int (nI k)), some (.int (nI (likeN p (fun i => M 166 (24 * q + i)) k (tN (M 165 q)))))]) dX10_like_89 rfl rfl (by decide) rfl ?_
                  refine j_iinc (n := 94) (y := nI (k + 1)) (lv2 := [some (.ref 160), some (.int (nI q)), some (.int (nI u)), some (.int ((bst (-1) (fun k => likeN p (fun i => M 166 (24 * q + i)) k (tN (M 165 q))) k).1)), some (.int (nI (likeN p (fun i => M 166 (24 * q + i)) k (tN (M 165 q))))), some (.int (nI (k + 1))), some (.int (nI (likeN p (fun i => M 166 (24 * q + i)) k (tN (M 165 q)))))]) dX10_like_91 rfl rfl (by decide) rfl (show nI k + nI 1 = nI (k + 1) by rw [nI_add]) rfl ?_
                  refine j_goto (n := 41) dX10_like_94 rfl ?_
                  have e1 : bst (-1) (fun k => likeN p (fun i => M 166 (24 * q + i)) k (tN (M 165 q))) (k + 1) = ((bst (-1) (fun k => likeN p (fun i => M 166 (24 * q + i)) k (tN (M 165 q))) k).1, nI (likeN p (fun i => M 166 (24 * q + i)) k (tN (M 165 q)))) := by first | (exfalso; omega) | (rw [bst, if_pos (by omega)]; done) | (rw [bst, if_neg (by omega)])
                  refine j_lv (lv2 := [some (.ref 160), some (.int (nI q)), some (.int (nI u)), some (.int ((bst (-1) (fun k => likeN p (fun i => M 166 (24 * q + i)) k (tN (M 165 q))) (k + 1)).1)), some (.int ((bst (-1) (fun k => likeN p (fun i => M 166 (24 * q + i)) k (tN (M 165 q))) (k + 1)).2)), some (.int (nI (k + 1))), some (.int (nI (likeN p (fun i => M 166 (24 * q + i)) k (tN (M 165 q)))))]) (by rw [e1]) ?_
                  refine j_wk (lv2 := [some (.ref 160), some (.int (nI q)), some (.int (nI u)), some (.int ((bst (-1) (fun k => likeN p (fun i => M 166 (24 * q + i)) k (tN (M 165 q))) (k + 1)).1)), some (.int ((bst (-1) (fun k => likeN p (fun i => M 166 (24 * q + i)) k (tN (M 165 q))) (k + 1)).2)), some (.int (nI (k + 1))), none]) ⟨rfl, rfl, rfl, rfl, rfl, rfl, trivial⟩ ?_
                  exact ih _ (by omega) (k + 1) _ rfl (by omega) ((hsc).tr hs7)
              · refine j_iload (n := 70) dX10_like_68 rfl rfl ?_
                refine j_goto (n := 74) dX10_like_70 rfl ?_
                refine j_istore_n (n := 75) (lv2 := [some (.ref 160), some (.int (nI q)), some (.int (nI u)), some (.int (nI k)), some (.int ((bst (-1) (fun k => likeN p (fun i => M 166 (24 * q + i)) k (tN (M 165 q))) k).2)), some (.int (nI k)), some (.int (nI (likeN p (fun i => M 166 (24 * q + i)) k (tN (M 165 q)))))]) dX10_like_74 rfl rfl (by decide) rfl ?_
                refine j_iload (n := 77) dX10_like_75 rfl rfl ?_
                refine j_iload (n := 79) dX10_like_77 rfl rfl ?_
                refine j_icmp_leT (n := 82) (tg := 87) dX10_like_79 rfl rfl (i_N (by omega)) rfl (fun h10 => ?_) (fun h10 => ?_)
                · refine j_iload (n := 89) dX10_like_87 rfl rfl ?_
                  refine j_istore (n := 91) (lv2 := [some (.ref 160), some (.int (nI q)), some (.int (nI u)), some (.int (nI k)), some (.int ((bst (-1) (fun k => likeN p (fun i => M 166 (24 * q + i)) k (tN (M 165 q))) k).2)), some (.int (nI k)), some (.int (nI (likeN p (fun i => M 166 (24 * q + i)) k (tN (M 165 q)))))]) dX10_like_89 rfl rfl (by decide) rfl ?_
                  refine j_iinc (n := 94) (y := nI (k + 1)) (lv2 := [some (.ref 160), some (.int (nI q)), some (.int (nI u)), some (.int (nI k)), some (.int ((bst (-1) (fun k => likeN p (fun i => M 166 (24 * q + i)) k (tN (M 165 q))) k).2)), some (.int (nI (k + 1))), some (.int (nI (likeN p (fun i => M 166 (24 * q + i)) k (tN (M 165 q)))))]) dX10_like_91 rfl rfl (by decide) rfl (show nI k + nI 1 = nI (k + 1) by rw [nI_add]) rfl ?_
                  refine j_goto (n := 41) dX10_like_94 rfl ?_
                  have e1 : bst (-1) (fun k => likeN p (fun i => M 166 (24 * q + i)) k (tN (M 165 q))) (k + 1) = (nI k, (bst (-1) (fun k => likeN p (fun i => M 166 (24 * q + i)) k (tN (M 165 q))) k).2) := by first | (exfalso; omega) | (rw [bst, if_pos (by omega)]; done) | (rw [bst, if_neg (by omega)])
                  refine j_lv (lv2 := [some (.ref 160), some (.int (nI q)), some (.int (nI u)), some (.int ((bst (-1) (fun k => likeN p (fun i => M 166 (24 * q + i)) k (tN (M 165 q))) (k + 1)).1)), some (.int ((bst (-1) (fun k => likeN p (fun i => M 166 (24 * q + i)) k (tN (M 165 q))) (k + 1)).2)), some (.int (nI (k + 1))), some (.int (nI (likeN p (fun i => M 166 (24 * q + i)) k (tN (M 165 q)))))]) (by rw [e1]) ?_
                  refine j_wk (lv2 := [some (.ref 160), some (.int (nI q)), some (.int (nI u)), some (.int ((bst (-1) (fun k => likeN p (fun i => M 166 (24 * q + i)) k (tN (M 165 q))) (k + 1)).1)), some (.int ((bst (-1) (fun k => likeN p (fun i => M 166 (24 * q + i)) k (tN (M 165 q))) (k + 1)).2)), some (.int (nI (k + 1))), none]) ⟨rfl, rfl, rfl, rfl, rfl, rfl, trivial⟩ ?_
                  exact ih _ (by omega) (k + 1) _ rfl (by omega) ((hsc).tr hs7)
                · refine j_iload (n := 84) dX10_like_82 rfl rfl ?_
                  refine j_goto (n := 89) dX10_like_84 rfl ?_
                  refine j_istore (n := 91) (lv2 := [some (.ref 160), some (.int (nI q)), some (.int (nI u)), some (.int (nI k)), some (.int (nI (likeN p (fun i => M 166 (24 * q + i)) k (tN (M 165 q))))), some (.int (nI k)), some (.int (nI (likeN p (fun i => M 166 (24 * q + i)) k (tN (M 165 q)))))]) dX10_like_89 rfl rfl (by decide) rfl ?_
                  refine j_iinc (n := 94) (y := nI (k + 1)) (lv2 := [some (.ref 160), some (.int (nI q)), some (.int (nI u)), some (.int (nI k)), some (.int (nI (likeN p (fun i => M 166 (24 * q + i)) k (tN (M 165 q))))), some (.int (nI (k + 1))), some (.int (nI (likeN p (fun i => M 166 (24 * q + i)) k (tN (M 165 q)))))]) dX10_like_91 rfl rfl (by decide) rfl (show nI k + nI 1 = nI (k + 1) by rw [nI_add]) rfl ?_
                  refine j_goto (n := 41) dX10_like_94 rfl ?_
                  have e1 : bst (-1) (fun k => likeN p (fun i => M 166 (24 * q + i)) k (tN (M 165 q))) (k + 1) = (nI k, nI (likeN p (fun i => M 166 (24 * q + i)) k (tN (M 165 q)))) := by first | (exfalso; omega) | (rw [bst, if_pos (by omega)]; done) | (rw [bst, if_neg (by omega)])
                  refine j_lv (lv2 := [some (.ref 160), some (.int (nI q)), some (.int (nI u)), some (.int ((bst (-1) (fun k => likeN p (fun i => M 166 (24 * q + i)) k (tN (M 165 q))) (k + 1)).1)), some (.int ((bst (-1) (fun k => likeN p (fun i => M 166 (24 * q + i)) k (tN (M 165 q))) (k + 1)).2)), some (.int (nI (k + 1))), some (.int (nI (likeN p (fun i => M 166 (24 * q + i)) k (tN (M 165 q)))))]) (by rw [e1]) ?_
                  refine j_wk (lv2 := [some (.ref 160), some (.int (nI q)), some (.int (nI u)), some (.int ((bst (-1) (fun k => likeN p (fun i => M 166 (24 * q + i)) k (tN (M 165 q))) (k + 1)).1)), some (.int ((bst (-1) (fun k => likeN p (fun i => M 166 (24 * q + i)) k (tN (M 165 q))) (k + 1)).2)), some (.int (nI (k + 1))), none]) ⟨rfl, rfl, rfl, rfl, rfl, rfl, trivial⟩ ?_
                  exact ih _ (by omega) (k + 1) _ rfl (by omega) ((hsc).tr hs7)
        refine j_wk (lv2 := [some (.ref 160), some (.int (nI q)), some (.int (nI u)), some (.int ((bst (-1) (fun k => likeN p (fun i => M 166 (24 * q + i)) k (tN (M 165 q))) 0).1)), some (.int ((bst (-1) (fun k => likeN p (fun i => M 166 (24 * q + i)) k (tN (M 165 q))) 0).2)), some (.int (nI 0)), none]) ⟨rfl, rfl, rfl, rfl, rfl, rfl, trivial⟩ ?_
        exact loop _ 0 M rfl (Nat.zero_le _) (scw.rf M)
      · refine j_ldcw (n := 32) (v := -1000000011) dX10_like_29 rfl kX10_316 ?_
        exact j_iret dX10_like_32 rfl rfl (Nat.le_refl _) (Nat.le_refl _) ⟨_, rfl, (by unfold r_like; first | (rw [if_pos (by omega)]; done) | (rw [eq, if_neg (by omega), if_pos (by omega)])), rfl, _, scw.rf M, rfl⟩
    · refine j_ldc (n := 19) (v := -1000000001) dX10_like_17 rfl kX10_93 ?_
      exact j_iret dX10_like_19 rfl rfl (Nat.le_refl _) (Nat.le_refl _) ⟨_, rfl, (by unfold r_like; first | (rw [if_pos (by omega)]; done) | (rw [eq, if_neg (by omega), if_pos (by omega)])), rfl, _, scw.rf M, rfl⟩
