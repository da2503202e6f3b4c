-- MODEL J: by program (wip/whole/gen/b10.py)
def r_tell (w : Nat) : Int32 := if w = 60 then cFULL else nI (w + 1)
def m_tell (M : zMem) (v : Int32) : zMem := if tN (M 160 31) = 60 then M else zs (zs M 179 (upd (M 179) (tN (M 160 31)) v)) 160 (upd (M 160) 31 (nI (tN (M 160 31) + 1)))
def r_trim (l : Nat) (n : Int32) : Int32 := if ¬ (0 ≤ n.toInt ∧ n.toInt ≤ (l : Int)) then cBAD else n
def m_trim (M : zMem) (n : Int32) : zMem := if ¬ (0 ≤ n.toInt ∧ n.toInt ≤ (tN (M 160 16) : Int)) then M else zs M 160 (upd (M 160) 16 n)
def r_textTold (p : Nat → Nat) (t what : Int32) : Int32 := if ¬ ((0 ≤ t.toInt ∧ t.toInt ≤ (p 1 : Int) - 1) ∧ (0 ≤ what.toInt ∧ what.toInt ≤ 1)) then cBAD else nI (p (100 + 200 * tN t + tN what))
def r_count (p : Nat → Nat) (w l : Nat) (what : Int32) : Int32 := if what.toInt = 0 then nI (p 0) else if what.toInt = 1 then nI (p 2) else if what.toInt = 2 then nI (p 8) else if what.toInt = 3 then nI (p 6) else if what.toInt = 4 then nI (p 7) else if what.toInt = 5 then nI (p 1) else if what.toInt = 6 then nI w else if what.toInt = 7 then nI l else if what.toInt = 8 then nI (p 9) else cBAD
theorem c_tell (d : Nat) (G : zG) (M : zMem) (X : zX) (hk : kM X) (p : Nat → Nat) (hwt : tN (M 160 31) ≤ 60) (v : Int32) : zCall G miX10_tell (d + 0) [.ref 160, .int v] (zI (r_tell (tN (M 160 31))) (mm (m_tell M v) p) X) (mm M p) X 0 0 := by
  refine zCall.of (lv := [some (.ref 160), some (.int v)]) (by decide) (Nat.le_of_ble_eq_true rfl) rfl ?_
  refine j_aload_n (n := 1) dX10_tell_0 rfl rfl ?_
  refine jm_geti (n := 4) (k := 31) (v := nI (tN (M 160 31))) dX10_tell_1 rfl fX10_328 hk (nI_tN (M 160 31)).symm ?_
  refine j_bipush (n := 6) (v := nI 60) dX10_tell_4 rfl (by decide) ?_
  refine j_icmp_neT (n := 9) (tg := 12) dX10_tell_6 rfl rfl (i_N (by omega)) (i_N (by omega)) (fun h1 => ?_) (fun h1 => ?_)
  · refine j_aload_n (n := 13) dX10_tell_12 rfl rfl ?_
    refine jm_get (n := 16) (k := 30) (b := 179) dX10_tell_13 rfl fX10_64 rfl (by decide) hk ?_
    refine j_aload_n (n := 17) dX10_tell_16 rfl rfl ?_
    refine jm_geti (n := 20) (k := 31) (v := nI (tN (M 160 31))) dX10_tell_17 rfl fX10_328 hk (nI_tN (M 160 31)).symm ?_
    refine j_iload_n (n := 21) dX10_tell_20 rfl rfl ?_
    refine jm_ast (n := 22) (L := 60) (a := 179) (i := tN (M 160 31)) (x := v) (M2 := mm (zs M 179 (upd (M 179) (tN (M 160 31)) v)) p) dX10_tell_21 rfl hk rfl (by omega) (mm_wo (by decide) rfl) ?_
    refine j_aload_n (n := 23) dX10_tell_22 rfl rfl ?_
    refine j_dup (n := 24) dX10_tell_23 rfl rfl ?_
    refine jm_geti (n := 27) (k := 31) (v := nI (tN (M 160 31))) dX10_tell_24 rfl fX10_328 hk ((show _ = M 160 31 from (by simp [mm, zs])).trans (nI_tN (M 160 31)).symm) ?_
    refine j_iconst (n := 28) (v := nI 1) dX10_tell_27 rfl rfl ?_
    refine j_iaddN (n := 29) (c := tN (M 160 31) + 1) dX10_tell_28 rfl rfl ?_
    refine jm_put (n := 32) (k := 31) (x := nI (tN (M 160 31) + 1)) (M2 := mm (zs (zs M 179 (upd (M 179) (tN (M 160 31)) v)) 160 (upd (M 160) 31 (nI (tN (M 160 31) + 1)))) p) dX10_tell_29 rfl pX10_328 rfl rfl hk (mm_wo (by decide) (congrArg (fun f => zs _ _ (upd f _ _)) (show _ = _ from by simp [zs]))) ?_
    refine j_aload_n (n := 33) dX10_tell_32 rfl rfl ?_
    refine jm_geti (n := 36) (k := 31) (v := nI (tN (M 160 31) + 1)) dX10_tell_33 rfl fX10_328 hk (by simp [mm, zs, upd]) ?_
    exact j_ri dX10_tell_36 rfl (Nat.le_refl _) (Nat.le_refl _) (by unfold r_tell; first | rw [if_pos (by omega)] | rw [if_neg (by omega)]) (by unfold m_tell; first | rw [if_pos (by omega)] | rw [if_neg (by omega)]) rfl
  · refine j_ldc (n := 11) (v := -1000000003) dX10_tell_9 rfl kX10_94 ?_
    exact j_ri dX10_tell_11 rfl (Nat.le_refl _) (Nat.le_refl _) (by unfold r_tell; first | rw [if_pos (by omega)] | rw [if_neg (by omega)]) (by unfold m_tell; first | rw [if_pos (by omega)] | rw [if_neg (by omega)]) rfl
theorem c_trim (d : Nat) (G : zG) (M : zMem) (X : zX) (hk : kM X) (p : Nat → Nat) (hwt : tN (M 160 16) ≤ 96) (n : Int32) : zCall G miX10_trim (d + 1) [.ref 160, .int n] (zI (r_trim (tN (M 160 16)) n) (mm (m_trim M n) p) X) (mm M p) X 0 0 := by
  refine zCall.of (lv := [some (.ref 160), some (.int n)]) (by decide) (Nat.le_of_ble_eq_true rfl) rfl ?_
  refine j_iload_n (n := 1) dX10_trim_0 rfl rfl ?_
  refine j_i2l (n := 2) dX10_trim_1 rfl ?_
  refine j_lconst (n := 3) (v := lN 0) dX10_trim_2 rfl rfl ?_
  refine j_aload_n (n := 4) dX10_trim_3 rfl rfl ?_
  refine jm_geti (n := 7) (k := 16) (v := nI (tN (M 160 16))) dX10_trim_4 rfl fX10_211 hk (nI_tN (M 160 16)).symm ?_
  refine j_i2l (n := 8) dX10_trim_7 rfl ?_
  refine j_cS (n := 11) dX10_trim_8 rfl sX10_71 (c_isInI (x := n.toInt) (a := 0) (b := (((tN (M 160 16)) : Nat) : Int)) d G _ _ _ _ _ (l_toInt _) rfl ((l_toInt _).trans (i_N (by omega)))) (by omega) (by decide) rfl rfl (Nat.le_of_ble_eq_true rfl) (by decide) (by decide) ?_
  refine j_if_neB (n := 14) (tg := 17) dX10_trim_11 rfl rfl (fun h1 => ?_) (fun h1 => ?_)
  · refine j_aload_n (n := 18) dX10_trim_17 rfl rfl ?_
    refine j_iload_n (n := 19) dX10_trim_18 rfl rfl ?_
    refine jm_put (n := 22) (k := 16) (x := n) (M2 := mm (zs M 160 (upd (M 160) 16 n)) p) dX10_trim_19 rfl pX10_211 rfl rfl hk (mm_wo (by decide) rfl) ?_
    refine j_iload_n (n := 23) dX10_trim_22 rfl rfl ?_
    exact j_ri dX10_trim_23 rfl (Nat.le_refl _) (Nat.le_refl _) (by unfold r_trim; first | rw [if_pos (by omega)] | rw [if_neg (by omega)]) (by unfold m_trim; first | rw [if_pos (by omega)] | rw [if_neg (by omega)]) rfl
  · refine j_ldc (n := 16) (v := -1000000001) dX10_trim_14 rfl kX10_93 ?_
    exact j_ri dX10_trim_16 rfl (Nat.le_refl _) (Nat.le_refl _) (by unfold r_trim; first | rw [if_pos (by omega)] | rw [if_neg (by omega)]) (by unfold m_trim; first | rw [if_pos (by omega)] | rw [if_neg (by omega)]) rfl
theorem c_textTold (d : Nat) (G : zG) (M : zMem) (X : zX) (hk : kM X) (p : Nat → Nat) (hw1 : p 1 ≤ 14) (t what : Int32) : zCall G miX10_textTold (d + 2) [.ref 160, .int t, .int what] (zI (r_textTold p t what) (mm M p) X) (mm M p) X 0 0 := by
  refine zCall.of (lv := [some (.ref 160), some (.int t), some (.int what)]) (by decide) (Nat.le_of_ble_eq_true rfl) rfl ?_
  refine j_aload_n (n := 1) dX10_textTold_0 rfl rfl ?_
  refine j_iload_n (n := 2) dX10_textTold_1 rfl rfl ?_
  refine j_cV (n := 5) dX10_textTold_2 rfl sX10_301 (c_isText d G _ _ hk _ (by omega) _) (by omega) (by decide) rfl rfl (Nat.le_of_ble_eq_true rfl) (hk).2.1 (by decide) (kM_lt hk) (by decide) (by decide) ?_
  refine j_if_eqB (n := 8) (tg := 18) dX10_textTold_5 rfl rfl (fun h1 => ?_) (fun h1 => ?_)
  · refine j_ldc (n := 20) (v := -1000000001) dX10_textTold_18 rfl kX10_93 ?_
    exact j_ri dX10_textTold_20 rfl (Nat.le_refl _) (Nat.le_refl _) (by unfold r_textTold; (try simp only [eq, eu]); repeat (first | rw [if_pos (by omega)] | rw [if_neg (by omega)])) rfl rfl
  · refine j_iload_n (n := 9) dX10_textTold_8 rfl rfl ?_
    refine j_i2l (n := 10) dX10_textTold_9 rfl ?_
    refine j_lconst (n := 11) (v := lN 0) dX10_textTold_10 rfl rfl ?_
    refine j_lconst (n := 12) (v := lN 1) dX10_textTold_11 rfl rfl ?_
    refine j_cS (n := 15) dX10_textTold_12 rfl sX10_71 (c_isInI (x := what.toInt) (a := 0) (b := 1) (d + 1) G _ _ _ _ _ (l_toInt _) rfl rfl) (by omega) (by decide) rfl rfl (Nat.le_of_ble_eq_true rfl) (by decide) (by decide) ?_
    refine j_if_neB (n := 18) (tg := 21) dX10_textTold_15 rfl rfl (fun h2 => ?_) (fun h2 => ?_)
    · obtain ⟨q, hq, rfl⟩ := i_of (x := t) (n := p 1) (by omega) (by omega)
      have eq : tN (nI q) = q := tN_nI (by omega)
      have iq : (nI q).toInt = q := i_N (by omega)
      obtain ⟨u, hu, rfl⟩ := i_of (x := what) (n := 2) (by omega) (by omega)
      have eu : tN (nI u) = u := tN_nI (by omega)
      have iu : (nI u).toInt = u := i_N (by omega)
      refine j_aload_n (n := 22) dX10_textTold_21 rfl rfl ?_
      refine jm_get (n := 25) (k := 0) (b := 161) dX10_textTold_22 rfl fX10_7 rfl (by decide) hk ?_
      refine j_aload_n (n := 26) dX10_textTold_25 rfl rfl ?_
      refine j_iload_n (n := 27) dX10_textTold_26 rfl rfl ?_
      refine j_cV (n := 30) dX10_textTold_27 rfl sX10_292 (c_textAt (d + 1) G _ _ q) (by omega) (by decide) rfl rfl (Nat.le_of_ble_eq_true rfl) (hk).2.1 (by decide) (kM_lt hk) (by decide) (by decide) ?_
      refine j_iload_n (n := 31) dX10_textTold_30 rfl rfl ?_
      refine j_iaddN (n := 32) (c := 100 + 200 * q + u) dX10_textTold_31 rfl rfl ?_
      refine jm_ald (n := 33) (L := 3100) (a := 161) (i := 100 + 200 * q + u) (v := nI (p (100 + 200 * q + u))) dX10_textTold_32 rfl hk rfl (by omega) rfl ?_
      exact j_ri dX10_textTold_33 rfl (Nat.le_refl _) (Nat.le_refl _) (by unfold r_textTold; (try simp only [eq, eu]); repeat (first | rw [if_pos (by omega)] | rw [if_neg (by omega)])) rfl rfl
    · refine j_ldc (n := 20) (v := -1000000001) dX10_textTold_18 rfl kX10_93 ?_
      exact j_ri dX10_textTold_20 rfl (Nat.le_refl _) (Nat.le_refl _) (by unfold r_textTold; (try simp only [eq, eu]); repeat (first | rw [if_pos (by omega)] | rw [if_neg (by omega)])) rfl rfl
theorem c_count (d : Nat) (G : zG) (M : zMem) (X : zX) (hk : kM X) (p : Nat → Nat) (what : Int32) : zCall G miX10_count (d + 0) [.ref 160, .int what] (zI (r_count p (tN (M 160 31)) (tN (M 160 16)) what) (mm M p) X) (mm M p) X 0 0 := by
  refine zCall.of (lv := [some (.ref 160), some (.int what)]) (by decide) (Nat.le_of_ble_eq_true rfl) rfl ?_
  refine j_iload_n (n := 1) dX10_count_0 rfl rfl ?_
  have hs1 : (what).toInt = 0 ∨ (what).toInt = 1 ∨ (what).toInt = 2 ∨ (what).toInt = 3 ∨ (what).toInt = 4 ∨ (what).toInt = 5 ∨ (what).toInt = 6 ∨ (what).toInt = 7 ∨ (what).toInt = 8 ∨ ((what).toInt < 0 ∨ 8 < (what).toInt) := by omega
  rcases hs1 with hs1 | hs1 | hs1 | hs1 | hs1 | hs1 | hs1 | hs1 | hs1 | hs1
  · refine j_tabIn (i := 0) (off := 51) (tg := 52) dX10_count_1 (by omega) (by decide) rfl rfl ?_
    refine j_aload_n (n := 53) dX10_count_52 rfl rfl ?_
    refine jm_get (n := 56) (k := 0) (b := 161) dX10_count_53 rfl fX10_7 rfl (by decide) hk ?_
    refine j_iconst (n := 57) (v := nI 0) dX10_count_56 rfl rfl ?_
    refine jm_ald (n := 58) (L := 3100) (a := 161) (i := 0) (v := nI (p 0)) dX10_count_57 rfl hk rfl (by omega) rfl ?_
    exact j_ri dX10_count_58 rfl (Nat.le_refl _) (Nat.le_refl _) (by unfold r_count; repeat (first | rw [if_pos (by omega)] | rw [if_neg (by omega)])) rfl rfl
  · refine j_tabIn (i := 1) (off := 58) (tg := 59) dX10_count_1 (by omega) (by decide) rfl rfl ?_
    refine j_aload_n (n := 60) dX10_count_59 rfl rfl ?_
    refine jm_get (n := 63) (k := 0) (b := 161) dX10_count_60 rfl fX10_7 rfl (by decide) hk ?_
    refine j_iconst (n := 64) (v := nI 2) dX10_count_63 rfl rfl ?_
    refine jm_ald (n := 65) (L := 3100) (a := 161) (i := 2) (v := nI (p 2)) dX10_count_64 rfl hk rfl (by omega) rfl ?_
    exact j_ri dX10_count_65 rfl (Nat.le_refl _) (Nat.le_refl _) (by unfold r_count; repeat (first | rw [if_pos (by omega)] | rw [if_neg (by omega)])) rfl rfl
  · refine j_tabIn (i := 2) (off := 65) (tg := 66) dX10_count_1 (by omega) (by decide) rfl rfl ?_
    refine j_aload_n (n := 67) dX10_count_66 rfl rfl ?_
    refine jm_get (n := 70) (k := 0) (b := 161) dX10_count_67 rfl fX10_7 rfl (by decide) hk ?_
    refine j_bipush (n := 72) (v := nI 8) dX10_count_70 rfl (by decide) ?_
    refine jm_ald (n := 73) (L := 3100) (a := 161) (i := 8) (v := nI (p 8)) dX10_count_72 rfl hk rfl (by omega) rfl ?_
    exact j_ri dX10_count_73 rfl (Nat.le_refl _) (Nat.le_refl _) (by unfold r_count; repeat (first | rw [if_pos (by omega)] | rw [if_neg (by omega)])) rfl rfl
  · refine j_tabIn (i := 3) (off := 73) (tg := 74) dX10_count_1 (by omega) (by decide) rfl rfl ?_
    refine j_aload_n (n := 75) dX10_count_74 rfl rfl ?_
    refine jm_get (n := 78) (k := 0) (b := 161) dX10_count_75 rfl fX10_7 rfl (by decide) hk ?_
    refine j_bipush (n := 80) (v := nI 6) dX10_count_78 rfl (by decide) ?_
    refine jm_ald (n := 81) (L := 3100) (a := 161) (i := 6) (v := nI (p 6)) dX10_count_80 rfl hk rfl (by omega) rfl ?_
    exact j_ri dX10_count_81 rfl (Nat.le_refl _) (Nat.le_refl _) (by unfold r_count; repeat (first | rw [if_pos (by omega)] | rw [if_neg (by omega)])) rfl rfl
  · refine j_tabIn (i := 4) (off := 81) (tg := 82) dX10_count_1 (by omega) (by decide) rfl rfl ?_
    refine j_aload_n (n := 83) dX10_count_82 rfl rfl ?_
    refine jm_get (n := 86) (k := 0) (b := 161) dX10_count_83 rfl fX10_7 rfl (by decide) hk ?_
    refine j_bipush (n := 88) (v := nI 7) dX10_count_86 rfl (by decide) ?_
    refine jm_ald (n := 89) (L := 3100) (a := 161) (i := 7) (v := nI (p 7)) dX10_count_88 rfl hk rfl (by omega) rfl ?_
    exact j_ri dX10_count_89 rfl (Nat.le_refl _) (Nat.le_refl _) (by unfold r_count; repeat (first | rw [if_pos (by omega)] | rw [if_neg (by omega)])) rfl rfl
  · refine j_tabIn (i := 5) (off := 89) (tg := 90) dX10_count_1 (by omega) (by decide) rfl rfl ?_
    refine j_aload_n (n := 91) dX10_count_90 rfl rfl ?_
    refine jm_get (n := 94) (k := 0) (b := 161) dX10_count_91 rfl fX10_7 rfl (by decide) hk ?_
    refine j_iconst (n := 95) (v := nI 1) dX10_count_94 rfl rfl ?_
    refine jm_ald (n := 96) (L := 3100) (a := 161) (i := 1) (v := nI (p 1)) dX10_count_95 rfl hk rfl (by omega) rfl ?_
    exact j_ri dX10_count_96 rfl (Nat.le_refl _) (Nat.le_refl _) (by unfold r_count; repeat (first | rw [if_pos (by omega)] | rw [if_neg (by omega)])) rfl rfl
  · refine j_tabIn (i := 6) (off := 96) (tg := 97) dX10_count_1 (by omega) (by decide) rfl rfl ?_
    refine j_aload_n (n := 98) dX10_count_97 rfl rfl ?_
    refine jm_geti (n := 101) (k := 31) (v := nI (tN (M 160 31))) dX10_count_98 rfl fX10_328 hk (nI_tN (M 160 31)).symm ?_
    exact j_ri dX10_count_101 rfl (Nat.le_refl _) (Nat.le_refl _) (by unfold r_count; repeat (first | rw [if_pos (by omega)] | rw [if_neg (by omega)])) rfl rfl
  · refine j_tabIn (i := 7) (off := 101) (tg := 102) dX10_count_1 (by omega) (by decide) rfl rfl ?_
    refine j_aload_n (n := 103) dX10_count_102 rfl rfl ?_
    refine jm_geti (n := 106) (k := 16) (v := nI (tN (M 160 16))) dX10_count_103 rfl fX10_211 hk (nI_tN (M 160 16)).symm ?_
    exact j_ri dX10_count_106 rfl (Nat.le_refl _) (Nat.le_refl _) (by unfold r_count; repeat (first | rw [if_pos (by omega)] | rw [if_neg (by omega)])) rfl rfl
  · refine j_tabIn (i := 8) (off := 106) (tg := 107) dX10_count_1 (by omega) (by decide) rfl rfl ?_
    refine j_aload_n (n := 108) dX10_count_107 rfl rfl ?_
    refine jm_get (n := 111) (k := 0) (b := 161) dX10_count_108 rfl fX10_7 rfl (by decide) hk ?_
    refine j_bipush (n := 113) (v := nI 9) dX10_count_111 rfl (by decide) ?_
    refine jm_ald (n := 114) (L := 3100) (a := 161) (i := 9) (v := nI (p 9)) dX10_count_113 rfl hk rfl (by omega) rfl ?_
    exact j_ri dX10_count_114 rfl (Nat.le_refl _) (Nat.le_refl _) (by unfold r_count; repeat (first | rw [if_pos (by omega)] | rw [if_neg (by omega)])) rfl rfl
  · refine j_tabOut (tg := 115) dX10_count_1 (by omega) rfl ?_
    refine j_ldc (n := 117) (v := -1000000001) dX10_count_115 rfl kX10_93 ?_
    exact j_ri dX10_count_117 rfl (Nat.le_refl _) (Nat.le_refl _) (by unfold r_count; repeat (first | rw [if_pos (by omega)] | rw [if_neg (by omega)])) rfl rfl
def r_rest (slot : Int32) (thing : Nat) (num n : Int32) : Int32 := if ¬ (0 ≤ slot.toInt ∧ slot.toInt ≤ 4) then cBAD else if thing = 0 then cNOTHING else if ¬ thing = 3 then cKIND else if n.toInt = 0 then cNO else zrem num n
def r_item (slot : Int32) (thing len : Nat) (row : Nat → Int32) (place : Int32) : Int32 := if ¬ (0 ≤ slot.toInt ∧ slot.toInt ≤ 4) then cBAD else if thing = 0 then cNOTHING else if ¬ thing = 2 then cKIND else if ¬ (0 ≤ place.toInt ∧ place.toInt ≤ (len : Int) - 1) then cINDEX else if (row (tN place)).toInt = -1000000005 then cKIND else row (tN place)
def r_ask (slot : Int32) (thing own : Nat) (worth kind : Int32) : Int32 := if ¬ ((0 ≤ slot.toInt ∧ slot.toInt ≤ 4) ∧ (0 ≤ kind.toInt ∧ kind.toInt ≤ 5)) then cBAD else if thing = 0 then cNOTHING else if ¬ thing = 1 then cKIND else if (own = tN kind ∨ tN kind = 0 ∨ (tN kind = 1 ∧ own = 3) ∨ (tN kind = 2 ∧ own = 4)) then worth else cKIND
def wfH (M : zMem) : Prop := ∀ k, k < 5 → tN (M 167 k) ≤ 3 ∧ (tN (M 167 k) = 1 → tN (M 168 k) ≤ 5) ∧ tN (M 170 k) ≤ 24
def wfS (M : zMem) : Prop := ∀ k, k < 4 → (-1 ≤ (M 164 k).toInt ∧ (M 164 k).toInt ≤ 1) ∧ tN (M 165 k) ≤ 24
theorem c_rest (d : Nat) (G : zG) (M : zMem) (X : zX) (hk : kM X) (p : Nat → Nat) (hh : wfH M) (slot n : Int32) : zCall G miX10_rest (d + 2) [.ref 160, .int slot, .int n] (zI (r_rest slot (tN (M 167 (tN slot))) (M 168 (tN slot)) n) (mm M p) X) (mm M p) X 0 0 := by
  refine zCall.of (lv := [some (.ref 160), some (.int slot), some (.int n)]) (by decide) (Nat.le_of_ble_eq_true rfl) rfl ?_
  refine j_iload_n (n := 1) dX10_rest_0 rfl rfl ?_
  refine j_cS (n := 4) dX10_rest_1 rfl sX10_325 (c_isSlot d G _ _ _) (by omega) (by decide) rfl rfl (Nat.le_of_ble_eq_true rfl) (by decide) (by decide) ?_
  refine j_if_neB (n := 7) (tg := 10) dX10_rest_4 rfl rfl (fun h1 => ?_) (fun h1 => ?_)
  · obtain ⟨q, hq, rfl⟩ := i_of (x := slot) (n := 5) (by omega) (by omega)
    have eq : tN (nI q) = q := tN_nI (by omega)
    have iq : (nI q).toInt = q := i_N (by omega)
    have hq1 := hh q hq
    refine j_aload_n (n := 11) dX10_rest_10 rfl rfl ?_
    refine jm_get (n := 14) (k := 7) (b := 167) dX10_rest_11 rfl fX10_28 rfl (by decide) hk ?_
    refine j_iload_n (n := 15) dX10_rest_14 rfl rfl ?_
    refine jm_ald (n := 16) (L := 5) (a := 167) (i := q) (v := nI (tN (M 167 q))) dX10_rest_15 rfl hk rfl (by omega) (nI_tN (M 167 q)).symm ?_
    refine j_iconst (n := 17) (v := nI 3) dX10_rest_16 rfl rfl ?_
    refine j_icmp_eqT (n := 20) (tg := 38) dX10_rest_17 rfl rfl (i_N (by omega)) (i_N (by omega)) (fun h2 => ?_) (fun h2 => ?_)
    · refine j_iload_n (n := 39) dX10_rest_38 rfl rfl ?_
      refine j_if_neT (n := 42) (tg := 47) dX10_rest_39 rfl rfl (fun h3 => ?_) (fun h3 => ?_)
      · refine j_aload_n (n := 48) dX10_rest_47 rfl rfl ?_
        refine jm_get (n := 51) (k := 8) (b := 168) dX10_rest_48 rfl fX10_31 rfl (by decide) hk ?_
        refine j_iload_n (n := 52) dX10_rest_51 rfl rfl ?_
        refine jm_ald (n := 53) (L := 5) (a := 168) (i := q) (v := M 168 q) dX10_rest_52 rfl hk rfl (by omega) rfl ?_
        refine j_iload_n (n := 54) dX10_rest_53 rfl rfl ?_
        refine j_irem (n := 55) dX10_rest_54 rfl (fun z => absurd (show n.toInt = 0 from congrArg Int32.toInt z) (by assumption)) ?_
        exact j_ri dX10_rest_55 rfl (Nat.le_refl _) (Nat.le_refl _) (by unfold r_rest; rw [eq]; repeat (first | rw [if_pos (by omega)] | rw [if_neg (by omega)])) rfl rfl
      · refine j_ldc (n := 44) (v := -1000000002) dX10_rest_42 rfl kX10_158 ?_
        refine j_goto (n := 55) dX10_rest_44 rfl ?_
        exact j_ri dX10_rest_55 rfl (Nat.le_refl _) (Nat.le_refl _) (by unfold r_rest; rw [eq]; repeat (first | rw [if_pos (by omega)] | rw [if_neg (by omega)])) rfl rfl
    · refine j_aload_n (n := 21) dX10_rest_20 rfl rfl ?_
      refine jm_get (n := 24) (k := 7) (b := 167) dX10_rest_21 rfl fX10_28 rfl (by decide) hk ?_
      refine j_iload_n (n := 25) dX10_rest_24 rfl rfl ?_
      refine jm_ald (n := 26) (L := 5) (a := 167) (i := q) (v := nI (tN (M 167 q))) dX10_rest_25 rfl hk rfl (by omega) (nI_tN (M 167 q)).symm ?_
      refine j_if_neN (n := 29) (tg := 35) dX10_rest_26 rfl rfl (by omega) (fun h4 => ?_) (fun h4 => ?_)
      · refine j_ldc (n := 37) (v := -1000000012) dX10_rest_35 rfl kX10_135 ?_
        exact j_ri dX10_rest_37 rfl (Nat.le_refl _) (Nat.le_refl _) (by unfold r_rest; rw [eq]; repeat (first | rw [if_pos (by omega)] | rw [if_neg (by omega)])) rfl rfl
      · refine j_ldcw (n := 32) (v := -1000000011) dX10_rest_29 rfl kX10_316 ?_
        refine j_goto (n := 37) dX10_rest_32 rfl ?_
        exact j_ri dX10_rest_37 rfl (Nat.le_refl _) (Nat.le_refl _) (by unfold r_rest; rw [eq]; repeat (first | rw [if_pos (by omega)] | rw [if_neg (by omega)])) rfl rfl
  · refine j_ldc (n := 9) (v := -1000000001) dX10_rest_7 rfl kX10_93 ?_
    exact j_ri dX10_rest_9 rfl (Nat.le_refl _) (Nat.le_refl _) (by unfold r_rest; repeat (first | rw [if_pos (by omega)] | rw [if_neg (by omega)])) rfl rfl
theorem c_item (d : Nat) (G : zG) (M : zMem) (X : zX) (hk : kM X) (p : Nat → Nat) (hh : wfH M) (slot place : Int32) : zCall G miX10_item (d + 2) [.ref 160, .int slot, .int place] (zI (r_item slot (tN (M 167 (tN slot))) (tN (M 170 (tN slot))) (fun i => M 171 (24 * tN slot + i)) place) (mm M p) X) (mm M p) X 0 0 := by
  refine zCall.of (lv := [some (.ref 160), some (.int slot), some (.int place), none]) (by decide) (Nat.le_of_ble_eq_true rfl) rfl ?_
  refine j_iload_n (n := 1) dX10_item_0 rfl rfl ?_
  refine j_cS (n := 4) dX10_item_1 rfl sX10_325 (c_isSlot d G _ _ _) (by omega) (by decide) rfl rfl (Nat.le_of_ble_eq_true rfl) (by decide) (by decide) ?_
  refine j_if_neB (n := 7) (tg := 10) dX10_item_4 rfl rfl (fun h1 => ?_) (fun h1 => ?_)
  · obtain ⟨q, hq, rfl⟩ := i_of (x := slot) (n := 5) (by omega) (by omega)
    have eq : tN (nI q) = q := tN_nI (by omega)
    have iq : (nI q).toInt = q := i_N (by omega)
    have hq1 := hh q hq
    refine j_aload_n (n := 11) dX10_item_10 rfl rfl ?_
    refine jm_get (n := 14) (k := 7) (b := 167) dX10_item_11 rfl fX10_28 rfl (by decide) hk ?_
    refine j_iload_n (n := 15) dX10_item_14 rfl rfl ?_
    refine jm_ald (n := 16) (L := 5) (a := 167) (i := q) (v := nI (tN (M 167 q))) dX10_item_15 rfl hk rfl (by omega) (nI_tN (M 167 q)).symm ?_
    refine j_iconst (n := 17) (v := nI 2) dX10_item_16 rfl rfl ?_
    refine j_icmp_eqT (n := 20) (tg := 38) dX10_item_17 rfl rfl (i_N (by omega)) (i_N (by omega)) (fun h2 => ?_) (fun h2 => ?_)
    · refine j_iload_n (n := 39) dX10_item_38 rfl rfl ?_
      refine j_i2l (n := 40) dX10_item_39 rfl ?_
      refine j_lconst (n := 41) (v := lN 0) dX10_item_40 rfl rfl ?_
      refine j_aload_n (n := 42) dX10_item_41 rfl rfl ?_
      refine jm_get (n := 45) (k := 10) (b := 170) dX10_item_42 rfl fX10_37 rfl (by decide) hk ?_
      refine j_iload_n (n := 46) dX10_item_45 rfl rfl ?_
      refine jm_ald (n := 47) (L := 5) (a := 170) (i := q) (v := nI (tN (M 170 q))) dX10_item_46 rfl hk rfl (by omega) (nI_tN (M 170 q)).symm ?_
      refine j_iconst (n := 48) (v := nI 1) dX10_item_47 rfl rfl ?_
      refine j_isub (n := 49) dX10_item_48 rfl ?_
      refine j_i2l (n := 50) dX10_item_49 rfl ?_
      refine j_cS (n := 53) dX10_item_50 rfl sX10_71 (c_isInI (x := place.toInt) (a := 0) (b := (((tN (M 170 q)) : Nat) : Int) - 1) (d + 1) G _ _ _ _ _ (l_toInt _) rfl ((l_toInt _).trans (pk_sub_toInt (b := 1) (by omega) (by decide)))) (by omega) (by decide) rfl rfl (Nat.le_of_ble_eq_true rfl) (by decide) (by decide) ?_
      refine j_if_neB (n := 56) (tg := 60) dX10_item_53 rfl rfl (fun h3 => ?_) (fun h3 => ?_)
      · obtain ⟨w, hw, rfl⟩ := i_of (x := place) (n := 24) (by omega) (by omega)
        have ew : tN (nI w) = w := tN_nI (by omega)
        have iw : (nI w).toInt = w := i_N (by omega)
        refine j_aload_n (n := 61) dX10_item_60 rfl rfl ?_
        refine jm_get (n := 64) (k := 11) (b := 171) dX10_item_61 rfl fX10_40 rfl (by decide) hk ?_
        refine j_bipush (n := 66) (v := nI 24) dX10_item_64 rfl (by decide) ?_
        refine j_iload_n (n := 67) dX10_item_66 rfl rfl ?_
        refine j_imulN (n := 68) (c := 24 * q) dX10_item_67 rfl rfl ?_
        refine j_iload_n (n := 69) dX10_item_68 rfl rfl ?_
        refine j_iaddN (n := 70) (c := 24 * q + w) dX10_item_69 rfl rfl ?_
        refine jm_ald (n := 71) (L := 120) (a := 171) (i := 24 * q + w) (v := M 171 (24 * q + w)) dX10_item_70 rfl hk rfl (by omega) rfl ?_
        refine j_istore_n (n := 72) (lv2 := [some (.ref 160), some (.int (nI q)), some (.int (nI w)), some (.int (M 171 (24 * q + w)))]) dX10_item_71 rfl rfl (by decide) rfl ?_
        refine j_iload_n (n := 73) dX10_item_72 rfl rfl ?_
        refine j_ldc (n := 75) (v := -1000000005) dX10_item_73 rfl kX10_70 ?_
        refine j_icmp_neT (n := 78) (tg := 83) dX10_item_75 rfl rfl rfl (show Int32.toInt (-1000000005) = (-1000000005 : Int) from by decide) (fun h4 => ?_) (fun h4 => ?_)
        · refine j_iload_n (n := 84) dX10_item_83 rfl rfl ?_
          exact j_ri dX10_item_84 rfl (Nat.le_refl _) (Nat.le_refl _) (by unfold r_item; rw [eq]; (try rw [ew]); repeat (first | rw [if_pos (by omega)] | rw [if_neg (by omega)])) rfl rfl
        · refine j_ldc (n := 80) (v := -1000000012) dX10_item_78 rfl kX10_135 ?_
          refine j_goto (n := 84) dX10_item_80 rfl ?_
          exact j_ri dX10_item_84 rfl (Nat.le_refl _) (Nat.le_refl _) (by unfold r_item; rw [eq]; (try rw [ew]); repeat (first | rw [if_pos (by omega)] | rw [if_neg (by omega)])) rfl rfl
      · refine j_ldcw (n := 59) (v := -1000000013) dX10_item_56 rfl kX10_317 ?_
        exact j_ri dX10_item_59 rfl (Nat.le_refl _) (Nat.le_refl _) (by unfold r_item; rw [eq]; (try rw [ew]); repeat (first | rw [if_pos (by omega)] | rw [if_neg (by omega)])) rfl rfl
    · refine j_aload_n (n := 21) dX10_item_20 rfl rfl ?_
      refine jm_get (n := 24) (k := 7) (b := 167) dX10_item_21 rfl fX10_28 rfl (by decide) hk ?_
      refine j_iload_n (n := 25) dX10_item_24 rfl rfl ?_
      refine jm_ald (n := 26) (L := 5) (a := 167) (i := q) (v := nI (tN (M 167 q))) dX10_item_25 rfl hk rfl (by omega) (nI_tN (M 167 q)).symm ?_
      refine j_if_neN (n := 29) (tg := 35) dX10_item_26 rfl rfl (by omega) (fun h5 => ?_) (fun h5 => ?_)
      · refine j_ldc (n := 37) (v := -1000000012) dX10_item_35 rfl kX10_135 ?_
        exact j_ri dX10_item_37 rfl (Nat.le_refl _) (Nat.le_refl _) (by unfold r_item; rw [eq]; (try rw [ew]); repeat (first | rw [if_pos (by omega)] | rw [if_neg (by omega)])) rfl rfl
      · refine j_ldcw (n := 32) (v := -1000000011) dX10_item_29 rfl kX10_316 ?_
        refine j_goto (n := 37) dX10_item_32 rfl ?_
        exact j_ri dX10_item_37 rfl (Nat.le_refl _) (Nat.le_refl _) (by unfold r_item; rw [eq]; (try rw [ew]); repeat (first | rw [if_pos (by omega)] | rw [if_neg (by omega)])) rfl rfl
  · refine j_ldc (n := 9) (v := -1000000001) dX10_item_7 rfl kX10_93 ?_
    exact j_ri dX10_item_9 rfl (Nat.le_refl _) (Nat.le_refl _) (by unfold r_item; repeat (first | rw [if_pos (by omega)] | rw [if_neg (by omega)])) rfl rfl
theorem c_ask (d : Nat) (G : zG) (M : zMem) (X : zX) (hk : kM X) (p : Nat → Nat) (hh : wfH M) (slot kind : Int32) : zCall G miX10_ask (d + 2) [.ref 160, .int slot, .int kind] (zI (r_ask slot (tN (M 167 (tN slot))) (tN (M 168 (tN slot))) (M 169 (tN slot)) kind) (mm M p) X) (mm M p) X 0 0 := by
  refine zCall.of (lv := [some (.ref 160), some (.int slot), some (.int kind)]) (by decide) (Nat.le_of_ble_eq_true rfl) rfl ?_
  refine j_iload_n (n := 1) dX10_ask_0 rfl rfl ?_
  refine j_cS (n := 4) dX10_ask_1 rfl sX10_325 (c_isSlot d G _ _ _) (by omega) (by decide) rfl rfl (Nat.le_of_ble_eq_true rfl) (by decide) (by decide) ?_
  refine j_if_eqB (n := 7) (tg := 19) dX10_ask_4 rfl rfl (fun h1 => ?_) (fun h1 => ?_)
  · refine j_ldc (n := 21) (v := -1000000001) dX10_ask_19 rfl kX10_93 ?_
    exact j_ri dX10_ask_21 rfl (Nat.le_refl _) (Nat.le_refl _) (by unfold r_ask; repeat (first | rw [if_pos (by omega)] | rw [if_neg (by omega)])) rfl rfl
  · refine j_iload_n (n := 8) dX10_ask_7 rfl rfl ?_
    refine j_i2l (n := 9) dX10_ask_8 rfl ?_
    refine j_lconst (n := 10) (v := lN 0) dX10_ask_9 rfl rfl ?_
    refine j_ldc2 (n := 13) (v := lN 5) dX10_ask_10 rfl kX10_84 ?_
    refine j_cS (n := 16) dX10_ask_13 rfl sX10_71 (c_isInI (x := kind.toInt) (a := 0) (b := 5) (d + 1) G _ _ _ _ _ (l_toInt _) rfl rfl) (by omega) (by decide) rfl rfl (Nat.le_of_ble_eq_true rfl) (by decide) (by decide) ?_
    refine j_if_neB (n := 19) (tg := 22) dX10_ask_16 rfl rfl (fun h2 => ?_) (fun h2 => ?_)
    · obtain ⟨q, hq, rfl⟩ := i_of (x := slot) (n := 5) (by omega) (by omega)
      have eq : tN (nI q) = q := tN_nI (by omega)
      have iq : (nI q).toInt = q := i_N (by omega)
      obtain ⟨kd, hkd, rfl⟩ := i_of (x := kind) (n := 6) (by omega) (by omega)
      have ekd : tN (nI kd) = kd := tN_nI (by omega)
      have ikd : (nI kd).toInt = kd := i_N (by omega)
      have hq1 := hh q hq
      refine j_aload_n (n := 23) dX10_ask_22 rfl rfl ?_
      refine jm_get (n := 26) (k := 7) (b := 167) dX10_ask_23 rfl fX10_28 rfl (by decide) hk ?_
      refine j_iload_n (n := 27) dX10_ask_26 rfl rfl ?_
      refine jm_ald (n := 28) (L := 5) (a := 167) (i := q) (v := nI (tN (M 167 q))) dX10_ask_27 rfl hk rfl (by omega) (nI_tN (M 167 q)).symm ?_
      refine j_if_neN (n := 31) (tg := 35) dX10_ask_28 rfl rfl (by omega) (fun h3 => ?_) (fun h3 => ?_)
      · refine j_aload_n (n := 36) dX10_ask_35 rfl rfl ?_
        refine jm_get (n := 39) (k := 7) (b := 167) dX10_ask_36 rfl fX10_28 rfl (by decide) hk ?_
        refine j_iload_n (n := 40) dX10_ask_39 rfl rfl ?_
        refine jm_ald (n := 41) (L := 5) (a := 167) (i := q) (v := nI (tN (M 167 q))) dX10_ask_40 rfl hk rfl (by omega) (nI_tN (M 167 q)).symm ?_
        refine j_iconst (n := 42) (v := nI 1) dX10_ask_41 rfl rfl ?_
        refine j_icmp_neT (n := 45) (tg := 67) dX10_ask_42 rfl rfl (i_N (by omega)) (i_N (by omega)) (fun h4 => ?_) (fun h4 => ?_)
        · refine j_ldc (n := 69) (v := -1000000012) dX10_ask_67 rfl kX10_135 ?_
          exact j_ri dX10_ask_69 rfl (Nat.le_refl _) (Nat.le_refl _) (by unfold r_ask; rw [eq, ekd]; repeat (first | rw [if_pos (by omega)] | rw [if_neg (by omega)])) rfl rfl
        · refine j_aload_n (n := 46) dX10_ask_45 rfl rfl ?_
          refine jm_get (n := 49) (k := 8) (b := 168) dX10_ask_46 rfl fX10_31 rfl (by decide) hk ?_
          refine j_iload_n (n := 50) dX10_ask_49 rfl rfl ?_
          refine jm_ald (n := 51) (L := 5) (a := 168) (i := q) (v := nI (tN (M 168 q))) dX10_ask_50 rfl hk rfl (by omega) (nI_tN (M 168 q)).symm ?_
          refine j_iload_n (n := 52) dX10_ask_51 rfl rfl ?_
          refine j_cS (n := 55) dX10_ask_52 rfl sX10_131 (c_isOf (d + 1) G _ _ (tN (M 168 q)) kd (by omega) (by omega)) (by omega) (by decide) rfl rfl (Nat.le_of_ble_eq_true rfl) (by decide) (by decide) ?_
          refine j_if_eqB (n := 58) (tg := 67) dX10_ask_55 rfl rfl (fun h5 => ?_) (fun h5 => ?_)
          · refine j_ldc (n := 69) (v := -1000000012) dX10_ask_67 rfl kX10_135 ?_
            exact j_ri dX10_ask_69 rfl (Nat.le_refl _) (Nat.le_refl _) (by unfold r_ask; rw [eq, ekd]; repeat (first | rw [if_pos (by omega)] | rw [if_neg (by omega)])) rfl rfl
          · refine j_aload_n (n := 59) dX10_ask_58 rfl rfl ?_
            refine jm_get (n := 62) (k := 9) (b := 169) dX10_ask_59 rfl fX10_34 rfl (by decide) hk ?_
            refine j_iload_n (n := 63) dX10_ask_62 rfl rfl ?_
            refine jm_ald (n := 64) (L := 5) (a := 169) (i := q) (v := M 169 q) dX10_ask_63 rfl hk rfl (by omega) rfl ?_
            refine j_goto (n := 69) dX10_ask_64 rfl ?_
            exact j_ri dX10_ask_69 rfl (Nat.le_refl _) (Nat.le_refl _) (by unfold r_ask; rw [eq, ekd]; repeat (first | rw [if_pos (by omega)] | rw [if_neg (by omega)])) rfl rfl
      · refine j_ldcw (n := 34) (v := -1000000011) dX10_ask_31 rfl kX10_316 ?_
        exact j_ri dX10_ask_34 rfl (Nat.le_refl _) (Nat.le_refl _) (by unfold r_ask; rw [eq, ekd]; repeat (first | rw [if_pos (by omega)] | rw [if_neg (by omega)])) rfl rfl
    · refine j_ldc (n := 21) (v := -1000000001) dX10_ask_19 rfl kX10_93 ?_
      exact j_ri dX10_ask_21 rfl (Nat.le_refl _) (Nat.le_refl _) (by unfold r_ask; repeat (first | rw [if_pos (by omega)] | rw [if_neg (by omega)])) rfl rfl
