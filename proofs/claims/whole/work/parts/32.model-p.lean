-- MODEL P: by program (wip/whole/gen/b16.py)
def r_lay (p : Nat → Nat) (slot thing kk : Int32) (srt was : Int32) : Int32 := if ¬ ((0 ≤ slot.toInt ∧ slot.toInt ≤ 4) ∧ (thing.toInt = 0 ∨ thing.toInt = 3 ∨ (thing.toInt = 1 ∧ 0 ≤ kk.toInt ∧ kk.toInt ≤ (p 0 : Int) - 1) ∨ (thing.toInt = 2 ∧ 0 ≤ kk.toInt ∧ kk.toInt ≤ 3))) then cBAD else if thing.toInt = 2 ∧ srt.toInt < 0 then cNOTHING else was
def m_lay (M : zMem) (p : Nat → Nat) (slot thing kk : Int32) : zMem := if ¬ ((0 ≤ slot.toInt ∧ slot.toInt ≤ 4) ∧ (thing.toInt = 0 ∨ thing.toInt = 3 ∨ (thing.toInt = 1 ∧ 0 ≤ kk.toInt ∧ kk.toInt ≤ (p 0 : Int) - 1) ∨ (thing.toInt = 2 ∧ 0 ≤ kk.toInt ∧ kk.toInt ≤ 3))) then M else if thing.toInt = 2 ∧ (M 164 (tN kk)).toInt < 0 then M else
  if thing.toInt = 2 then zs (zs (zs (zs (zs M 167 (upd (M 167) (tN slot) thing)) 168 (upd (M 168) (tN slot) kk)) 169 (upd (M 169) (tN slot) (nI 0))) 170 (upd (M 170) (tN slot) (M 165 (tN kk)))) 171 (cyF (M 171) (M 166) (24 * tN slot) (24 * tN kk) 24)
  else if thing.toInt = 1 then zs (zs (zs M 167 (upd (M 167) (tN slot) thing)) 168 (upd (M 168) (tN slot) (nI (p (10 + 5 * tN kk + 0))))) 169 (upd (M 169) (tN slot) (worthN (p (10 + 5 * tN kk + 0)) (regsP p (tN kk))))
  else zs (zs (zs M 167 (upd (M 167) (tN slot) thing)) 168 (upd (M 168) (tN slot) kk)) 169 (upd (M 169) (tN slot) (nI 0))
theorem c_lay (d : Nat) (G : zG) (M : zMem) (X : zX) (hk : kM X) (p : Nat → Nat) (hs : wfS M) (hw : wfO p) (slot thing kk : Int32) : zCall G miX10_lay (d + 3) [.ref 160, .int slot, .int thing, .int kk] (zI (r_lay p slot thing kk (M 164 (tN kk)) (M 167 (tN slot))) (mm (m_lay M p slot thing kk) p) X) (mm M p) X 0 0 := by
  refine zCall.of (lv := [some (.ref 160), some (.int slot), some (.int thing), some (.int kk), none, none, none]) (by decide) (Nat.le_of_ble_eq_true rfl) rfl ?_
  have hw0 := hw.1
  have e56 : (0 ≤ slot.toInt ∧ slot.toInt ≤ 4) → (thing.toInt = 0 ∨ thing.toInt = 3 ∨ (thing.toInt = 1 ∧ 0 ≤ kk.toInt ∧ kk.toInt ≤ (p 0 : Int) - 1) ∨ (thing.toInt = 2 ∧ 0 ≤ kk.toInt ∧ kk.toInt ≤ 3)) → zAt G miX10_lay (zRm (d + 3) 0 0) (zQ G (zI (r_lay p slot thing kk (M 164 (tN kk)) (M 167 (tN slot))) (mm (m_lay M p slot thing kk) p) X) 0 0) 56 [some (.ref 160), some (.int slot), some (.int thing), some (.int kk), none, none, none] [] (mm M p) X (0, 0) := by
    intro hsl hgd
    obtain ⟨q, hq, rfl⟩ := i_of (x := slot) (n := 5) (by omega) (by omega)
    have eq : tN (nI q) = q := tN_nI (by omega)
    have iq : (nI q).toInt = q := i_N (by omega)
    have hcase : thing.toInt = 0 ∨ thing.toInt = 1 ∨ thing.toInt = 2 ∨ thing.toInt = 3 := by omega
    rcases hcase with ht | ht | ht | ht
    · have et : thing = nI 0 := int32_eq (by rw [ht]; rfl)
      subst et
      refine j_iload_n (n := 57) dX10_lay_56 rfl rfl ?_
      refine j_iconst (n := 58) (v := nI 2) dX10_lay_57 rfl rfl ?_
      refine j_icmp_neT (n := 61) (tg := 74) dX10_lay_58 rfl rfl (i_N (by omega)) (i_N (by omega)) (fun h1 => ?_) (fun h1 => ?_)
      · refine j_aload_n (n := 75) dX10_lay_74 rfl rfl ?_
        refine jm_get (n := 78) (k := 7) (b := 167) dX10_lay_75 rfl fX10_28 rfl (by decide) hk ?_
        refine j_iload_n (n := 79) dX10_lay_78 rfl rfl ?_
        refine jm_ald (n := 80) (L := 5) (a := 167) (i := q) (v := M 167 q) dX10_lay_79 rfl hk rfl (by omega) rfl ?_
        refine j_istore (n := 82) (lv2 := [some (.ref 160), some (.int (nI q)), some (.int (nI 0)), some (.int kk), none, some (.int (M 167 q)), none]) dX10_lay_80 rfl rfl (by decide) rfl ?_
        refine j_aload_n (n := 83) dX10_lay_82 rfl rfl ?_
        refine jm_get (n := 86) (k := 7) (b := 167) dX10_lay_83 rfl fX10_28 rfl (by decide) hk ?_
        refine j_iload_n (n := 87) dX10_lay_86 rfl rfl ?_
        refine j_iload_n (n := 88) dX10_lay_87 rfl rfl ?_
        refine jm_ast (n := 89) (L := 5) (a := 167) (i := q) (x := nI 0) (M2 := mm (zs M 167 (upd (M 167) q (nI 0))) p) dX10_lay_88 rfl hk rfl (by omega) (mm_wo (by decide) rfl) ?_
        refine j_aload_n (n := 90) dX10_lay_89 rfl rfl ?_
        refine jm_get (n := 93) (k := 8) (b := 168) dX10_lay_90 rfl fX10_31 rfl (by decide) hk ?_
        refine j_iload_n (n := 94) dX10_lay_93 rfl rfl ?_
        refine j_iload_n (n := 95) dX10_lay_94 rfl rfl ?_
        refine j_iconst (n := 96) (v := nI 1) dX10_lay_95 rfl rfl ?_
        refine j_icmp_neT (n := 99) (tg := 108) dX10_lay_96 rfl rfl (i_N (by omega)) (i_N (by omega)) (fun h2 => ?_) (fun h2 => ?_)
        · refine j_iload_n (n := 109) dX10_lay_108 rfl rfl ?_
          refine jm_ast (n := 110) (L := 5) (a := 168) (i := q) (x := kk) (M2 := mm (zs (zs M 167 (upd (M 167) q (nI 0))) 168 (upd (M 168) q kk)) p) dX10_lay_109 rfl hk rfl (by omega) (mm_wo (by decide) (congrArg (fun f => zs _ _ (upd f _ _)) (show _ = _ from by simp [zs]))) ?_
          refine j_aload_n (n := 111) dX10_lay_110 rfl rfl ?_
          refine jm_get (n := 114) (k := 9) (b := 169) dX10_lay_111 rfl fX10_34 rfl (by decide) hk ?_
          refine j_iload_n (n := 115) dX10_lay_114 rfl rfl ?_
          refine j_iload_n (n := 116) dX10_lay_115 rfl rfl ?_
          refine j_iconst (n := 117) (v := nI 1) dX10_lay_116 rfl rfl ?_
          refine j_icmp_neT (n := 120) (tg := 128) dX10_lay_117 rfl rfl (i_N (by omega)) (i_N (by omega)) (fun h3 => ?_) (fun h3 => ?_)
          · refine j_iconst (n := 129) (v := nI 0) dX10_lay_128 rfl rfl ?_
            refine jm_ast (n := 130) (L := 5) (a := 169) (i := q) (x := nI 0) (M2 := mm (zs (zs (zs M 167 (upd (M 167) q (nI 0))) 168 (upd (M 168) q kk)) 169 (upd (M 169) q (nI 0))) p) dX10_lay_129 rfl hk rfl (by omega) (mm_wo (by decide) (congrArg (fun f => zs _ _ (upd f _ _)) (show _ = _ from by simp [zs]))) ?_
            refine j_iload_n (n := 131) dX10_lay_130 rfl rfl ?_
            refine j_iconst (n := 132) (v := nI 2) dX10_lay_131 rfl rfl ?_
            refine j_icmp_neT (n := 135) (tg := 187) dX10_lay_132 rfl rfl (i_N (by omega)) (i_N (by omega)) (fun h4 => ?_) (fun h4 => ?_)
            · refine j_iload (n := 189) dX10_lay_187 rfl rfl ?_
              exact j_ri dX10_lay_189 rfl (Nat.le_refl _) (Nat.le_refl _) (by first | (exfalso; omega) | unfold r_lay; (try rw [eq]); (try rw [ekq]); repeat (first | rw [if_pos (by omega)] | rw [if_neg (by omega)])) (by first | (exfalso; omega) | unfold m_lay; (try rw [eq]); (try rw [ekq]); (try rw [show k = 24 by omega]); repeat (first | rw [if_pos (by omega)] | rw [if_neg (by omega)])) rfl
            · exact absurd h4 (by decide)
          · exact absurd h3 (by decide)
        · exact absurd h2 (by decide)
      · exact absurd h1 (by decide)
    · have et : thing = nI 1 := int32_eq (by rw [ht]; rfl)
      subst et
      obtain ⟨k, hk1, rfl⟩ := i_of (x := kk) (n := p 0) (by omega) (by omega)
      have ekq : tN (nI k) = k := tN_nI (by omega)
      have ho := hw.2 k hk1
      refine j_iload_n (n := 57) dX10_lay_56 rfl rfl ?_
      refine j_iconst (n := 58) (v := nI 2) dX10_lay_57 rfl rfl ?_
      refine j_icmp_neT (n := 61) (tg := 74) dX10_lay_58 rfl rfl (i_N (by omega)) (i_N (by omega)) (fun h5 => ?_) (fun h5 => ?_)
      · refine j_aload_n (n := 75) dX10_lay_74 rfl rfl ?_
        refine jm_get (n := 78) (k := 7) (b := 167) dX10_lay_75 rfl fX10_28 rfl (by decide) hk ?_
        refine j_iload_n (n := 79) dX10_lay_78 rfl rfl ?_
        refine jm_ald (n := 80) (L := 5) (a := 167) (i := q) (v := M 167 q) dX10_lay_79 rfl hk rfl (by omega) rfl ?_
        refine j_istore (n := 82) (lv2 := [some (.ref 160), some (.int (nI q)), some (.int (nI 1)), some (.int (nI k)), none, some (.int (M 167 q)), none]) dX10_lay_80 rfl rfl (by decide) rfl ?_
        refine j_aload_n (n := 83) dX10_lay_82 rfl rfl ?_
        refine jm_get (n := 86) (k := 7) (b := 167) dX10_lay_83 rfl fX10_28 rfl (by decide) hk ?_
        refine j_iload_n (n := 87) dX10_lay_86 rfl rfl ?_
        refine j_iload_n (n := 88) dX10_lay_87 rfl rfl ?_
        refine jm_ast (n := 89) (L := 5) (a := 167) (i := q) (x := nI 1) (M2 := mm (zs M 167 (upd (M 167) q (nI 1))) p) dX10_lay_88 rfl hk rfl (by omega) (mm_wo (by decide) rfl) ?_
        refine j_aload_n (n := 90) dX10_lay_89 rfl rfl ?_
        refine jm_get (n := 93) (k := 8) (b := 168) dX10_lay_90 rfl fX10_31 rfl (by decide) hk ?_
        refine j_iload_n (n := 94) dX10_lay_93 rfl rfl ?_
        refine j_iload_n (n := 95) dX10_lay_94 rfl rfl ?_
        refine j_iconst (n := 96) (v := nI 1) dX10_lay_95 rfl rfl ?_
        refine j_icmp_neT (n := 99) (tg := 108) dX10_lay_96 rfl rfl (i_N (by omega)) (i_N (by omega)) (fun h6 => ?_) (fun h6 => ?_)
        · exact absurd h6 (by decide)
        · refine j_aload_n (n := 100) dX10_lay_99 rfl rfl ?_
          refine j_iload_n (n := 101) dX10_lay_100 rfl rfl ?_
          refine j_iconst (n := 102) (v := nI 0) dX10_lay_101 rfl rfl ?_
          refine j_cV (n := 105) dX10_lay_102 rfl sX10_114 (c_of (d + 2) G _ _ hk _ k 0 (by omega)) (by omega) (by decide) rfl rfl (Nat.le_of_ble_eq_true rfl) (hk).2.1 (by decide) (kM_lt hk) (by decide) (by decide) ?_
          refine j_goto (n := 109) dX10_lay_105 rfl ?_
          refine jm_ast (n := 110) (L := 5) (a := 168) (i := q) (x := nI (p (10 + 5 * k + 0))) (M2 := mm (zs (zs M 167 (upd (M 167) q (nI 1))) 168 (upd (M 168) q (nI (p (10 + 5 * k + 0))))) p) dX10_lay_109 rfl hk rfl (by omega) (mm_wo (by decide) (congrArg (fun f => zs _ _ (upd f _ _)) (show _ = _ from by simp [zs]))) ?_
          refine j_aload_n (n := 111) dX10_lay_110 rfl rfl ?_
          refine jm_get (n := 114) (k := 9) (b := 169) dX10_lay_111 rfl fX10_34 rfl (by decide) hk ?_
          refine j_iload_n (n := 115) dX10_lay_114 rfl rfl ?_
          refine j_iload_n (n := 116) dX10_lay_115 rfl rfl ?_
          refine j_iconst (n := 117) (v := nI 1) dX10_lay_116 rfl rfl ?_
          refine j_icmp_neT (n := 120) (tg := 128) dX10_lay_117 rfl rfl (i_N (by omega)) (i_N (by omega)) (fun h7 => ?_) (fun h7 => ?_)
          · exact absurd h7 (by decide)
          · refine j_aload_n (n := 121) dX10_lay_120 rfl rfl ?_
            refine j_iload_n (n := 122) dX10_lay_121 rfl rfl ?_
            refine j_cV (n := 125) dX10_lay_122 rfl sX10_125 (c_worth d G _ _ hk _ hw k (by omega)) (by omega) (by decide) rfl rfl (Nat.le_of_ble_eq_true rfl) (hk).2.1 (by decide) (kM_lt hk) (by decide) (by decide) ?_
            refine j_goto (n := 129) dX10_lay_125 rfl ?_
            refine jm_ast (n := 130) (L := 5) (a := 169) (i := q) (x := worthN (p (10 + 5 * k + 0)) (regsP p k)) (M2 := mm (zs (zs (zs M 167 (upd (M 167) q (nI 1))) 168 (upd (M 168) q (nI (p (10 + 5 * k + 0))))) 169 (upd (M 169) q (worthN (p (10 + 5 * k + 0)) (regsP p k)))) p) dX10_lay_129 rfl hk rfl (by omega) (mm_wo (by decide) (congrArg (fun f => zs _ _ (upd f _ _)) (show _ = _ from by simp [zs]))) ?_
            refine j_iload_n (n := 131) dX10_lay_130 rfl rfl ?_
            refine j_iconst (n := 132) (v := nI 2) dX10_lay_131 rfl rfl ?_
            refine j_icmp_neT (n := 135) (tg := 187) dX10_lay_132 rfl rfl (i_N (by omega)) (i_N (by omega)) (fun h8 => ?_) (fun h8 => ?_)
            · refine j_iload (n := 189) dX10_lay_187 rfl rfl ?_
              exact j_ri dX10_lay_189 rfl (Nat.le_refl _) (Nat.le_refl _) (by first | (exfalso; omega) | unfold r_lay; (try rw [eq]); (try rw [ekq]); repeat (first | rw [if_pos (by omega)] | rw [if_neg (by omega)])) (by first | (exfalso; omega) | unfold m_lay; (try rw [eq]); (try rw [ekq]); (try rw [show k = 24 by omega]); repeat (first | rw [if_pos (by omega)] | rw [if_neg (by omega)])) rfl
            · exact absurd h8 (by decide)
      · exact absurd h5 (by decide)
    · have et : thing = nI 2 := int32_eq (by rw [ht]; rfl)
      subst et
      obtain ⟨g, hg, rfl⟩ := i_of (x := kk) (n := 4) (by omega) (by omega)
      have eg : tN (nI g) = g := tN_nI (by omega)
      have ig : (nI g).toInt = g := i_N (by omega)
      have ekq := eg
      have hg1 := hs g hg
      refine j_iload_n (n := 57) dX10_lay_56 rfl rfl ?_
      refine j_iconst (n := 58) (v := nI 2) dX10_lay_57 rfl rfl ?_
      refine j_icmp_neT (n := 61) (tg := 74) dX10_lay_58 rfl rfl (i_N (by omega)) (i_N (by omega)) (fun h9 => ?_) (fun h9 => ?_)
      · exact absurd h9 (by decide)
      · refine j_aload_n (n := 62) dX10_lay_61 rfl rfl ?_
        refine jm_get (n := 65) (k := 4) (b := 164) dX10_lay_62 rfl fX10_19 rfl (by decide) hk ?_
        refine j_iload_n (n := 66) dX10_lay_65 rfl rfl ?_
        refine jm_ald (n := 67) (L := 4) (a := 164) (i := g) (v := M 164 g) dX10_lay_66 rfl hk rfl (by omega) rfl ?_
        refine j_if_geT (n := 70) (tg := 74) dX10_lay_67 rfl rfl (fun h10 => ?_) (fun h10 => ?_)
        · refine j_aload_n (n := 75) dX10_lay_74 rfl rfl ?_
          refine jm_get (n := 78) (k := 7) (b := 167) dX10_lay_75 rfl fX10_28 rfl (by decide) hk ?_
          refine j_iload_n (n := 79) dX10_lay_78 rfl rfl ?_
          refine jm_ald (n := 80) (L := 5) (a := 167) (i := q) (v := M 167 q) dX10_lay_79 rfl hk rfl (by omega) rfl ?_
          refine j_istore (n := 82) (lv2 := [some (.ref 160), some (.int (nI q)), some (.int (nI 2)), some (.int (nI g)), none, some (.int (M 167 q)), none]) dX10_lay_80 rfl rfl (by decide) rfl ?_
          refine j_aload_n (n := 83) dX10_lay_82 rfl rfl ?_
          refine jm_get (n := 86) (k := 7) (b := 167) dX10_lay_83 rfl fX10_28 rfl (by decide) hk ?_
          refine j_iload_n (n := 87) dX10_lay_86 rfl rfl ?_
          refine j_iload_n (n := 88) dX10_lay_87 rfl rfl ?_
          refine jm_ast (n := 89) (L := 5) (a := 167) (i := q) (x := nI 2) (M2 := mm (zs M 167 (upd (M 167) q (nI 2))) p) dX10_lay_88 rfl hk rfl (by omega) (mm_wo (by decide) rfl) ?_
          refine j_aload_n (n := 90) dX10_lay_89 rfl rfl ?_
          refine jm_get (n := 93) (k := 8) (b := 168) dX10_lay_90 rfl fX10_31 rfl (by decide) hk ?_
          refine j_iload_n (n := 94) dX10_lay_93 rfl rfl ?_
          refine j_iload_n (n := 95) dX10_lay_94 rfl rfl ?_
          refine j_iconst (n := 96) (v := nI 1) dX10_lay_95 rfl rfl ?_
          refine j_icmp_neT (n := 99) (tg := 108) dX10_lay_96 rfl rfl (i_N (by omega)) (i_N (by omega)) (fun h11 => ?_) (fun h11 => ?_)
          · refine j_iload_n (n := 109) dX10_lay_108 rfl rfl ?_
            refine jm_ast (n := 110) (L := 5) (a := 168) (i := q) (x := nI g) (M2 := mm (zs (zs M 167 (upd (M 167) q (nI 2))) 168 (upd (M 168) q (nI g))) p) dX10_lay_109 rfl hk rfl (by omega) (mm_wo (by decide) (congrArg (fun f => zs _ _ (upd f _ _)) (show _ = _ from by simp [zs]))) ?_
            refine j_aload_n (n := 111) dX10_lay_110 rfl rfl ?_
            refine jm_get (n := 114) (k := 9) (b := 169) dX10_lay_111 rfl fX10_34 rfl (by decide) hk ?_
            refine j_iload_n (n := 115) dX10_lay_114 rfl rfl ?_
            refine j_iload_n (n := 116) dX10_lay_115 rfl rfl ?_
            refine j_iconst (n := 117) (v := nI 1) dX10_lay_116 rfl rfl ?_
            refine j_icmp_neT (n := 120) (tg := 128) dX10_lay_117 rfl rfl (i_N (by omega)) (i_N (by omega)) (fun h12 => ?_) (fun h12 => ?_)
            · refine j_iconst (n := 129) (v := nI 0) dX10_lay_128 rfl rfl ?_
              refine jm_ast (n := 130) (L := 5) (a := 169) (i := q) (x := nI 0) (M2 := mm (zs (zs (zs M 167 (upd (M 167) q (nI 2))) 168 (upd (M 168) q (nI g))) 169 (upd (M 169) q (nI 0))) p) dX10_lay_129 rfl hk rfl (by omega) (mm_wo (by decide) (congrArg (fun f => zs _ _ (upd f _ _)) (show _ = _ from by simp [zs]))) ?_
              refine j_iload_n (n := 131) dX10_lay_130 rfl rfl ?_
              refine j_iconst (n := 132) (v := nI 2) dX10_lay_131 rfl rfl ?_
              refine j_icmp_neT (n := 135) (tg := 187) dX10_lay_132 rfl rfl (i_N (by omega)) (i_N (by omega)) (fun h13 => ?_) (fun h13 => ?_)
              · exact absurd h13 (by decide)
              · refine j_aload_n (n := 136) dX10_lay_135 rfl rfl ?_
                refine jm_get (n := 139) (k := 10) (b := 170) dX10_lay_136 rfl fX10_37 rfl (by decide) hk ?_
                refine j_iload_n (n := 140) dX10_lay_139 rfl rfl ?_
                refine j_aload_n (n := 141) dX10_lay_140 rfl rfl ?_
                refine jm_get (n := 144) (k := 5) (b := 165) dX10_lay_141 rfl fX10_22 rfl (by decide) hk ?_
                refine j_iload_n (n := 145) dX10_lay_144 rfl rfl ?_
                refine jm_ald (n := 146) (L := 4) (a := 165) (i := g) (v := M 165 g) dX10_lay_145 rfl hk rfl (by omega) (by simp [mm, zs, upd]) ?_
                refine jm_ast (n := 147) (L := 5) (a := 170) (i := q) (x := M 165 g) (M2 := mm (zs (zs (zs (zs M 167 (upd (M 167) q (nI 2))) 168 (upd (M 168) q (nI g))) 169 (upd (M 169) q (nI 0))) 170 (upd (M 170) q (M 165 g))) p) dX10_lay_146 rfl hk rfl (by omega) (mm_wo (by decide) (congrArg (fun f => zs _ _ (upd f _ _)) (show _ = _ from by simp [zs]))) ?_
                refine j_iconst (n := 148) (v := nI 0) dX10_lay_147 rfl rfl ?_
                refine j_istore (n := 150) (lv2 := [some (.ref 160), some (.int (nI q)), some (.int (nI 2)), some (.int (nI g)), none, some (.int (M 167 q)), some (.int (nI 0))]) dX10_lay_148 rfl rfl (by decide) rfl ?_
                have loop : ∀ (j k : Nat), 24 - k = j → k ≤ 24 → zAt G miX10_lay (zRm (d + 3) 0 0) (zQ G (zI (r_lay p (nI q) (nI 2) (nI g) (M 164 (tN (nI g))) (M 167 (tN (nI q)))) (mm (m_lay M p (nI q) (nI 2) (nI g)) p) X) 0 0) 150 [some (.ref 160), some (.int (nI q)), some (.int (nI 2)), some (.int (nI g)), none, some (.int (M 167 q)), some (.int (nI k))] [] (mm (zs (zs (zs (zs (zs M 167 (upd (M 167) q (nI 2))) 168 (upd (M 168) q (nI g))) 169 (upd (M 169) q (nI 0))) 170 (upd (M 170) q (M 165 g))) 171 (cyF (M 171) (M 166) (24 * q) (24 * g) k)) p) X (0, 0) := by
                  intro j
                  induction j using Nat.strongRecOn with
                  | ind j ih =>
                    intro k hj hk0
                    refine j_iload (n := 152) dX10_lay_150 rfl rfl ?_
                    refine j_bipush (n := 154) (v := nI 24) dX10_lay_152 rfl (by decide) ?_
                    refine j_icmp_geT (n := 157) (tg := 187) dX10_lay_154 rfl rfl (i_N (by omega)) (i_N (by omega)) (fun h14 => ?_) (fun h14 => ?_)
                    · refine j_iload (n := 189) dX10_lay_187 rfl rfl ?_
                      exact j_ri dX10_lay_189 rfl (Nat.le_refl _) (Nat.le_refl _) (by first | (exfalso; omega) | unfold r_lay; (try rw [eq]); (try rw [ekq]); repeat (first | rw [if_pos (by omega)] | rw [if_neg (by omega)])) (by first | (exfalso; omega) | unfold m_lay; (try rw [eq]); (try rw [ekq]); (try rw [show k = 24 by omega]); repeat (first | rw [if_pos (by omega)] | rw [if_neg (by omega)])) rfl
                    · refine j_aload_n (n := 158) dX10_lay_157 rfl rfl ?_
                      refine jm_get (n := 161) (k := 11) (b := 171) dX10_lay_158 rfl fX10_40 rfl (by decide) hk ?_
                      refine j_bipush (n := 163) (v := nI 24) dX10_lay_161 rfl (by decide) ?_
                      refine j_iload_n (n := 164) dX10_lay_163 rfl rfl ?_
                      refine j_imulN (n := 165) (c := 24 * q) dX10_lay_164 rfl rfl ?_
                      refine j_iload (n := 167) dX10_lay_165 rfl rfl ?_
                      refine j_iaddN (n := 168) (c := 24 * q + k) dX10_lay_167 rfl rfl ?_
                      refine j_aload_n (n := 169) dX10_lay_168 rfl rfl ?_
                      refine jm_get (n := 172) (k := 6) (b := 166) dX10_lay_169 rfl fX10_25 rfl (by decide) hk ?_
                      refine j_bipush (n := 174) (v := nI 24) dX10_lay_172 rfl (by decide) ?_
                      refine j_iload_n (n := 175) dX10_lay_174 rfl rfl ?_
                      refine j_imulN (n := 176) (c := 24 * g) dX10_lay_175 rfl rfl ?_
                      refine j_iload (n := 178) dX10_lay_176 rfl rfl ?_
                      refine j_iaddN (n := 179) (c := 24 * g + k) dX10_lay_178 rfl rfl ?_
                      refine jm_ald (n := 180) (L := 96) (a := 166) (i := 24 * g + k) (v := M 166 (24 * g + k)) dX10_lay_179 rfl hk rfl (by omega) (by simp [mm, zs]) ?_
                      refine jm_ast (n := 181) (L := 120) (a := 171) (i := 24 * q + k) (x := M 166 (24 * g + k)) (M2 := mm (zs (zs (zs (zs (zs M 167 (upd (M 167) q (nI 2))) 168 (upd (M 168) q (nI g))) 169 (upd (M 169) q (nI 0))) 170 (upd (M 170) q (M 165 g))) 171 (cyF (M 171) (M 166) (24 * q) (24 * g) (k + 1))) p) dX10_lay_180 rfl hk rfl (by omega) (mm_wo (by decide) (by rw [zs_eq, zs_zs, cyF_s])) ?_
                      refine j_iinc (n := 184) (y := nI (k + 1)) (lv2 := [some (.ref 160), some (.int (nI q)), some (.int (nI 2)), some (.int (nI g)), none, some (.int (M 167 q)), some (.int (nI (k + 1)))]) dX10_lay_181 rfl rfl (by decide) rfl (show nI k + nI 1 = nI (k + 1) by rw [nI_add]) rfl ?_
                      refine j_goto (n := 150) dX10_lay_184 rfl ?_
                      exact ih _ (by omega) (k + 1) rfl (by omega)
                refine j_mem (M2 := mm (zs (zs (zs (zs (zs M 167 (upd (M 167) q (nI 2))) 168 (upd (M 168) q (nI g))) 169 (upd (M 169) q (nI 0))) 170 (upd (M 170) q (M 165 g))) 171 (cyF (M 171) (M 166) (24 * q) (24 * g) 0)) p) (congrArg (fun z => mm z p) (by rw [cyF_0]; exact (zs_id _ 171).symm.trans (congrArg (zs _ 171) (by simp [zs])))) ?_
                exact loop _ 0 rfl (Nat.zero_le _)
            · exact absurd h12 (by decide)
          · exact absurd h11 (by decide)
        · refine j_ldcw (n := 73) (v := -1000000011) dX10_lay_70 rfl kX10_316 ?_
          exact j_ri dX10_lay_73 rfl (Nat.le_refl _) (Nat.le_refl _) (by first | (exfalso; omega) | unfold r_lay; (try rw [eq]); (try rw [ekq]); repeat (first | rw [if_pos (by omega)] | rw [if_neg (by omega)])) (by first | (exfalso; omega) | unfold m_lay; (try rw [eq]); (try rw [ekq]); (try rw [show k = 24 by omega]); repeat (first | rw [if_pos (by omega)] | rw [if_neg (by omega)])) rfl
    · have et : thing = nI 3 := int32_eq (by rw [ht]; rfl)
      subst et
      refine j_iload_n (n := 57) dX10_lay_56 rfl rfl ?_
      refine j_iconst (n := 58) (v := nI 2) dX10_lay_57 rfl rfl ?_
      refine j_icmp_neT (n := 61) (tg := 74) dX10_lay_58 rfl rfl (i_N (by omega)) (i_N (by omega)) (fun h15 => ?_) (fun h15 => ?_)
      · refine j_aload_n (n := 75) dX10_lay_74 rfl rfl ?_
        refine jm_get (n := 78) (k := 7) (b := 167) dX10_lay_75 rfl fX10_28 rfl (by decide) hk ?_
        refine j_iload_n (n := 79) dX10_lay_78 rfl rfl ?_
        refine jm_ald (n := 80) (L := 5) (a := 167) (i := q) (v := M 167 q) dX10_lay_79 rfl hk rfl (by omega) rfl ?_
        refine j_istore (n := 82) (lv2 := [some (.ref 160), some (.int (nI q)), some (.int (nI 3)), some (.int kk), none, some (.int (M 167 q)), none]) dX10_lay_80 rfl rfl (by decide) rfl ?_
        refine j_aload_n (n := 83) dX10_lay_82 rfl rfl ?_
        refine jm_get (n := 86) (k := 7) (b := 167) dX10_lay_83 rfl fX10_28 rfl (by decide) hk ?_
        refine j_iload_n (n := 87) dX10_lay_86 rfl rfl ?_
        refine j_iload_n (n := 88) dX10_lay_87 rfl rfl ?_
        refine jm_ast (n := 89) (L := 5) (a := 167) (i := q) (x := nI 3) (M2 := mm (zs M 167 (upd (M 167) q (nI 3))) p) dX10_lay_88 rfl hk rfl (by omega) (mm_wo (by decide) rfl) ?_
        refine j_aload_n (n := 90) dX10_lay_89 rfl rfl ?_
        refine jm_get (n := 93) (k := 8) (b := 168) dX10_lay_90 rfl fX10_31 rfl (by decide) hk ?_
        refine j_iload_n (n := 94) dX10_lay_93 rfl rfl ?_
        refine j_iload_n (n := 95) dX10_lay_94 rfl rfl ?_
        refine j_iconst (n := 96) (v := nI 1) dX10_lay_95 rfl rfl ?_
        refine j_icmp_neT (n := 99) (tg := 108) dX10_lay_96 rfl rfl (i_N (by omega)) (i_N (by omega)) (fun h16 => ?_) (fun h16 => ?_)
        · refine j_iload_n (n := 109) dX10_lay_108 rfl rfl ?_
          refine jm_ast (n := 110) (L := 5) (a := 168) (i := q) (x := kk) (M2 := mm (zs (zs M 167 (upd (M 167) q (nI 3))) 168 (upd (M 168) q kk)) p) dX10_lay_109 rfl hk rfl (by omega) (mm_wo (by decide) (congrArg (fun f => zs _ _ (upd f _ _)) (show _ = _ from by simp [zs]))) ?_
          refine j_aload_n (n := 111) dX10_lay_110 rfl rfl ?_
          refine jm_get (n := 114) (k := 9) (b := 169) dX10_lay_111 rfl fX10_34 rfl (by decide) hk ?_
          refine j_iload_n (n := 115) dX10_lay_114 rfl rfl ?_
          refine j_iload_n (n := 116) dX10_lay_115 rfl rfl ?_
          refine j_iconst (n := 117) (v := nI 1) dX10_lay_116 rfl rfl ?_
          refine j_icmp_neT (n := 120) (tg := 128) dX10_lay_117 rfl rfl (i_N (by omega)) (i_N (by omega)) (fun h17 => ?_) (fun h17 => ?_)
          · refine j_iconst (n := 129) (v := nI 0) dX10_lay_128 rfl rfl ?_
            refine jm_ast (n := 130) (L := 5) (a := 169) (i := q) (x := nI 0) (M2 := mm (zs (zs (zs M 167 (upd (M 167) q (nI 3))) 168 (upd (M 168) q kk)) 169 (upd (M 169) q (nI 0))) p) dX10_lay_129 rfl hk rfl (by omega) (mm_wo (by decide) (congrArg (fun f => zs _ _ (upd f _ _)) (show _ = _ from by simp [zs]))) ?_
            refine j_iload_n (n := 131) dX10_lay_130 rfl rfl ?_
            refine j_iconst (n := 132) (v := nI 2) dX10_lay_131 rfl rfl ?_
            refine j_icmp_neT (n := 135) (tg := 187) dX10_lay_132 rfl rfl (i_N (by omega)) (i_N (by omega)) (fun h18 => ?_) (fun h18 => ?_)
            · refine j_iload (n := 189) dX10_lay_187 rfl rfl ?_
              exact j_ri dX10_lay_189 rfl (Nat.le_refl _) (Nat.le_refl _) (by first | (exfalso; omega) | unfold r_lay; (try rw [eq]); (try rw [ekq]); repeat (first | rw [if_pos (by omega)] | rw [if_neg (by omega)])) (by first | (exfalso; omega) | unfold m_lay; (try rw [eq]); (try rw [ekq]); (try rw [show k = 24 by omega]); repeat (first | rw [if_pos (by omega)] | rw [if_neg (by omega)])) rfl
            · exact absurd h18 (by decide)
          · exact absurd h17 (by decide)
        · exact absurd h16 (by decide)
      · exact absurd h15 (by decide)
  refine j_iload_n (n := 1) dX10_lay_0 rfl rfl ?_
  refine j_if_eqT (n := 4) (tg := 34) dX10_lay_1 rfl rfl (fun h19 => ?_) (fun h19 => ?_)
  · refine j_iconst (n := 35) (v := nI 1) dX10_lay_34 rfl rfl ?_
    refine j_goto (n := 39) dX10_lay_35 rfl ?_
    refine j_istore (n := 41) (lv2 := [some (.ref 160), some (.int slot), some (.int thing), some (.int kk), some (.int (nI 1)), none, none]) dX10_lay_39 rfl rfl (by decide) rfl ?_
    refine j_iload_n (n := 42) dX10_lay_41 rfl rfl ?_
    refine j_cS (n := 45) dX10_lay_42 rfl sX10_325 (c_isSlot (d + 1) G _ _ _) (by omega) (by decide) rfl rfl (Nat.le_of_ble_eq_true rfl) (by decide) (by decide) ?_
    refine j_if_eqB (n := 48) (tg := 53) dX10_lay_45 rfl rfl (fun h20 => ?_) (fun h20 => ?_)
    · refine j_ldc (n := 55) (v := -1000000001) dX10_lay_53 rfl kX10_93 ?_
      exact j_ri dX10_lay_55 rfl (Nat.le_refl _) (Nat.le_refl _) (by first | (exfalso; omega) | unfold r_lay; (try rw [eq]); (try rw [ekq]); repeat (first | rw [if_pos (by omega)] | rw [if_neg (by omega)])) (by first | (exfalso; omega) | unfold m_lay; (try rw [eq]); (try rw [ekq]); (try rw [show k = 24 by omega]); repeat (first | rw [if_pos (by omega)] | rw [if_neg (by omega)])) rfl
    · refine j_iload (n := 50) dX10_lay_48 rfl rfl ?_
      refine j_if_neN (n := 53) (tg := 56) dX10_lay_50 rfl rfl (by omega) (fun h21 => ?_) (fun h21 => ?_)
      · refine j_wk (lv2 := [some (.ref 160), some (.int slot), some (.int thing), some (.int kk), none, none, none]) ⟨rfl, rfl, rfl, rfl, trivial⟩ ?_
        exact e56 (by assumption) (by omega)
      · exact absurd h21 (by decide)
  · refine j_iload_n (n := 5) dX10_lay_4 rfl rfl ?_
    refine j_iconst (n := 6) (v := nI 3) dX10_lay_5 rfl rfl ?_
    refine j_icmp_eqT (n := 9) (tg := 34) dX10_lay_6 rfl rfl rfl (i_N (by omega)) (fun h22 => ?_) (fun h22 => ?_)
    · refine j_iconst (n := 35) (v := nI 1) dX10_lay_34 rfl rfl ?_
      refine j_goto (n := 39) dX10_lay_35 rfl ?_
      refine j_istore (n := 41) (lv2 := [some (.ref 160), some (.int slot), some (.int thing), some (.int kk), some (.int (nI 1)), none, none]) dX10_lay_39 rfl rfl (by decide) rfl ?_
      refine j_iload_n (n := 42) dX10_lay_41 rfl rfl ?_
      refine j_cS (n := 45) dX10_lay_42 rfl sX10_325 (c_isSlot (d + 1) G _ _ _) (by omega) (by decide) rfl rfl (Nat.le_of_ble_eq_true rfl) (by decide) (by decide) ?_
      refine j_if_eqB (n := 48) (tg := 53) dX10_lay_45 rfl rfl (fun h23 => ?_) (fun h23 => ?_)
      · refine j_ldc (n := 55) (v := -1000000001) dX10_lay_53 rfl kX10_93 ?_
        exact j_ri dX10_lay_55 rfl (Nat.le_refl _) (Nat.le_refl _) (by first | (exfalso; omega) | unfold r_lay; (try rw [eq]); (try rw [ekq]); repeat (first | rw [if_pos (by omega)] | rw [if_neg (by omega)])) (by first | (exfalso; omega) | unfold m_lay; (try rw [eq]); (try rw [ekq]); (try rw [show k = 24 by omega]); repeat (first | rw [if_pos (by omega)] | rw [if_neg (by omega)])) rfl
      · refine j_iload (n := 50) dX10_lay_48 rfl rfl ?_
        refine j_if_neN (n := 53) (tg := 56) dX10_lay_50 rfl rfl (by omega) (fun h24 => ?_) (fun h24 => ?_)
        · refine j_wk (lv2 := [some (.ref 160), some (.int slot), some (.int thing), some (.int kk), none, none, none]) ⟨rfl, rfl, rfl, rfl, trivial⟩ ?_
          exact e56 (by assumption) (by omega)
        · exact absurd h24 (by decide)
    · refine j_iload_n (n := 10) dX10_lay_9 rfl rfl ?_
      refine j_iconst (n := 11) (v := nI 1) dX10_lay_10 rfl rfl ?_
      refine j_icmp_neT (n := 14) (tg := 22) dX10_lay_11 rfl rfl rfl (i_N (by omega)) (fun h25 => ?_) (fun h25 => ?_)
      · refine j_iload_n (n := 23) dX10_lay_22 rfl rfl ?_
        refine j_iconst (n := 24) (v := nI 2) dX10_lay_23 rfl rfl ?_
        refine j_icmp_neT (n := 27) (tg := 38) dX10_lay_24 rfl rfl rfl (i_N (by omega)) (fun h26 => ?_) (fun h26 => ?_)
        · refine j_iconst (n := 39) (v := nI 0) dX10_lay_38 rfl rfl ?_
          refine j_istore (n := 41) (lv2 := [some (.ref 160), some (.int slot), some (.int thing), some (.int kk), some (.int (nI 0)), none, none]) dX10_lay_39 rfl rfl (by decide) rfl ?_
          refine j_iload_n (n := 42) dX10_lay_41 rfl rfl ?_
          refine j_cS (n := 45) dX10_lay_42 rfl sX10_325 (c_isSlot (d + 1) G _ _ _) (by omega) (by decide) rfl rfl (Nat.le_of_ble_eq_true rfl) (by decide) (by decide) ?_
          refine j_if_eqB (n := 48) (tg := 53) dX10_lay_45 rfl rfl (fun h27 => ?_) (fun h27 => ?_)
          · refine j_ldc (n := 55) (v := -1000000001) dX10_lay_53 rfl kX10_93 ?_
            exact j_ri dX10_lay_55 rfl (Nat.le_refl _) (Nat.le_refl _) (by first | (exfalso; omega) | unfold r_lay; (try rw [eq]); (try rw [ekq]); repeat (first | rw [if_pos (by omega)] | rw [if_neg (by omega)])) (by first | (exfalso; omega) | unfold m_lay; (try rw [eq]); (try rw [ekq]); (try rw [show k = 24 by omega]); repeat (first | rw [if_pos (by omega)] | rw [if_neg (by omega)])) rfl
          · refine j_iload (n := 50) dX10_lay_48 rfl rfl ?_
            refine j_if_neN (n := 53) (tg := 56) dX10_lay_50 rfl rfl (by omega) (fun h28 => ?_) (fun h28 => ?_)
            · exact absurd h28 (by decide)
            · refine j_ldc (n := 55) (v := -1000000001) dX10_lay_53 rfl kX10_93 ?_
              exact j_ri dX10_lay_55 rfl (Nat.le_refl _) (Nat.le_refl _) (by first | (exfalso; omega) | unfold r_lay; (try rw [eq]); (try rw [ekq]); repeat (first | rw [if_pos (by omega)] | rw [if_neg (by omega)])) (by first | (exfalso; omega) | unfold m_lay; (try rw [eq]); (try rw [ekq]); (try rw [show k = 24 by omega]); repeat (first | rw [if_pos (by omega)] | rw [if_neg (by omega)])) rfl
        · refine j_iload_n (n := 28) dX10_lay_27 rfl rfl ?_
          refine j_cS (n := 31) dX10_lay_28 rfl sX10_310 (c_isSheet (d + 1) G _ _ _) (by omega) (by decide) rfl rfl (Nat.le_of_ble_eq_true rfl) (by decide) (by decide) ?_
          refine j_if_eqB (n := 34) (tg := 38) dX10_lay_31 rfl rfl (fun h29 => ?_) (fun h29 => ?_)
          · refine j_iconst (n := 39) (v := nI 0) dX10_lay_38 rfl rfl ?_
            refine j_istore (n := 41) (lv2 := [some (.ref 160), some (.int slot), some (.int thing), some (.int kk), some (.int (nI 0)), none, none]) dX10_lay_39 rfl rfl (by decide) rfl ?_
            refine j_iload_n (n := 42) dX10_lay_41 rfl rfl ?_
            refine j_cS (n := 45) dX10_lay_42 rfl sX10_325 (c_isSlot (d + 1) G _ _ _) (by omega) (by decide) rfl rfl (Nat.le_of_ble_eq_true rfl) (by decide) (by decide) ?_
            refine j_if_eqB (n := 48) (tg := 53) dX10_lay_45 rfl rfl (fun h30 => ?_) (fun h30 => ?_)
            · refine j_ldc (n := 55) (v := -1000000001) dX10_lay_53 rfl kX10_93 ?_
              exact j_ri dX10_lay_55 rfl (Nat.le_refl _) (Nat.le_refl _) (by first | (exfalso; omega) | unfold r_lay; (try rw [eq]); (try rw [ekq]); repeat (first | rw [if_pos (by omega)] | rw [if_neg (by omega)])) (by first | (exfalso; omega) | unfold m_lay; (try rw [eq]); (try rw [ekq]); (try rw [show k = 24 by omega]); repeat (first | rw [if_pos (by omega)] | rw [if_neg (by omega)])) rfl
            · refine j_iload (n := 50) dX10_lay_48 rfl rfl ?_
              refine j_if_neN (n := 53) (tg := 56) dX10_lay_50 rfl rfl (by omega) (fun h31 => ?_) (fun h31 => ?_)
              · exact absurd h31 (by decide)
              · refine j_ldc (n := 55) (v := -1000000001) dX10_lay_53 rfl kX10_93 ?_
                exact j_ri dX10_lay_55 rfl (Nat.le_refl _) (Nat.le_refl _) (by first | (exfalso; omega) | unfold r_lay; (try rw [eq]); (try rw [ekq]); repeat (first | rw [if_pos (by omega)] | rw [if_neg (by omega)])) (by first | (exfalso; omega) | unfold m_lay; (try rw [eq]); (try rw [ekq]); (try rw [show k = 24 by omega]); repeat (first | rw [if_pos (by omega)] | rw [if_neg (by omega)])) rfl
          · refine j_iconst (n := 35) (v := nI 1) dX10_lay_34 rfl rfl ?_
            refine j_goto (n := 39) dX10_lay_35 rfl ?_
            refine j_istore (n := 41) (lv2 := [some (.ref 160), some (.int slot), some (.int thing), some (.int kk), some (.int (nI 1)), none, none]) dX10_lay_39 rfl rfl (by decide) rfl ?_
            refine j_iload_n (n := 42) dX10_lay_41 rfl rfl ?_
            refine j_cS (n := 45) dX10_lay_42 rfl sX10_325 (c_isSlot (d + 1) G _ _ _) (by omega) (by decide) rfl rfl (Nat.le_of_ble_eq_true rfl) (by decide) (by decide) ?_
            refine j_if_eqB (n := 48) (tg := 53) dX10_lay_45 rfl rfl (fun h32 => ?_) (fun h32 => ?_)
            · refine j_ldc (n := 55) (v := -1000000001) dX10_lay_53 rfl kX10_93 ?_
              exact j_ri dX10_lay_55 rfl (Nat.le_refl _) (Nat.le_refl _) (by first | (exfalso; omega) | unfold r_lay; (try rw [eq]); (try rw [ekq]); repeat (first | rw [if_pos (by omega)] | rw [if_neg (by omega)])) (by first | (exfalso; omega) | unfold m_lay; (try rw [eq]); (try rw [ekq]); (try rw [show k = 24 by omega]); repeat (first | rw [if_pos (by omega)] | rw [if_neg (by omega)])) rfl
            · refine j_iload (n := 50) dX10_lay_48 rfl rfl ?_
              refine j_if_neN (n := 53) (tg := 56) dX10_lay_50 rfl rfl (by omega) (fun h33 => ?_) (fun h33 => ?_)
              · refine j_wk (lv2 := [some (.ref 160), some (.int slot), some (.int thing), some (.int kk), none, none, none]) ⟨rfl, rfl, rfl, rfl, trivial⟩ ?_
                exact e56 (by assumption) (by omega)
              · exact absurd h33 (by decide)
      · refine j_aload_n (n := 15) dX10_lay_14 rfl rfl ?_
        refine j_iload_n (n := 16) dX10_lay_15 rfl rfl ?_
        refine j_cV (n := 19) dX10_lay_16 rfl sX10_120 (c_isOne (d + 1) G _ _ hk _ (by omega) _) (by omega) (by decide) rfl rfl (Nat.le_of_ble_eq_true rfl) (hk).2.1 (by decide) (kM_lt hk) (by decide) (by decide) ?_
        refine j_if_neB (n := 22) (tg := 34) dX10_lay_19 rfl rfl (fun h34 => ?_) (fun h34 => ?_)
        · refine j_iconst (n := 35) (v := nI 1) dX10_lay_34 rfl rfl ?_
          refine j_goto (n := 39) dX10_lay_35 rfl ?_
          refine j_istore (n := 41) (lv2 := [some (.ref 160), some (.int slot), some (.int thing), some (.int kk), some (.int (nI 1)), none, none]) dX10_lay_39 rfl rfl (by decide) rfl ?_
          refine j_iload_n (n := 42) dX10_lay_41 rfl rfl ?_
          refine j_cS (n := 45) dX10_lay_42 rfl sX10_325 (c_isSlot (d + 1) G _ _ _) (by omega) (by decide) rfl rfl (Nat.le_of_ble_eq_true rfl) (by decide) (by decide) ?_
          refine j_if_eqB (n := 48) (tg := 53) dX10_lay_45 rfl rfl (fun h35 => ?_) (fun h35 => ?_)
          · refine j_ldc (n := 55) (v := -1000000001) dX10_lay_53 rfl kX10_93 ?_
            exact j_ri dX10_lay_55 rfl (Nat.le_refl _) (Nat.le_refl _) (by first | (exfalso; omega) | unfold r_lay; (try rw [eq]); (try rw [ekq]); repeat (first | rw [if_pos (by omega)] | rw [if_neg (by omega)])) (by first | (exfalso; omega) | unfold m_lay; (try rw [eq]); (try rw [ekq]); (try rw [show k = 24 by omega]); repeat (first | rw [if_pos (by omega)] | rw [if_neg (by omega)])) rfl
          · refine j_iload (n := 50) dX10_lay_48 rfl rfl ?_
            refine j_if_neN (n := 53) (tg := 56) dX10_lay_50 rfl rfl (by omega) (fun h36 => ?_) (fun h36 => ?_)
            · refine j_wk (lv2 := [some (.ref 160), some (.int slot), some (.int thing), some (.int kk), none, none, none]) ⟨rfl, rfl, rfl, rfl, trivial⟩ ?_
              exact e56 (by assumption) (by omega)
            · exact absurd h36 (by decide)
        · refine j_iload_n (n := 23) dX10_lay_22 rfl rfl ?_
          refine j_iconst (n := 24) (v := nI 2) dX10_lay_23 rfl rfl ?_
          refine j_icmp_neT (n := 27) (tg := 38) dX10_lay_24 rfl rfl rfl (i_N (by omega)) (fun h37 => ?_) (fun h37 => ?_)
          · refine j_iconst (n := 39) (v := nI 0) dX10_lay_38 rfl rfl ?_
            refine j_istore (n := 41) (lv2 := [some (.ref 160), some (.int slot), some (.int thing), some (.int kk), some (.int (nI 0)), none, none]) dX10_lay_39 rfl rfl (by decide) rfl ?_
            refine j_iload_n (n := 42) dX10_lay_41 rfl rfl ?_
            refine j_cS (n := 45) dX10_lay_42 rfl sX10_325 (c_isSlot (d + 1) G _ _ _) (by omega) (by decide) rfl rfl (Nat.le_of_ble_eq_true rfl) (by decide) (by decide) ?_
            refine j_if_eqB (n := 48) (tg := 53) dX10_lay_45 rfl rfl (fun h38 => ?_) (fun h38 => ?_)
            · refine j_ldc (n := 55) (v := -1000000001) dX10_lay_53 rfl kX10_93 ?_
              exact j_ri dX10_lay_55 rfl (Nat.le_refl _) (Nat.le_refl _) (by first | (exfalso; omega) | unfold r_lay; (try rw [eq]); (try rw [ekq]); repeat (first | rw [if_pos (by omega)] | rw [if_neg (by omega)])) (by first | (exfalso; omega) | unfold m_lay; (try rw [eq]); (try rw [ekq]); (try rw [show k = 24 by omega]); repeat (first | rw [if_pos (by omega)] | rw [if_neg (by omega)])) rfl
            · refine j_iload (n := 50) dX10_lay_48 rfl rfl ?_
              refine j_if_neN (n := 53) (tg := 56) dX10_lay_50 rfl rfl (by omega) (fun h39 => ?_) (fun h39 => ?_)
              · exact absurd h39 (by decide)
              · refine j_ldc (n := 55) (v := -1000000001) dX10_lay_53 rfl kX10_93 ?_
                exact j_ri dX10_lay_55 rfl (Nat.le_refl _) (Nat.le_refl _) (by first | (exfalso; omega) | unfold r_lay; (try rw [eq]); (try rw [ekq]); repeat (first | rw [if_pos (by omega)] | rw [if_neg (by omega)])) (by first | (exfalso; omega) | unfold m_lay; (try rw [eq]); (try rw [ekq]); (try rw [show k = 24 by omega]); repeat (first | rw [if_pos (by omega)] | rw [if_neg (by omega)])) rfl
          · refine j_iload_n (n := 28) dX10_lay_27 rfl rfl ?_
            refine j_cS (n := 31) dX10_lay_28 rfl sX10_310 (c_isSheet (d + 1) G _ _ _) (by omega) (by decide) rfl rfl (Nat.le_of_ble_eq_true rfl) (by decide) (by decide) ?_
            refine j_if_eqB (n := 34) (tg := 38) dX10_lay_31 rfl rfl (fun h40 => ?_) (fun h40 => ?_)
            · refine j_iconst (n := 39) (v := nI 0) dX10_lay_38 rfl rfl ?_
              refine j_istore (n := 41) (lv2 := [some (.ref 160), some (.int slot), some (.int thing), some (.int kk), some (.int (nI 0)), none, none]) dX10_lay_39 rfl rfl (by decide) rfl ?_
              refine j_iload_n (n := 42) dX10_lay_41 rfl rfl ?_
              refine j_cS (n := 45) dX10_lay_42 rfl sX10_325 (c_isSlot (d + 1) G _ _ _) (by omega) (by decide) rfl rfl (Nat.le_of_ble_eq_true rfl) (by decide) (by decide) ?_
              refine j_if_eqB (n := 48) (tg := 53) dX10_lay_45 rfl rfl (fun h41 => ?_) (fun h41 => ?_)
              · refine j_ldc (n := 55) (v := -1000000001) dX10_lay_53 rfl kX10_93 ?_
                exact j_ri dX10_lay_55 rfl (Nat.le_refl _) (Nat.le_refl _) (by first | (exfalso; omega) | unfold r_lay; (try rw [eq]); (try rw [ekq]); repeat (first | rw [if_pos (by omega)] | rw [if_neg (by omega)])) (by first | (exfalso; omega) | unfold m_lay; (try rw [eq]); (try rw [ekq]); (try rw [show k = 24 by omega]); repeat (first | rw [if_pos (by omega)] | rw [if_neg (by omega)])) rfl
              · refine j_iload (n := 50) dX10_lay_48 rfl rfl ?_
                refine j_if_neN (n := 53) (tg := 56) dX10_lay_50 rfl rfl (by omega) (fun h42 => ?_) (fun h42 => ?_)
                · exact absurd h42 (by decide)
                · refine j_ldc (n := 55) (v := -1000000001) dX10_lay_53 rfl kX10_93 ?_
                  exact j_ri dX10_lay_55 rfl (Nat.le_refl _) (Nat.le_refl _) (by first | (exfalso; omega) | unfold r_lay; (try rw [eq]); (try rw [ekq]); repeat (first | rw [if_pos (by omega)] | rw [if_neg (by omega)])) (by first | (exfalso; omega) | unfold m_lay; (try rw [eq]); (try rw [ekq]); (try rw [show k = 24 by omega]); repeat (first | rw [if_pos (by omega)] | rw [if_neg (by omega)])) rfl
            · refine j_iconst (n := 35) (v := nI 1) dX10_lay_34 rfl rfl ?_
              refine j_goto (n := 39) dX10_lay_35 rfl ?_
              refine j_istore (n := 41) (lv2 := [some (.ref 160), some (.int slot), some (.int thing), some (.int kk), some (.int (nI 1)), none, none]) dX10_lay_39 rfl rfl (by decide) rfl ?_
              refine j_iload_n (n := 42) dX10_lay_41 rfl rfl ?_
              refine j_cS (n := 45) dX10_lay_42 rfl sX10_325 (c_isSlot (d + 1) G _ _ _) (by omega) (by decide) rfl rfl (Nat.le_of_ble_eq_true rfl) (by decide) (by decide) ?_
              refine j_if_eqB (n := 48) (tg := 53) dX10_lay_45 rfl rfl (fun h43 => ?_) (fun h43 => ?_)
              · refine j_ldc (n := 55) (v := -1000000001) dX10_lay_53 rfl kX10_93 ?_
                exact j_ri dX10_lay_55 rfl (Nat.le_refl _) (Nat.le_refl _) (by first | (exfalso; omega) | unfold r_lay; (try rw [eq]); (try rw [ekq]); repeat (first | rw [if_pos (by omega)] | rw [if_neg (by omega)])) (by first | (exfalso; omega) | unfold m_lay; (try rw [eq]); (try rw [ekq]); (try rw [show k = 24 by omega]); repeat (first | rw [if_pos (by omega)] | rw [if_neg (by omega)])) rfl
              · refine j_iload (n := 50) dX10_lay_48 rfl rfl ?_
                refine j_if_neN (n := 53) (tg := 56) dX10_lay_50 rfl rfl (by omega) (fun h44 => ?_) (fun h44 => ?_)
                · refine j_wk (lv2 := [some (.ref 160), some (.int slot), some (.int thing), some (.int kk), none, none, none]) ⟨rfl, rfl, rfl, rfl, trivial⟩ ?_
                  exact e56 (by assumption) (by omega)
                · exact absurd h44 (by decide)
theorem dep_agree {p q : Nat → Nat} {a n : Nat} (h : ∀ i, a ≤ i → i < a + 2 * n → q i = p i) : ∀ k, k ≤ n → dep q a k = dep p a k
  | 0, _ => rfl
  | k + 1, hk => by rw [dep, dep, dep_agree h k (by omega), h _ (by omega) (by omega), h _ (by omega) (by omega)]
theorem wfX_agree {p q : Nat → Nat} (h : ∀ i, i < 2900 → q i = p i) {t : Nat} (ht : t < 14) (hx : wfX p t) : wfX q t := by
  obtain ⟨h1, h2, h3, h4, h5, h6⟩ := hx
  have hd := dep_agree (p := p) (q := q) (a := 104 + 200 * t) (n := 96) (fun i _ hi => h i (by omega))
  have e0 := h (100 + 200 * t) (by omega)
  have e1 := h (101 + 200 * t) (by omega)
  have e2 := h (102 + 200 * t) (by omega)
  refine ⟨by rw [e0]; exact h1, by rw [e1]; exact h2, by rw [e2]; exact h3, by rw [e2, hd _ h3]; exact h4, fun k hk => ?_, fun k hk => ?_⟩
  · rw [e2] at hk
    rw [e1, hd k (by omega)]
    exact h5 k hk
  · rw [e2] at hk
    rw [e0, hd k (by omega), h _ (by omega), h _ (by omega)]
    exact h6 k hk
theorem wf_agree {p q : Nat → Nat} {b D : Nat} (h : ∀ i, i < 2900 → q i = p i) (hw : wf p b D) : wf q b D := by
  obtain ⟨h1, h2, h3, h4, h5, h6, h7, h8, h9⟩ := hw
  have e0 := h 0 (by omega)
  have e1 := h 1 (by omega)
  have e8 := h 8 (by omega)
  have b0 := h1.1
  have b8 := h2.1
  have b1 := h3.1
  refine ⟨⟨by rw [e0]; exact b0, fun k hk => ?_⟩, ⟨by rw [e8]; exact b8, fun k hk => ?_⟩, ⟨by rw [e1]; exact b1, fun t ht => ?_⟩, ?_⟩
  · rw [e0] at hk
    rw [h _ (by omega), h _ (by omega), h _ (by omega), h _ (by omega), h _ (by omega)]
    exact h1.2 k hk
  · rw [e8] at hk
    rw [h _ (by omega), h _ (by omega), h _ (by omega), h _ (by omega), h _ (by omega)]
    exact h2.2 k hk
  · rw [e1] at ht
    exact wfX_agree h (by omega) (h3.2 t ht)
  · rw [h 2 (by omega), h 3 (by omega), h 4 (by omega), h 5 (by omega), h 6 (by omega), h 7 (by omega)]
    exact ⟨h4, h5, h6, h7, h8, h9⟩
theorem day_2 {p : Nat → Nat} {b D : Nat} (h : wf p b D) : dayP p 2 = p 2 + 1 := by
  obtain ⟨w1, k1⟩ := wf_people h (p 0) (Nat.le_refl _)
  obtain ⟨w2, k2⟩ := wf_deed w1
  obtain ⟨w3, k3⟩ := wf_pardon w2
  rw [dayP_eq]
  unfold restP
  rw [pu_eq, ((k1.tr k2).tr k3).n2]
theorem days_2 {p : Nat → Nat} {b D : Nat} (h : wf p b D) : ∀ n, daysP p n 2 = p 2 + n
  | 0 => rfl
  | n + 1 => by rw [daysP, day_2 (wf_days h n), days_2 h n]; omega
/-- the rows due -/
def dueV (q : Nat → Nat) (j : Nat) : Int32 := if j % 2 = 0 then nI (daysP q (j / 2 + 1) 3) else nI (sumP (daysP q (j / 2 + 1)) (daysP q (j / 2 + 1) 0))
def chkF (q : Nat → Nat) (W : Nat → Int32) (w m : Nat) : Nat := fi (fun k => ¬ (W k).toInt = (dueV q k).toInt) (min w (2 * m) - 0) 0
def r_check (q : Nat → Nat) (img : Int32) (W : Nat → Int32) (w : Nat) (n : Int32) : Int32 := if ¬ (1 ≤ n.toInt ∧ n.toInt ≤ 30) then cBAD else if img.toInt = 0 then cNO else if chkF q W w (min (tN n) (9999 - q 2)) = w ∧ chkF q W w (min (tN n) (9999 - q 2)) = 2 * min (tN n) (9999 - q 2) then nI 0 else nI (1 + chkF q W w (min (tN n) (9999 - q 2)))
theorem bk_back {M1 : zMem} {p q : Nat → Nat} (h1 : ∀ z, z < 2900 → M1 163 z = nI (p z)) (h2 : ∀ z, 2900 ≤ z → q z = p z) : ∀ z, nI (bkP (fun i => tN (M1 163 i)) q 2900 z) = nI (p z) := by
  intro z
  unfold bkP
  split
  · rw [nI_tN]; exact h1 z (by omega)
  · rw [h2 z (by omega)]
theorem mm_eq {M : zMem} {p q : Nat → Nat} (h : ∀ i, nI (q i) = nI (p i)) : mm M q = mm M p := by
  unfold mm
  rw [show nIf q = nIf p from funext h]
theorem c_check (d : Nat) (G : zG) (M : zMem) (X : zX) (hk : kM X) (p : Nat → Nat) (hwt : tN (M 160 31) ≤ 60) (b : Nat) (hwi : ¬ (M 160 3).toInt = 0 → wf (imP M) b 9999) (hb : b ≤ 800000000) (n : Int32) : zCall G miX10_check (d + 6) [.ref 160, .int n] (zIr (fun r0 M1 X1 => r0 = r_check (bkP (imP M) p 2900) (M 160 3) (M 179) (tN (M 160 31)) n ∧ X1 = X ∧ ∃ M2, scw (zs M 160 (upd (M 160) 31 (nI 0))) M2 ∧ M1 = mm M2 p)) (mm M p) X 0 0 := by
  refine zCall.of (lv := [some (.ref 160), some (.int n), none, none, none]) (by decide) (Nat.le_of_ble_eq_true rfl) rfl ?_
  refine j_aload_n (n := 1) dX10_check_0 rfl rfl ?_
  refine jm_geti (n := 4) (k := 31) (v := nI (tN (M 160 31))) dX10_check_1 rfl fX10_328 hk (nI_tN (M 160 31)).symm ?_
  refine j_istore_n (n := 5) (lv2 := [some (.ref 160), some (.int n), some (.int (nI (tN (M 160 31)))), none, none]) dX10_check_4 rfl rfl (by decide) rfl ?_
  refine j_aload_n (n := 6) dX10_check_5 rfl rfl ?_
  refine j_iconst (n := 7) (v := nI 0) dX10_check_6 rfl rfl ?_
  refine jm_put (n := 10) (k := 31) (x := nI 0) (M2 := mm (zs M 160 (upd (M 160) 31 (nI 0))) p) dX10_check_7 rfl pX10_328 rfl rfl hk (mm_wo (by decide) rfl) ?_
  refine j_iload_n (n := 11) dX10_check_10 rfl rfl ?_
  refine j_i2l (n := 12) dX10_check_11 rfl ?_
  refine j_lconst (n := 13) (v := lN 1) dX10_check_12 rfl rfl ?_
  refine j_ldc2 (n := 16) (v := lN 30) dX10_check_13 rfl kX10_331 ?_
  refine j_cS (n := 19) dX10_check_16 rfl sX10_71 (c_isInI (x := n.toInt) (a := 1) (b := 30) (d + 5) G _ _ _ _ _ (l_toInt _) rfl rfl) (by omega) (by decide) rfl rfl (Nat.le_of_ble_eq_true rfl) (by decide) (by decide) ?_
  refine j_if_neB (n := 22) (tg := 25) dX10_check_19 rfl rfl (fun h1 => ?_) (fun h1 => ?_)
  · obtain ⟨m, hm, rfl⟩ := i_of (x := n) (n := 31) (by omega) (by omega)
    have em : tN (nI m) = m := tN_nI (by omega)
    have im : (nI m).toInt = m := i_N (by omega)
    refine j_aload_n (n := 26) dX10_check_25 rfl rfl ?_
    refine jm_geti (n := 29) (k := 3) (v := M 160 3) dX10_check_26 rfl fX10_333 hk (by simp [mm, zs, upd]) ?_
    refine j_if_neT (n := 32) (tg := 35) dX10_check_29 rfl rfl (fun h2 => ?_) (fun h2 => ?_)
    · have hwq : wf (bkP (imP M) p 2900) b 9999 := wf_agree (fun i hi => if_pos hi) (hwi (by assumption))
      have hq2 := hwq.day
      refine j_aload_n (n := 36) dX10_check_35 rfl rfl ?_
      refine j_aload_n (n := 37) dX10_check_36 rfl rfl ?_
      refine jm_get (n := 40) (k := 0) (b := 161) dX10_check_37 rfl fX10_7 rfl (by decide) hk ?_
      refine j_aload_n (n := 41) dX10_check_40 rfl rfl ?_
      refine jm_get (n := 44) (k := 2) (b := 163) dX10_check_41 rfl fX10_16 rfl (by decide) hk ?_
      refine j_cVv (n := 47) dX10_check_44 rfl sX10_337 (c_setAside (d + 5) G _ _ hk 161 163 rfl rfl (by decide)) (by omega) (by decide) rfl rfl (Nat.le_of_ble_eq_true rfl) (hk).2.1 (by decide) (kM_lt hk) (by decide) (by decide) ?_
      refine j_mem (M2 := mm (zs (zs M 160 (upd (M 160) 31 (nI 0))) 163 (cpF (nIf p) (M 163) 2900)) p) ((set_si _ _ (by decide)).trans (congrArg (fun z => mm (zs _ _ (cpF _ z 2900)) _) (by simp [zs]))) ?_
      refine j_aload_n (n := 48) dX10_check_47 rfl rfl ?_
      refine j_aload_n (n := 49) dX10_check_48 rfl rfl ?_
      refine jm_get (n := 52) (k := 1) (b := 162) dX10_check_49 rfl fX10_13 rfl (by decide) hk ?_
      refine j_aload_n (n := 53) dX10_check_52 rfl rfl ?_
      refine jm_get (n := 56) (k := 0) (b := 161) dX10_check_53 rfl fX10_7 rfl (by decide) hk ?_
      refine j_cVv (n := 59) dX10_check_56 rfl sX10_337 (c_setAside (d + 5) G _ _ hk 162 161 rfl rfl (by decide)) (by omega) (by decide) rfl rfl (Nat.le_of_ble_eq_true rfl) (hk).2.1 (by decide) (kM_lt hk) (by decide) (by decide) ?_
      refine j_mem (M2 := mm (zs (zs M 160 (upd (M 160) 31 (nI 0))) 163 (cpF (nIf p) (M 163) 2900)) (bkP (fun i => tN ((zs (zs M 160 (upd (M 160) 31 (nI 0))) 163 (cpF (nIf p) (M 163) 2900)) 162 i)) p 2900)) (set_is _ _ (by decide)) ?_
      refine j_mem (M2 := mm (zs (zs M 160 (upd (M 160) 31 (nI 0))) 163 (cpF (nIf p) (M 163) 2900)) (bkP (imP M) p 2900)) (congrArg (mm _) (by unfold imP; simp [zs])) ?_
      refine j_iconst (n := 60) (v := nI 0) dX10_check_59 rfl rfl ?_
      refine j_istore_n (n := 61) (lv2 := [some (.ref 160), some (.int (nI m)), some (.int (nI (tN (M 160 31)))), some (.int (nI 0)), none]) dX10_check_60 rfl rfl (by decide) rfl ?_
      refine j_iconst (n := 62) (v := nI 0) dX10_check_61 rfl rfl ?_
      refine j_istore (n := 64) (lv2 := [some (.ref 160), some (.int (nI m)), some (.int (nI (tN (M 160 31)))), some (.int (nI 0)), some (.int (nI 0))]) dX10_check_62 rfl rfl (by decide) rfl ?_
      have e119 : ∀ (i : Nat) (M1 : zMem), i = min m (9999 - (bkP (imP M) p 2900) 2) → scw (zs M 160 (upd (M 160) 31 (nI 0))) M1 → (∀ z, z < 2900 → M1 163 z = nI (p z)) → (∀ z, z < 2 * i → M1 180 z = dueV (bkP (imP M) p 2900) z) → zAt G miX10_check (zRm (d + 6) 0 0) (zQ G (zIr (fun r0 M1 X1 => r0 = r_check (bkP (imP M) p 2900) (M 160 3) (M 179) (tN (M 160 31)) (nI m) ∧ X1 = X ∧ ∃ M2, scw (zs M 160 (upd (M 160) 31 (nI 0))) M2 ∧ M1 = mm M2 p)) 0 0) 119 [some (.ref 160), some (.int (nI m)), some (.int (nI (tN (M 160 31)))), some (.int (nI (2 * i))), none] [] (mm M1 (daysP (bkP (imP M) p 2900) i)) X (0, 0) := by
        intro i M1 hmi hsc h163 h180
        have h179 : M1 179 = M 179 := (hsc 179 (by unfold scq; omega)).trans (zs_ne _ _ (by decide))
        refine j_aload_n (n := 120) dX10_check_119 rfl rfl ?_
        refine j_aload_n (n := 121) dX10_check_120 rfl rfl ?_
        refine jm_get (n := 124) (k := 2) (b := 163) dX10_check_121 rfl fX10_16 rfl (by decide) hk ?_
        refine j_aload_n (n := 125) dX10_check_124 rfl rfl ?_
        refine jm_get (n := 128) (k := 0) (b := 161) dX10_check_125 rfl fX10_7 rfl (by decide) hk ?_
        refine j_cVv (n := 131) dX10_check_128 rfl sX10_337 (c_setAside (d + 5) G _ _ hk 163 161 rfl rfl (by decide)) (by omega) (by decide) rfl rfl (Nat.le_of_ble_eq_true rfl) (hk).2.1 (by decide) (kM_lt hk) (by decide) (by decide) ?_
        refine j_mem (M2 := mm M1 p) ((set_is _ _ (by decide)).trans (mm_eq (bk_back h163 (fun z hz => (days_hi hwq (by omega) i).trans (if_neg (by omega)))))) ?_
        refine j_iconst (n := 132) (v := nI 0) dX10_check_131 rfl rfl ?_
        refine j_istore (n := 134) (lv2 := [some (.ref 160), some (.int (nI m)), some (.int (nI (tN (M 160 31)))), some (.int (nI (2 * i))), some (.int (nI 0))]) dX10_check_132 rfl rfl (by decide) rfl ?_
        have fin : ∀ k : Nat, k = chkF (bkP (imP M) p 2900) (M 179) (tN (M 160 31)) i → k ≤ tN (M 160 31) → k ≤ 2 * i → zAt G miX10_check (zRm (d + 6) 0 0) (zQ G (zIr (fun r0 M1 X1 => r0 = r_check (bkP (imP M) p 2900) (M 160 3) (M 179) (tN (M 160 31)) (nI m) ∧ X1 = X ∧ ∃ M2, scw (zs M 160 (upd (M 160) 31 (nI 0))) M2 ∧ M1 = mm M2 p)) 0 0) 169 [some (.ref 160), some (.int (nI m)), some (.int (nI (tN (M 160 31)))), some (.int (nI (2 * i))), some (.int (nI k))] [] (mm M1 p) X (0, 0) := by
          intro k ek hkw hki
          refine j_iload (n := 171) dX10_check_169 rfl rfl ?_
          refine j_iload_n (n := 172) dX10_check_171 rfl rfl ?_
          refine j_icmp_neT (n := 175) (tg := 185) dX10_check_172 rfl rfl (i_N (by omega)) (i_N (by omega)) (fun h3 => ?_) (fun h3 => ?_)
          · refine j_iconst (n := 186) (v := nI 1) dX10_check_185 rfl rfl ?_
            refine j_iload (n := 188) dX10_check_186 rfl rfl ?_
            refine j_iaddN (n := 189) (c := 1 + k) dX10_check_188 rfl rfl ?_
            exact j_iret dX10_check_189 rfl rfl (Nat.le_refl _) (Nat.le_refl _) ⟨_, rfl, by unfold r_check; rw [em, if_neg (by omega), if_neg (by omega), ← hmi, ← ek]; first | rw [if_pos (by omega)] | rw [if_neg (by omega)], rfl, M1, hsc, rfl⟩
          · refine j_iload (n := 177) dX10_check_175 rfl rfl ?_
            refine j_iload_n (n := 178) dX10_check_177 rfl rfl ?_
            refine j_icmp_neT (n := 181) (tg := 185) dX10_check_178 rfl rfl (i_N (by omega)) (i_N (by omega)) (fun h4 => ?_) (fun h4 => ?_)
            · refine j_iconst (n := 186) (v := nI 1) dX10_check_185 rfl rfl ?_
              refine j_iload (n := 188) dX10_check_186 rfl rfl ?_
              refine j_iaddN (n := 189) (c := 1 + k) dX10_check_188 rfl rfl ?_
              exact j_iret dX10_check_189 rfl rfl (Nat.le_refl _) (Nat.le_refl _) ⟨_, rfl, by unfold r_check; rw [em, if_neg (by omega), if_neg (by omega), ← hmi, ← ek]; first | rw [if_pos (by omega)] | rw [if_neg (by omega)], rfl, M1, hsc, rfl⟩
            · refine j_iconst (n := 182) (v := nI 0) dX10_check_181 rfl rfl ?_
              refine j_goto (n := 189) dX10_check_182 rfl ?_
              exact j_iret dX10_check_189 rfl rfl (Nat.le_refl _) (Nat.le_refl _) ⟨_, rfl, by unfold r_check; rw [em, if_neg (by omega), if_neg (by omega), ← hmi, ← ek]; first | rw [if_pos (by omega)] | rw [if_neg (by omega)], rfl, M1, hsc, rfl⟩
        have loop : ∀ (j k : Nat), min (tN (M 160 31)) (2 * i) - k = j → k ≤ min (tN (M 160 31)) (2 * i) → chkF (bkP (imP M) p 2900) (M 179) (tN (M 160 31)) i = fi (fun k => ¬ (M 179 k).toInt = (dueV (bkP (imP M) p 2900) k).toInt) (min (tN (M 160 31)) (2 * i) - k) k → zAt G miX10_check (zRm (d + 6) 0 0) (zQ G (zIr (fun r0 M1 X1 => r0 = r_check (bkP (imP M) p 2900) (M 160 3) (M 179) (tN (M 160 31)) (nI m) ∧ X1 = X ∧ ∃ M2, scw (zs M 160 (upd (M 160) 31 (nI 0))) M2 ∧ M1 = mm M2 p)) 0 0) 134 [some (.ref 160), some (.int (nI m)), some (.int (nI (tN (M 160 31)))), some (.int (nI (2 * i))), some (.int (nI k))] [] (mm M1 p) X (0, 0) := by
          intro j
          induction j using Nat.strongRecOn with
          | ind j ih =>
            intro k hj hk0 hF
            refine j_iload (n := 136) dX10_check_134 rfl rfl ?_
            refine j_iload_n (n := 137) dX10_check_136 rfl rfl ?_
            refine j_icmp_geT (n := 140) (tg := 169) dX10_check_137 rfl rfl (i_N (by omega)) (i_N (by omega)) (fun h5 => ?_) (fun h5 => ?_)
            · exact fin k (hF.trans (by first | exact fi_n (by omega) | exact fi_t (by omega) (by assumption))).symm (by omega) (by omega)
            · refine j_iload (n := 142) dX10_check_140 rfl rfl ?_
              refine j_iload_n (n := 143) dX10_check_142 rfl rfl ?_
              refine j_icmp_geT (n := 146) (tg := 169) dX10_check_143 rfl rfl (i_N (by omega)) (i_N (by omega)) (fun h6 => ?_) (fun h6 => ?_)
              · exact fin k (hF.trans (by first | exact fi_n (by omega) | exact fi_t (by omega) (by assumption))).symm (by omega) (by omega)
              · refine j_aload_n (n := 147) dX10_check_146 rfl rfl ?_
                refine jm_get (n := 150) (k := 30) (b := 179) dX10_check_147 rfl fX10_64 rfl (by decide) hk ?_
                refine j_iload (n := 152) dX10_check_150 rfl rfl ?_
                refine jm_ald (n := 153) (L := 60) (a := 179) (i := k) (v := M 179 k) dX10_check_152 rfl hk rfl (by omega) (congrFun h179 k) ?_
                refine j_aload_n (n := 154) dX10_check_153 rfl rfl ?_
                refine jm_get (n := 157) (k := 32) (b := 180) dX10_check_154 rfl fX10_67 rfl (by decide) hk ?_
                refine j_iload (n := 159) dX10_check_157 rfl rfl ?_
                refine jm_ald (n := 160) (L := 60) (a := 180) (i := k) (v := dueV (bkP (imP M) p 2900) k) dX10_check_159 rfl hk rfl (by omega) (h180 k (by omega)) ?_
                refine j_icmp_neT (n := 163) (tg := 169) dX10_check_160 rfl rfl rfl rfl (fun h7 => ?_) (fun h7 => ?_)
                · exact fin k (hF.trans (by first | exact fi_n (by omega) | exact fi_t (by omega) (by assumption))).symm (by omega) (by omega)
                · refine j_iinc (n := 166) (y := nI (k + 1)) (lv2 := [some (.ref 160), some (.int (nI m)), some (.int (nI (tN (M 160 31)))), some (.int (nI (2 * i))), some (.int (nI (k + 1)))]) dX10_check_163 rfl rfl (by decide) rfl (show nI k + nI 1 = nI (k + 1) by rw [nI_add]) rfl ?_
                  refine j_goto (n := 134) dX10_check_166 rfl ?_
                  exact ih _ (by omega) (k + 1) rfl (by omega) (hF.trans (fi_s (by omega) (by omega)))
        exact loop _ 0 rfl (Nat.zero_le _) rfl
      have loop : ∀ (j i : Nat) (M1 : zMem), m - i = j → i ≤ m → i ≤ 9999 - (bkP (imP M) p 2900) 2 → scw (zs M 160 (upd (M 160) 31 (nI 0))) M1 → (∀ z, z < 2900 → M1 163 z = nI (p z)) → (∀ z, z < 2 * i → M1 180 z = dueV (bkP (imP M) p 2900) z) → zAt G miX10_check (zRm (d + 6) 0 0) (zQ G (zIr (fun r0 M1 X1 => r0 = r_check (bkP (imP M) p 2900) (M 160 3) (M 179) (tN (M 160 31)) (nI m) ∧ X1 = X ∧ ∃ M2, scw (zs M 160 (upd (M 160) 31 (nI 0))) M2 ∧ M1 = mm M2 p)) 0 0) 64 [some (.ref 160), some (.int (nI m)), some (.int (nI (tN (M 160 31)))), some (.int (nI (2 * i))), some (.int (nI i))] [] (mm M1 (daysP (bkP (imP M) p 2900) i)) X (0, 0) := by
        intro j
        induction j using Nat.strongRecOn with
        | ind j ih =>
          intro i M1 hj hi0 hi9 hsc h163 h180
          have hwd := wf_days hwq i
          have hd2 := days_2 hwq i
          have hwe := wf_days hwq (i + 1)
          have h3e := hwe.2.2.2.2.1
          have hse := sumP_le hwe.1 _ (Nat.le_refl _)
          have h0e := hwe.1.1
          refine j_iload (n := 66) dX10_check_64 rfl rfl ?_
          refine j_iload_n (n := 67) dX10_check_66 rfl rfl ?_
          refine j_icmp_geT (n := 70) (tg := 119) dX10_check_67 rfl rfl (i_N (by omega)) (i_N (by omega)) (fun h8 => ?_) (fun h8 => ?_)
          · refine j_wk (lv2 := [some (.ref 160), some (.int (nI m)), some (.int (nI (tN (M 160 31)))), some (.int (nI (2 * i))), none]) ⟨rfl, rfl, rfl, rfl, trivial⟩ ?_
            exact e119 i M1 (by omega) hsc h163 h180
          · refine j_aload_n (n := 71) dX10_check_70 rfl rfl ?_
            refine jm_get (n := 74) (k := 0) (b := 161) dX10_check_71 rfl fX10_7 rfl (by decide) hk ?_
            refine j_iconst (n := 75) (v := nI 2) dX10_check_74 rfl rfl ?_
            refine jm_ald (n := 76) (L := 3100) (a := 161) (i := 2) (v := nI ((daysP (bkP (imP M) p 2900) i) 2)) dX10_check_75 rfl hk rfl (by omega) rfl ?_
            refine j_sipush (n := 79) (v := nI 9999) dX10_check_76 rfl (by decide) ?_
            refine j_icmp_geT (n := 82) (tg := 119) dX10_check_79 rfl rfl (i_N (by omega)) (i_N (by omega)) (fun h9 => ?_) (fun h9 => ?_)
            · refine j_wk (lv2 := [some (.ref 160), some (.int (nI m)), some (.int (nI (tN (M 160 31)))), some (.int (nI (2 * i))), none]) ⟨rfl, rfl, rfl, rfl, trivial⟩ ?_
              exact e119 i M1 (by omega) hsc h163 h180
            · refine j_aload_n (n := 83) dX10_check_82 rfl rfl ?_
              refine j_cVvr (n := 86) dX10_check_83 rfl sX10_182 (c_goesOn d G _ _ hk _ _ _ hwd (by omega) (by omega)) (by omega) (by decide) rfl rfl (Nat.le_of_ble_eq_true rfl) (hk).2.1 (by decide) (kM_lt hk) (by decide) (by decide) (fun N10 Y10 hh10 => ?_)
              obtain ⟨e210, M_10, hs10, e310⟩ := hh10
              rw [e210, e310]
              refine j_aload_n (n := 87) dX10_check_86 rfl rfl ?_
              refine jm_get (n := 90) (k := 32) (b := 180) dX10_check_87 rfl fX10_67 rfl (by decide) hk ?_
              refine j_iload_n (n := 91) dX10_check_90 rfl rfl ?_
              refine j_aload_n (n := 92) dX10_check_91 rfl rfl ?_
              refine jm_get (n := 95) (k := 0) (b := 161) dX10_check_92 rfl fX10_7 rfl (by decide) hk ?_
              refine j_iconst (n := 96) (v := nI 3) dX10_check_95 rfl rfl ?_
              refine jm_ald (n := 97) (L := 3100) (a := 161) (i := 3) (v := nI ((daysP (bkP (imP M) p 2900) (i + 1)) 3)) dX10_check_96 rfl hk rfl (by omega) rfl ?_
              refine jm_ast (n := 98) (L := 60) (a := 180) (i := 2 * i) (x := nI ((daysP (bkP (imP M) p 2900) (i + 1)) 3)) (M2 := mm (zs M_10 180 (upd (M_10 180) (2 * i) (nI ((daysP (bkP (imP M) p 2900) (i + 1)) 3)))) (daysP (bkP (imP M) p 2900) (i + 1))) dX10_check_97 rfl hk rfl (by omega) (mm_wo (by decide) rfl) ?_
              refine j_aload_n (n := 99) dX10_check_98 rfl rfl ?_
              refine jm_get (n := 102) (k := 32) (b := 180) dX10_check_99 rfl fX10_67 rfl (by decide) hk ?_
              refine j_iload_n (n := 103) dX10_check_102 rfl rfl ?_
              refine j_iconst (n := 104) (v := nI 1) dX10_check_103 rfl rfl ?_
              refine j_iaddN (n := 105) (c := 2 * i + 1) dX10_check_104 rfl rfl ?_
              refine j_aload_n (n := 106) dX10_check_105 rfl rfl ?_
              refine j_cV (n := 109) dX10_check_106 rfl sX10_188 (c_regretsOfAll (d + 3) G _ _ hk _ hwe.1) (by omega) (by decide) rfl rfl (Nat.le_of_ble_eq_true rfl) (hk).2.1 (by decide) (kM_lt hk) (by decide) (by decide) ?_
              refine jm_ast (n := 110) (L := 60) (a := 180) (i := 2 * i + 1) (x := nI (sumP (daysP (bkP (imP M) p 2900) (i + 1)) ((daysP (bkP (imP M) p 2900) (i + 1)) 0))) (M2 := mm (zs M_10 180 (upd (upd (M_10 180) (2 * i) (nI ((daysP (bkP (imP M) p 2900) (i + 1)) 3))) (2 * i + 1) (nI (sumP (daysP (bkP (imP M) p 2900) (i + 1)) ((daysP (bkP (imP M) p 2900) (i + 1)) 0))))) (daysP (bkP (imP M) p 2900) (i + 1))) dX10_check_109 rfl hk rfl (by omega) (mm_wo (by decide) (by rw [zs_eq, zs_zs])) ?_
              refine j_iinc (n := 113) (y := nI (2 * i + 2)) (lv2 := [some (.ref 160), some (.int (nI m)), some (.int (nI (tN (M 160 31)))), some (.int (nI (2 * i + 2))), some (.int (nI i))]) dX10_check_110 rfl rfl (by decide) rfl (show nI (2 * i) + nI 2 = nI (2 * i + 2) by rw [nI_add]) rfl ?_
              refine j_iinc (n := 116) (y := nI (i + 1)) (lv2 := [some (.ref 160), some (.int (nI m)), some (.int (nI (tN (M 160 31)))), some (.int (nI (2 * i + 2))), some (.int (nI (i + 1)))]) dX10_check_113 rfl rfl (by decide) rfl (show nI i + nI 1 = nI (i + 1) by rw [nI_add]) rfl ?_
              refine j_goto (n := 64) dX10_check_116 rfl ?_
              exact ih _ (by omega) (i + 1) _ rfl (by omega) (by omega) (((hsc).tr hs10.w).tr (scw.s _ _ (by unfold scq; omega))) (fun z hz => by rw [zs_ne _ _ (by decide)]; exact (congrFun (hs10 163 (by decide) (by decide)) z).trans (h163 z hz)) (fun z hz => by rw [zs_eq]; unfold upd; split; (rename_i e; rw [e]; unfold dueV; rw [if_neg (by omega), show (2 * i + 1) / 2 + 1 = i + 1 by omega]); split; (rename_i e; rw [e]; unfold dueV; rw [if_pos (by omega), show 2 * i / 2 + 1 = i + 1 by omega]); exact (congrFun (hs10 180 (by decide) (by decide)) z).trans (h180 z (by omega)))
      exact loop _ 0 _ rfl (Nat.zero_le _) (Nat.zero_le _) (scw.s _ _ (by unfold scq; omega)) (fun z hz => by rw [zs_eq]; exact if_pos hz) (fun z hz => absurd hz (Nat.not_lt_zero _))
    · refine j_ldc (n := 34) (v := -1000000002) dX10_check_32 rfl kX10_158 ?_
      exact j_iret dX10_check_34 rfl rfl (Nat.le_refl _) (Nat.le_refl _) ⟨_, rfl, by unfold r_check; repeat (first | rw [if_pos (by omega)] | rw [if_neg (by omega)]), rfl, _, scw.rf _, rfl⟩
  · refine j_ldc (n := 24) (v := -1000000001) dX10_check_22 rfl kX10_93 ?_
    exact j_iret dX10_check_24 rfl rfl (Nat.le_refl _) (Nat.le_refl _) ⟨_, rfl, by unfold r_check; repeat (first | rw [if_pos (by omega)] | rw [if_neg (by omega)]), rfl, _, scw.rf _, rfl⟩
