-- CLASS M: by program (wip/whole/gen/c13.py)
theorem rowB_lt' {p : Nat → Nat} (hL : wfL p) {k : Nat} {B : Nat → Nat} (hB : ∀ K, B K < 256) {K l : Nat} (h : l ≤ p 8) (i : Nat) : rowB p k B K l i < 256 := rowB_lt hL hB l h i
theorem wB_lt {p : Nat → Nat} (hL : wfL p) {k : Nat} {B : Nat → Nat} (hB : ∀ K, B K < 256) (K i : Nat) : wB p k B K i < 256 := by
  unfold wB
  split
  · exact hB i
  · exact rowB_lt hL hB _ (Nat.le_refl _) i
theorem wW_le {B W : Nat → Nat} {K : Nat} (hW : ∀ r, W r ≤ 9) (hl : lat K ≤ 8) (r : Nat) : wW B W K r ≤ 9 := by
  unfold wW
  split
  · omega
  · exact hW r
/-- the first rooms have been looked at -/
def wWp (B W : Nat → Nat) (K n : Nat) : Nat → Nat := fun r => if r < n then wW B W K r else W r
/-- only rooms and fewest are otherwise -/
def scG (M M1 : zMem) : Prop := ∀ a, a ≠ 111 → a ≠ 112 → M1 a = M a
theorem scG.rf (M : zMem) : scG M M := fun _ _ _ => rfl
theorem scG.tr {M M1 M2 : zMem} (h1 : scG M M1) (h2 : scG M1 M2) : scG M M2 := fun a ha hb => (h2 a ha hb).trans (h1 a ha hb)
theorem scG.x {M M1 : zMem} (h : scG M M1) : scx M M1 := fun a ha => h a (fun z => ha (by unfold scz; omega)) (fun z => ha (by unfold scz; omega))
theorem scG.s1 (M : zMem) (f : Nat → Int32) : scG M (zs M 111 f) := fun b h1 _ => zs_ne M f h1
theorem scG.s2 (M : zMem) (f : Nat → Int32) : scG M (zs M 112 f) := fun b _ h2 => zs_ne M f h2
theorem k_goOnFrom (d : Nat) (G : zG) (M : zMem) (X : zX) (hr : kR X) (c : Nat → Nat) (hG : gOK G) (hwl : wfL c) (e : Nat → Nat) (k pd : Nat) (hse : seeE c e k pd) (B W : Nat → Nat) (hB : ∀ K, B K < 256) (hW : ∀ r, W r ≤ 9) (K many : Nat) (hK : K < 729) (hlat : lat K = many) (hmy : many ≤ 8) (hwy : wyM M B W) (hfe : feM M c e k) (hfl0 : ∀ s n, s < 3 → n < 9 → feelsN (e (10 + 5 * k + 0)) (wtP e k (9 * s + n)) ≤ 216) (hla : ∀ s, s < 3 → M 117 s = nI (K / byN s % 9)) : zCall G miX8_goOnFrom (d + 0) [.ref 110, .ref 17, .int (nI many)] (zVr (fun M1 X1 => X1 = X ∧ ∃ M2, (scG M M2 ∧ wyM M2 (wB e k B K) (wW B W K)) ∧ M1 = cm M2 17 c)) (cm M 17 c) X 0 0 := by
  refine zCall.of (lv := [some (.ref 110), some (.ref 17), some (.int (nI many)), none, none, none, none, none]) (by decide) (Nat.le_of_ble_eq_true rfl) rfl ?_
  have hw1 := hwl.1
  have hBK := hB K
  have hfl : ∀ s n, s < 3 → n < 9 → feelsN (e (10 + 5 * k + 0)) (wtP e k (9 * s + n)) ≤ 216 := hfl0
  have locks : lat K < 8 → ∀ (j l : Nat) (M1 : zMem), c 8 - l = j → l ≤ c 8 → scG M M1 → (∀ i, i < 729 → M1 112 i = nI (rowB e k B K l i)) → (∀ r, r < 8 → M1 111 r = fwV (wW B W K r)) → zAt G miX8_goOnFrom (zRm (d + 0) 0 0) (zQ G (zVr (fun M1 X1 => X1 = X ∧ ∃ M2, (scG M M2 ∧ wyM M2 (wB e k B K) (wW B W K)) ∧ M1 = cm M2 17 c)) 0 0) 104 [some (.ref 110), some (.ref 17), some (.int (nI many)), some (.int (nI K)), some (.int (nI (B K))), some (.int (nI l)), none, none] [] (cm M1 17 c) X (0, 0) := by
    intro hl8 j
    induction j using Nat.strongRecOn with
    | ind j ih =>
      intro l M1 hj hl0 hsc hrm hfw
      have h8e : e 8 = c 8 := hse.2.2.2.1 8 (by omega)
      refine j_iload (n := 106) dX8_goOnFrom_104 rfl rfl ?_
      refine j_aload_n (n := 107) dX8_goOnFrom_106 rfl rfl ?_
      refine jc_get (n := 110) (k := 3) (v := nI (c 8)) dX8_goOnFrom_107 rfl fX8_68 (hr.1.1).c (hr.1.1).lo ((hr.1.1).hi (by omega)) (cm_r (ix_t rfl)) ?_
      refine j_icmp_geT (n := 113) (tg := 217) dX8_goOnFrom_110 rfl rfl (i_N (by omega)) (i_N (by omega)) (fun h101 => ?_) (fun h101 => ?_)
      · exact j_vret dX8_goOnFrom_217 rfl (Nat.le_refl _) (Nat.le_refl _) ⟨rfl, rfl, M1, ⟨hsc, fun i hi => by rw [hrm i hi]; unfold wB; rw [if_neg (by omega), h8e, show l = c 8 by omega], hfw⟩, rfl⟩
      · have hl := hwl.2 l (by omega)
        have hel : ∀ i, e (50 + 5 * l + i) = c (50 + 5 * l + i) := fun i => hse.2.2.2.1 _ (by omega)
        have hup := lat_up hK hl8 (s := c (50 + 5 * l + 2)) (by omega)
        have hdg : K / byN (c (50 + 5 * l + 2)) % 9 < 9 := Nat.mod_lt _ (by decide)
        have hKe := rowB_K e k B K l K (Nat.le_refl _)
        have hll : wfL e := ⟨by rw [h8e]; exact hw1, fun q hq => by rw [h8e] at hq; rw [hse.2.2.2.1 _ (by omega), hse.2.2.2.1 _ (by omega), hse.2.2.2.1 _ (by omega), hse.2.2.2.1 _ (by omega), hse.2.2.2.1 _ (by omega)]; exact hwl.2 q hq⟩
        have hrl := rowB_lt hll hB (k := k) (K := K) l (by omega)
        have hpow : 2 ^ c (50 + 5 * l + 1) < 256 := pow_256 (by omega)
        skip
        refine j_aload_n (n := 114) dX8_goOnFrom_113 rfl rfl ?_
        refine j_getr (n := 117) (k := 2) (b := 19) dX8_goOnFrom_114 rfl fX8_71 (hr.1.1).c (hr.1.1).lo ((hr.1.1).hi (by omega)) (hr.1.1).r2 ?_
        refine j_iload (n := 119) dX8_goOnFrom_117 rfl rfl ?_
        refine jc_aald (n := 120) (t := 3) (L := 10) (i := l) (b := 17 + 21 + l) dX8_goOnFrom_119 rfl ((hr.1.1).a2).1 (by decide) rfl ((hr.1.1).a2).2 (by omega) (by decide) (by have := (hr.1.1).lo; omega) ((hr.1.1).hi (by omega)) ((hr.1.1).e2 (by omega)) ?_
        refine j_astore (n := 122) (lv2 := [some (.ref 110), some (.ref 17), some (.int (nI many)), some (.int (nI K)), some (.int (nI (B K))), some (.int (nI l)), some (.ref (17 + 21 + l)), none]) dX8_goOnFrom_120 rfl rfl (by decide) rfl ?_
        refine j_aload (n := 124) dX8_goOnFrom_122 rfl rfl ?_
        refine jc_get (n := 127) (k := 4) (v := nI (c (50 + 5 * l + 4))) dX8_goOnFrom_124 rfl fX8_75 ((hr.1.1).l (by omega)) (by have := (hr.1.1).lo; omega) ((hr.1.1).hi (by omega)) (cm_r (ix_l (by omega) (by decide) rfl)) ?_
        refine j_if_neN (n := 130) (tg := 163) dX8_goOnFrom_127 rfl rfl (by omega) (fun h102 => ?_) (fun h102 => ?_)
        · refine j_iconst (n := 164) (v := nI 0) dX8_goOnFrom_163 rfl rfl ?_
          refine j_istore (n := 166) (lv2 := [some (.ref 110), some (.ref 17), some (.int (nI many)), some (.int (nI K)), some (.int (nI (B K))), some (.int (nI l)), some (.ref (17 + 21 + l)), some (.int (nI 0))]) dX8_goOnFrom_164 rfl rfl (by decide) rfl ?_
          refine j_iload (n := 168) dX8_goOnFrom_166 rfl rfl ?_
          refine j_if_eqN (n := 171) (tg := 211) dX8_goOnFrom_168 rfl rfl (by omega) (fun h103 => ?_) (fun h103 => ?_)
          · refine j_iinc (n := 214) (y := nI (l + 1)) (lv2 := [some (.ref 110), some (.ref 17), some (.int (nI many)), some (.int (nI K)), some (.int (nI (B K))), some (.int (nI (l + 1))), some (.ref (17 + 21 + l)), some (.int (nI 0))]) dX8_goOnFrom_211 rfl rfl (by decide) rfl (show nI l + nI 1 = nI (l + 1) by rw [nI_add]) rfl ?_
            refine j_goto (n := 104) dX8_goOnFrom_214 rfl ?_
            have eR : rowB e k B K (l + 1) = rowB e k B K l := by rw [rowB]; unfold pushB; rw [hel 4, hel 0, hel 3, hel 2, hel 1, hKe, hse.2.1, if_neg (fun z => by omega)]
            refine j_wk (lv2 := [some (.ref 110), some (.ref 17), some (.int (nI many)), some (.int (nI K)), some (.int (nI (B K))), some (.int (nI (l + 1))), none, none]) ⟨rfl, rfl, rfl, rfl, rfl, rfl, trivial⟩ ?_
            exact ih _ (by omega) (l + 1) M1 rfl (by omega) hsc (fun i hi => by rw [eR]; exact hrm i hi) hfw
          · exact absurd h103 (by decide)
        · refine j_aload_n (n := 131) dX8_goOnFrom_130 rfl rfl ?_
          refine j_getr (n := 134) (k := 2) (b := 113) dX8_goOnFrom_131 rfl fX8_20 (hr.a (a := 110) rfl (by decide) rfl).1 (by decide) (hr.hi (by decide)) (hr.w (k := 2) rfl (by decide)) ?_
          refine j_aload (n := 136) dX8_goOnFrom_134 rfl rfl ?_
          refine jc_get (n := 139) (k := 2) (v := nI (c (50 + 5 * l + 2))) dX8_goOnFrom_136 rfl fX8_81 ((hr.1.1).l (by omega)) (by have := (hr.1.1).lo; omega) ((hr.1.1).hi (by omega)) (cm_r (ix_l (by omega) (by decide) rfl)) ?_
          refine jc_aald2 (n := 140) (L := 3) (i := c (50 + 5 * l + 2)) (b := 114 + (c (50 + 5 * l + 2))) dX8_goOnFrom_139 rfl (hr.a (a := 113) rfl (by decide) rfl).1 (hr.a (a := 113) rfl (by decide) rfl).2 (by omega) (by decide) (by decide) (hr.hi (by decide)) (hr.fe (by omega)) ?_
          refine j_aload_n (n := 141) dX8_goOnFrom_140 rfl rfl ?_
          refine j_getr (n := 144) (k := 3) (b := 117) dX8_goOnFrom_141 rfl fX8_23 (hr.a (a := 110) rfl (by decide) rfl).1 (by decide) (hr.hi (by decide)) (hr.w (k := 3) rfl (by decide)) ?_
          refine j_aload (n := 146) dX8_goOnFrom_144 rfl rfl ?_
          refine jc_get (n := 149) (k := 2) (v := nI (c (50 + 5 * l + 2))) dX8_goOnFrom_146 rfl fX8_81 ((hr.1.1).l (by omega)) (by have := (hr.1.1).lo; omega) ((hr.1.1).hi (by omega)) (cm_r (ix_l (by omega) (by decide) rfl)) ?_
          refine j_ialdN (n := 150) (L := 3) (a := 117) (i := c (50 + 5 * l + 2)) (v := nI (K / byN (c (50 + 5 * l + 2)) % 9)) dX8_goOnFrom_149 rfl (hr.a (a := 117) rfl (by decide) rfl).1 (hr.a (a := 117) rfl (by decide) rfl).2 (by omega) (by decide) (by decide) (hr.hi (by decide)) ((congrFun (cm_o (ix_n (by decide))) _).trans ((congrFun (hsc 117 (by decide) (by decide)) _).trans (hla _ (by omega)))) ?_
          have hff : feelsN (c (10 + 5 * k + 0)) (wtP e k (9 * c (50 + 5 * l + 2) + K / byN (c (50 + 5 * l + 2)) % 9)) ≤ 216 := by rw [← hse.2.1]; exact hfl _ _ (by omega) hdg
          refine j_ialdN (n := 151) (L := 9) (a := 114 + (c (50 + 5 * l + 2))) (i := K / byN (c (50 + 5 * l + 2)) % 9) (v := nI (feelsN (c (10 + 5 * k + 0)) (wtP e k (9 * c (50 + 5 * l + 2) + K / byN (c (50 + 5 * l + 2)) % 9)))) dX8_goOnFrom_150 rfl (hr.fa (by omega)).1 (hr.fa (by omega)).2 (by omega) (by decide) (by omega) (hr.hi (by omega)) ((congrFun (cm_o (ix_n (by omega))) _).trans ((congrFun (hsc _ (by omega) (by omega)) _).trans (hfe _ _ (by omega) hdg))) ?_
          refine j_aload (n := 153) dX8_goOnFrom_151 rfl rfl ?_
          refine jc_get (n := 156) (k := 3) (v := nI (c (50 + 5 * l + 3))) dX8_goOnFrom_153 rfl fX8_84 ((hr.1.1).l (by omega)) (by have := (hr.1.1).lo; omega) ((hr.1.1).hi (by omega)) (cm_r (ix_l (by omega) (by decide) rfl)) ?_
          refine j_icmp_ltT (n := 159) (tg := 163) dX8_goOnFrom_156 rfl rfl (i_N (by omega)) (i_N (by omega)) (fun h104 => ?_) (fun h104 => ?_)
          · refine j_iconst (n := 164) (v := nI 0) dX8_goOnFrom_163 rfl rfl ?_
            refine j_istore (n := 166) (lv2 := [some (.ref 110), some (.ref 17), some (.int (nI many)), some (.int (nI K)), some (.int (nI (B K))), some (.int (nI l)), some (.ref (17 + 21 + l)), some (.int (nI 0))]) dX8_goOnFrom_164 rfl rfl (by decide) rfl ?_
            refine j_iload (n := 168) dX8_goOnFrom_166 rfl rfl ?_
            refine j_if_eqN (n := 171) (tg := 211) dX8_goOnFrom_168 rfl rfl (by omega) (fun h105 => ?_) (fun h105 => ?_)
            · refine j_iinc (n := 214) (y := nI (l + 1)) (lv2 := [some (.ref 110), some (.ref 17), some (.int (nI many)), some (.int (nI K)), some (.int (nI (B K))), some (.int (nI (l + 1))), some (.ref (17 + 21 + l)), some (.int (nI 0))]) dX8_goOnFrom_211 rfl rfl (by decide) rfl (show nI l + nI 1 = nI (l + 1) by rw [nI_add]) rfl ?_
              refine j_goto (n := 104) dX8_goOnFrom_214 rfl ?_
              have eR : rowB e k B K (l + 1) = rowB e k B K l := by rw [rowB]; unfold pushB; rw [hel 4, hel 0, hel 3, hel 2, hel 1, hKe, hse.2.1, if_neg (fun z => by omega)]
              refine j_wk (lv2 := [some (.ref 110), some (.ref 17), some (.int (nI many)), some (.int (nI K)), some (.int (nI (B K))), some (.int (nI (l + 1))), none, none]) ⟨rfl, rfl, rfl, rfl, rfl, rfl, trivial⟩ ?_
              exact ih _ (by omega) (l + 1) M1 rfl (by omega) hsc (fun i hi => by rw [eR]; exact hrm i hi) hfw
            · exact absurd h105 (by decide)
          · refine j_iconst (n := 160) (v := nI 1) dX8_goOnFrom_159 rfl rfl ?_
            refine j_goto (n := 164) dX8_goOnFrom_160 rfl ?_
            refine j_istore (n := 166) (lv2 := [some (.ref 110), some (.ref 17), some (.int (nI many)), some (.int (nI K)), some (.int (nI (B K))), some (.int (nI l)), some (.ref (17 + 21 + l)), some (.int (nI 1))]) dX8_goOnFrom_164 rfl rfl (by decide) rfl ?_
            refine j_iload (n := 168) dX8_goOnFrom_166 rfl rfl ?_
            refine j_if_eqN (n := 171) (tg := 211) dX8_goOnFrom_168 rfl rfl (by omega) (fun h106 => ?_) (fun h106 => ?_)
            · exact absurd h106 (by decide)
            · refine j_iload (n := 173) dX8_goOnFrom_171 rfl rfl ?_
              refine j_aload (n := 175) dX8_goOnFrom_173 rfl rfl ?_
              refine jc_get (n := 178) (k := 0) (v := nI (c (50 + 5 * l + 0))) dX8_goOnFrom_175 rfl fX8_87 ((hr.1.1).l (by omega)) (by have := (hr.1.1).lo; omega) ((hr.1.1).hi (by omega)) (cm_r (ix_l (by omega) (by decide) rfl)) ?_
              refine j_ishr (n := 179) dX8_goOnFrom_178 rfl ?_
              refine j_iconst (n := 180) (v := nI 1) dX8_goOnFrom_179 rfl rfl ?_
              refine j_iand (n := 181) dX8_goOnFrom_180 rfl ?_
              refine j_top (y := nI (B K / 2 ^ (c (50 + 5 * l + 0)) % 2)) (bit_t _ hBK _ (by omega)) ?_
              refine j_iconst (n := 182) (v := nI 1) dX8_goOnFrom_181 rfl rfl ?_
              refine j_icmp_neT (n := 185) (tg := 211) dX8_goOnFrom_182 rfl rfl (i_N (by omega)) (i_N (by omega)) (fun h107 => ?_) (fun h107 => ?_)
              · refine j_iinc (n := 214) (y := nI (l + 1)) (lv2 := [some (.ref 110), some (.ref 17), some (.int (nI many)), some (.int (nI K)), some (.int (nI (B K))), some (.int (nI (l + 1))), some (.ref (17 + 21 + l)), some (.int (nI 1))]) dX8_goOnFrom_211 rfl rfl (by decide) rfl (show nI l + nI 1 = nI (l + 1) by rw [nI_add]) rfl ?_
                refine j_goto (n := 104) dX8_goOnFrom_214 rfl ?_
                have eR : rowB e k B K (l + 1) = rowB e k B K l := by rw [rowB]; unfold pushB; rw [hel 4, hel 0, hel 3, hel 2, hel 1, hKe, hse.2.1, if_neg (fun z => by omega)]
                refine j_wk (lv2 := [some (.ref 110), some (.ref 17), some (.int (nI many)), some (.int (nI K)), some (.int (nI (B K))), some (.int (nI (l + 1))), none, none]) ⟨rfl, rfl, rfl, rfl, rfl, rfl, trivial⟩ ?_
                exact ih _ (by omega) (l + 1) M1 rfl (by omega) hsc (fun i hi => by rw [eR]; exact hrm i hi) hfw
              · refine j_aload_n (n := 186) dX8_goOnFrom_185 rfl rfl ?_
                refine j_getr (n := 189) (k := 1) (b := 112) dX8_goOnFrom_186 rfl fX8_15 (hr.a (a := 110) rfl (by decide) rfl).1 (by decide) (hr.hi (by decide)) (hr.w (k := 1) rfl (by decide)) ?_
                refine j_iload_n (n := 190) dX8_goOnFrom_189 rfl rfl ?_
                refine j_gets1 (n := 193) dX8_goOnFrom_190 rfl tX8_65 ?_
                refine j_aload (n := 195) dX8_goOnFrom_193 rfl rfl ?_
                refine jc_get (n := 198) (k := 2) (v := nI (c (50 + 5 * l + 2))) dX8_goOnFrom_195 rfl fX8_81 ((hr.1.1).l (by omega)) (by have := (hr.1.1).lo; omega) ((hr.1.1).hi (by omega)) (cm_r (ix_l (by omega) (by decide) rfl)) ?_
                refine jc_sald (n := 199) (v := nI (byN (c (50 + 5 * l + 2)))) dX8_goOnFrom_198 rfl (by decide) hG.2.2.1 (by omega) (by decide) (hG.by (by omega)) ?_
                refine j_iaddN (n := 200) (c := K + (byN (c (50 + 5 * l + 2)))) dX8_goOnFrom_199 rfl (by omega) ?_
                refine j_dup2 (n := 201) dX8_goOnFrom_200 rfl rfl rfl ?_
                refine j_ialdN (n := 202) (L := 729) (a := 112) (i := K + (byN (c (50 + 5 * l + 2)))) (v := nI (rowB e k B K l (K + byN (c (50 + 5 * l + 2))))) dX8_goOnFrom_201 rfl (hr.a (a := 112) rfl (by decide) rfl).1 (hr.a (a := 112) rfl (by decide) rfl).2 (by omega) (by decide) (by decide) (hr.hi (by decide)) ((congrFun (cm_o (ix_n (by decide))) _).trans (hrm _ (by omega))) ?_
                refine j_iconst (n := 203) (v := nI 1) dX8_goOnFrom_202 rfl rfl ?_
                refine j_aload (n := 205) dX8_goOnFrom_203 rfl rfl ?_
                refine jc_get (n := 208) (k := 1) (v := nI (c (50 + 5 * l + 1))) dX8_goOnFrom_205 rfl fX8_90 ((hr.1.1).l (by omega)) (by have := (hr.1.1).lo; omega) ((hr.1.1).hi (by omega)) (cm_r (ix_l (by omega) (by decide) rfl)) ?_
                refine j_ishl (n := 209) dX8_goOnFrom_208 rfl ?_
                refine j_ior (n := 210) dX8_goOnFrom_209 rfl ?_
                refine j_top (y := nI (rowB e k B K l (K + byN (c (50 + 5 * l + 2))) ||| 2 ^ c (50 + 5 * l + 1))) (by rw [one_shl _ (by omega), nI_or]) ?_
                refine j_iastN (n := 211) (L := 729) (a := 112) (i := K + (byN (c (50 + 5 * l + 2)))) (x := nI (rowB e k B K l (K + byN (c (50 + 5 * l + 2))) ||| 2 ^ c (50 + 5 * l + 1))) (M2 := cm (zs M1 112 (upd (M1 112) (K + byN (c (50 + 5 * l + 2))) (nI (rowB e k B K l (K + byN (c (50 + 5 * l + 2))) ||| 2 ^ c (50 + 5 * l + 1))))) 17 c) dX8_goOnFrom_210 rfl (hr.a (a := 112) rfl (by decide) rfl).1 (hr.a (a := 112) rfl (by decide) rfl).2 (by omega) (by decide) (by decide) (hr.hi (by decide)) (cm_wo2 (ix_n (by decide)) (fun f => upd f _ _)) ?_
                refine j_iinc (n := 214) (y := nI (l + 1)) (lv2 := [some (.ref 110), some (.ref 17), some (.int (nI many)), some (.int (nI K)), some (.int (nI (B K))), some (.int (nI (l + 1))), some (.ref (17 + 21 + l)), some (.int (nI 1))]) dX8_goOnFrom_211 rfl rfl (by decide) rfl (show nI l + nI 1 = nI (l + 1) by rw [nI_add]) rfl ?_
                refine j_goto (n := 104) dX8_goOnFrom_214 rfl ?_
                have eR : rowB e k B K (l + 1) = pu (rowB e k B K l) (K + byN (c (50 + 5 * l + 2))) (rowB e k B K l (K + byN (c (50 + 5 * l + 2))) ||| 2 ^ c (50 + 5 * l + 1)) := by rw [rowB]; unfold pushB; rw [hel 4, hel 0, hel 3, hel 2, hel 1, hKe, hse.2.1, if_pos ⟨by omega, by omega, by omega⟩]
                refine j_wk (lv2 := [some (.ref 110), some (.ref 17), some (.int (nI many)), some (.int (nI K)), some (.int (nI (B K))), some (.int (nI (l + 1))), none, none]) ⟨rfl, rfl, rfl, rfl, rfl, rfl, trivial⟩ ?_
                exact ih _ (by omega) (l + 1) _ rfl (by omega) (hsc.tr (scG.s2 _ _)) (fun i hi => by rw [zs_eq, eR]; unfold upd pu; split; rfl; exact hrm i hi) (fun r hr => by rw [zs_ne _ _ (by decide)]; exact hfw r hr)
  have roomsL : ∀ (j r : Nat) (M1 : zMem), 8 - r = j → r ≤ 8 → scG M M1 → M1 112 = M 112 → (∀ i, i < 8 → M1 111 i = fwV (wWp B W K r i)) → zAt G miX8_goOnFrom (zRm (d + 0) 0 0) (zQ G (zVr (fun M1 X1 => X1 = X ∧ ∃ M2, (scG M M2 ∧ wyM M2 (wB e k B K) (wW B W K)) ∧ M1 = cm M2 17 c)) 0 0) 50 [some (.ref 110), some (.ref 17), some (.int (nI many)), some (.int (nI K)), some (.int (nI (B K))), some (.int (nI r)), none, none] [] (cm M1 17 c) X (0, 0) := by
    intro j
    induction j using Nat.strongRecOn with
    | ind j ih =>
      intro r M1 hj hr0 hsc h112 hfw
      have hW9 := hW r
      refine j_iload (n := 52) dX8_goOnFrom_50 rfl rfl ?_
      refine j_bipush (n := 54) (v := nI 8) dX8_goOnFrom_52 rfl (by decide) ?_
      refine j_icmp_geT (n := 57) (tg := 94) dX8_goOnFrom_54 rfl rfl (i_N (by omega)) (i_N (by omega)) (fun h108 => ?_) (fun h108 => ?_)
      · refine j_wk (lv2 := [some (.ref 110), some (.ref 17), some (.int (nI many)), some (.int (nI K)), some (.int (nI (B K))), none, none, none]) ⟨rfl, rfl, rfl, rfl, rfl, trivial⟩ ?_
        have hfw2 : ∀ i, i < 8 → M1 111 i = fwV (wW B W K i) := fun i hi => by rw [hfw i hi]; unfold wWp; rw [if_pos (by omega)]
        refine j_iload_n (n := 95) dX8_goOnFrom_94 rfl rfl ?_
        refine j_bipush (n := 97) (v := nI 8) dX8_goOnFrom_95 rfl (by decide) ?_
        refine j_icmp_neT (n := 100) (tg := 101) dX8_goOnFrom_97 rfl rfl (i_N (by omega)) (i_N (by omega)) (fun h301 => ?_) (fun h301 => ?_)
        · refine j_iconst (n := 102) (v := nI 0) dX8_goOnFrom_101 rfl rfl ?_
          refine j_istore (n := 104) (lv2 := [some (.ref 110), some (.ref 17), some (.int (nI many)), some (.int (nI K)), some (.int (nI (B K))), some (.int (nI 0)), none, none]) dX8_goOnFrom_102 rfl rfl (by decide) rfl ?_
          refine j_wk (lv2 := [some (.ref 110), some (.ref 17), some (.int (nI many)), some (.int (nI K)), some (.int (nI (B K))), some (.int (nI 0)), none, none]) ⟨rfl, rfl, rfl, rfl, rfl, rfl, trivial⟩ ?_
          exact locks (by omega) _ 0 M1 rfl (Nat.zero_le _) hsc (fun i hi => by rw [h112]; exact hwy.1 i hi) hfw2
        · exact j_vret dX8_goOnFrom_100 rfl (Nat.le_refl _) (Nat.le_refl _) ⟨rfl, rfl, M1, ⟨hsc, fun i hi => by rw [h112, hwy.1 i hi]; unfold wB; rw [if_pos (by omega)], hfw2⟩, rfl⟩
      · refine j_iload (n := 59) dX8_goOnFrom_57 rfl rfl ?_
        refine j_iload (n := 61) dX8_goOnFrom_59 rfl rfl ?_
        refine j_ishr (n := 62) dX8_goOnFrom_61 rfl ?_
        refine j_iconst (n := 63) (v := nI 1) dX8_goOnFrom_62 rfl rfl ?_
        refine j_iand (n := 64) dX8_goOnFrom_63 rfl ?_
        refine j_top (y := nI (B K / 2 ^ r % 2)) (bit_t _ hBK _ (by omega)) ?_
        refine j_iconst (n := 65) (v := nI 1) dX8_goOnFrom_64 rfl rfl ?_
        refine j_icmp_neT (n := 68) (tg := 88) dX8_goOnFrom_65 rfl rfl (i_N (by omega)) (i_N (by omega)) (fun h109 => ?_) (fun h109 => ?_)
        · refine j_iinc (n := 91) (y := nI (r + 1)) (lv2 := [some (.ref 110), some (.ref 17), some (.int (nI many)), some (.int (nI K)), some (.int (nI (B K))), some (.int (nI (r + 1))), none, none]) dX8_goOnFrom_88 rfl rfl (by decide) rfl (show nI r + nI 1 = nI (r + 1) by rw [nI_add]) rfl ?_
          refine j_goto (n := 50) dX8_goOnFrom_91 rfl ?_
          have eW : wW B W K r = W r := by unfold wW; rw [if_neg (fun z => by have := (fwV_9 hW9).mpr z.2; omega)]
          refine j_wk (lv2 := [some (.ref 110), some (.ref 17), some (.int (nI many)), some (.int (nI K)), some (.int (nI (B K))), some (.int (nI (r + 1))), none, none]) ⟨rfl, rfl, rfl, rfl, rfl, rfl, trivial⟩ ?_
          exact ih _ (by omega) (r + 1) M1 rfl (by omega) hsc h112 (fun i hi => by rw [hfw i hi]; unfold wWp; by_cases h2 : i < r; (rw [if_pos h2, if_pos (by omega)]); (rw [if_neg h2]; by_cases h3 : i = r; (rw [h3, if_pos (by omega), eW]); (rw [if_neg (by omega)])))
        · refine j_aload_n (n := 69) dX8_goOnFrom_68 rfl rfl ?_
          refine j_getr (n := 72) (k := 0) (b := 111) dX8_goOnFrom_69 rfl fX8_9 (hr.a (a := 110) rfl (by decide) rfl).1 (by decide) (hr.hi (by decide)) (hr.w (k := 0) rfl (by decide)) ?_
          refine j_iload (n := 74) dX8_goOnFrom_72 rfl rfl ?_
          refine j_ialdN (n := 75) (L := 8) (a := 111) (i := r) (v := fwV (W r)) dX8_goOnFrom_74 rfl (hr.a (a := 111) rfl (by decide) rfl).1 (hr.a (a := 111) rfl (by decide) rfl).2 (by omega) (by decide) (by decide) (hr.hi (by decide)) ((congrFun (cm_o (ix_n (by decide))) _).trans ((hfw r (by omega)).trans (by unfold wWp; rw [if_neg (by omega)]))) ?_
          refine j_ldc (n := 77) (v := -1000000005) dX8_goOnFrom_75 rfl kX8_26 ?_
          refine j_icmp_neT (n := 80) (tg := 88) dX8_goOnFrom_77 rfl rfl rfl (show Int32.toInt (-1000000005) = (-1000000005 : Int) from by decide) (fun h110 => ?_) (fun h110 => ?_)
          · refine j_iinc (n := 91) (y := nI (r + 1)) (lv2 := [some (.ref 110), some (.ref 17), some (.int (nI many)), some (.int (nI K)), some (.int (nI (B K))), some (.int (nI (r + 1))), none, none]) dX8_goOnFrom_88 rfl rfl (by decide) rfl (show nI r + nI 1 = nI (r + 1) by rw [nI_add]) rfl ?_
            refine j_goto (n := 50) dX8_goOnFrom_91 rfl ?_
            have eW : wW B W K r = W r := by unfold wW; rw [if_neg (fun z => by have := (fwV_9 hW9).mpr z.2; omega)]
            refine j_wk (lv2 := [some (.ref 110), some (.ref 17), some (.int (nI many)), some (.int (nI K)), some (.int (nI (B K))), some (.int (nI (r + 1))), none, none]) ⟨rfl, rfl, rfl, rfl, rfl, rfl, trivial⟩ ?_
            exact ih _ (by omega) (r + 1) M1 rfl (by omega) hsc h112 (fun i hi => by rw [hfw i hi]; unfold wWp; by_cases h2 : i < r; (rw [if_pos h2, if_pos (by omega)]); (rw [if_neg h2]; by_cases h3 : i = r; (rw [h3, if_pos (by omega), eW]); (rw [if_neg (by omega)])))
          · refine j_aload_n (n := 81) dX8_goOnFrom_80 rfl rfl ?_
            refine j_getr (n := 84) (k := 0) (b := 111) dX8_goOnFrom_81 rfl fX8_9 (hr.a (a := 110) rfl (by decide) rfl).1 (by decide) (hr.hi (by decide)) (hr.w (k := 0) rfl (by decide)) ?_
            refine j_iload (n := 86) dX8_goOnFrom_84 rfl rfl ?_
            refine j_iload_n (n := 87) dX8_goOnFrom_86 rfl rfl ?_
            refine j_iastN (n := 88) (L := 8) (a := 111) (i := r) (x := nI many) (M2 := cm (zs M1 111 (upd (M1 111) r (nI many))) 17 c) dX8_goOnFrom_87 rfl (hr.a (a := 111) rfl (by decide) rfl).1 (hr.a (a := 111) rfl (by decide) rfl).2 (by omega) (by decide) (by decide) (hr.hi (by decide)) (cm_wo2 (ix_n (by decide)) (fun f => upd f _ _)) ?_
            refine j_iinc (n := 91) (y := nI (r + 1)) (lv2 := [some (.ref 110), some (.ref 17), some (.int (nI many)), some (.int (nI K)), some (.int (nI (B K))), some (.int (nI (r + 1))), none, none]) dX8_goOnFrom_88 rfl rfl (by decide) rfl (show nI r + nI 1 = nI (r + 1) by rw [nI_add]) rfl ?_
            refine j_goto (n := 50) dX8_goOnFrom_91 rfl ?_
            have eW : wW B W K r = many := by unfold wW; rw [if_pos ⟨by omega, (fwV_9 hW9).mp (by omega)⟩, hlat]
            refine j_wk (lv2 := [some (.ref 110), some (.ref 17), some (.int (nI many)), some (.int (nI K)), some (.int (nI (B K))), some (.int (nI (r + 1))), none, none]) ⟨rfl, rfl, rfl, rfl, rfl, rfl, trivial⟩ ?_
            exact ih _ (by omega) (r + 1) _ rfl (by omega) (hsc.tr (scG.s1 _ _)) ((zs_ne _ _ (by decide)).trans h112) (fun i hi => by rw [zs_eq]; unfold upd; split; (rename_i e1; have e2 : wWp B W K (r + 1) r = many := (by unfold wWp; rw [if_pos (by omega), eW]); rw [e1, e2]; unfold fwV; rw [if_neg (by omega)]); (rw [hfw i hi]; unfold wWp; by_cases h2 : i < r; (rw [if_pos h2, if_pos (by omega)]); (rw [if_neg h2, if_neg (by omega)])))
  refine j_aload_n (n := 1) dX8_goOnFrom_0 rfl rfl ?_
  refine j_getr (n := 4) (k := 3) (b := 117) dX8_goOnFrom_1 rfl fX8_23 (hr.a (a := 110) rfl (by decide) rfl).1 (by decide) (hr.hi (by decide)) (hr.w (k := 3) rfl (by decide)) ?_
  refine j_iconst (n := 5) (v := nI 0) dX8_goOnFrom_4 rfl rfl ?_
  refine j_ialdN (n := 6) (L := 3) (a := 117) (i := 0) (v := nI (K / byN 0 % 9)) dX8_goOnFrom_5 rfl (hr.a (a := 117) rfl (by decide) rfl).1 (hr.a (a := 117) rfl (by decide) rfl).2 (by omega) (by decide) (by decide) (hr.hi (by decide)) ((congrFun (cm_o (ix_n (by decide))) _).trans (hla 0 (by decide))) ?_
  refine j_gets1 (n := 9) dX8_goOnFrom_6 rfl tX8_65 ?_
  refine j_iconst (n := 10) (v := nI 0) dX8_goOnFrom_9 rfl rfl ?_
  refine jc_sald (n := 11) (v := nI 81) dX8_goOnFrom_10 rfl (by decide) hG.2.2.1 (by decide) (by decide) hG.2.2.2.1 ?_
  refine j_imulN (n := 12) (c := (K / byN 0 % 9) * 81) dX8_goOnFrom_11 rfl rfl ?_
  refine j_aload_n (n := 13) dX8_goOnFrom_12 rfl rfl ?_
  refine j_getr (n := 16) (k := 3) (b := 117) dX8_goOnFrom_13 rfl fX8_23 (hr.a (a := 110) rfl (by decide) rfl).1 (by decide) (hr.hi (by decide)) (hr.w (k := 3) rfl (by decide)) ?_
  refine j_iconst (n := 17) (v := nI 1) dX8_goOnFrom_16 rfl rfl ?_
  refine j_ialdN (n := 18) (L := 3) (a := 117) (i := 1) (v := nI (K / byN 1 % 9)) dX8_goOnFrom_17 rfl (hr.a (a := 117) rfl (by decide) rfl).1 (hr.a (a := 117) rfl (by decide) rfl).2 (by omega) (by decide) (by decide) (hr.hi (by decide)) ((congrFun (cm_o (ix_n (by decide))) _).trans (hla 1 (by decide))) ?_
  refine j_gets1 (n := 21) dX8_goOnFrom_18 rfl tX8_65 ?_
  refine j_iconst (n := 22) (v := nI 1) dX8_goOnFrom_21 rfl rfl ?_
  refine jc_sald (n := 23) (v := nI 9) dX8_goOnFrom_22 rfl (by decide) hG.2.2.1 (by decide) (by decide) hG.2.2.2.2.1 ?_
  refine j_imulN (n := 24) (c := (K / byN 1 % 9) * 9) dX8_goOnFrom_23 rfl rfl ?_
  refine j_iaddN (n := 25) (c := (K / byN 0 % 9) * 81 + (K / byN 1 % 9) * 9) dX8_goOnFrom_24 rfl rfl ?_
  refine j_aload_n (n := 26) dX8_goOnFrom_25 rfl rfl ?_
  refine j_getr (n := 29) (k := 3) (b := 117) dX8_goOnFrom_26 rfl fX8_23 (hr.a (a := 110) rfl (by decide) rfl).1 (by decide) (hr.hi (by decide)) (hr.w (k := 3) rfl (by decide)) ?_
  refine j_iconst (n := 30) (v := nI 2) dX8_goOnFrom_29 rfl rfl ?_
  refine j_ialdN (n := 31) (L := 3) (a := 117) (i := 2) (v := nI (K / byN 2 % 9)) dX8_goOnFrom_30 rfl (hr.a (a := 117) rfl (by decide) rfl).1 (hr.a (a := 117) rfl (by decide) rfl).2 (by omega) (by decide) (by decide) (hr.hi (by decide)) ((congrFun (cm_o (ix_n (by decide))) _).trans (hla 2 (by decide))) ?_
  refine j_gets1 (n := 34) dX8_goOnFrom_31 rfl tX8_65 ?_
  refine j_iconst (n := 35) (v := nI 2) dX8_goOnFrom_34 rfl rfl ?_
  refine jc_sald (n := 36) (v := nI 1) dX8_goOnFrom_35 rfl (by decide) hG.2.2.1 (by decide) (by decide) hG.2.2.2.2.2 ?_
  refine j_imulN (n := 37) (c := (K / byN 2 % 9) * 1) dX8_goOnFrom_36 rfl rfl ?_
  refine j_iaddN (n := 38) (c := (K / byN 0 % 9) * 81 + (K / byN 1 % 9) * 9 + (K / byN 2 % 9) * 1) dX8_goOnFrom_37 rfl rfl ?_
  refine j_top (y := nI K) (congrArg nI (by show K / 81 % 9 * 81 + K / 9 % 9 * 9 + K / 1 % 9 * 1 = K; omega)) ?_
  refine j_istore_n (n := 39) (lv2 := [some (.ref 110), some (.ref 17), some (.int (nI many)), some (.int (nI K)), none, none, none, none]) dX8_goOnFrom_38 rfl rfl (by decide) rfl ?_
  refine j_aload_n (n := 40) dX8_goOnFrom_39 rfl rfl ?_
  refine j_getr (n := 43) (k := 1) (b := 112) dX8_goOnFrom_40 rfl fX8_15 (hr.a (a := 110) rfl (by decide) rfl).1 (by decide) (hr.hi (by decide)) (hr.w (k := 1) rfl (by decide)) ?_
  refine j_iload_n (n := 44) dX8_goOnFrom_43 rfl rfl ?_
  refine j_ialdN (n := 45) (L := 729) (a := 112) (i := K) (v := nI (B K)) dX8_goOnFrom_44 rfl (hr.a (a := 112) rfl (by decide) rfl).1 (hr.a (a := 112) rfl (by decide) rfl).2 (by omega) (by decide) (by decide) (hr.hi (by decide)) ((congrFun (cm_o (ix_n (by decide))) _).trans (hwy.1 K hK)) ?_
  refine j_istore (n := 47) (lv2 := [some (.ref 110), some (.ref 17), some (.int (nI many)), some (.int (nI K)), some (.int (nI (B K))), none, none, none]) dX8_goOnFrom_45 rfl rfl (by decide) rfl ?_
  refine j_iconst (n := 48) (v := nI 0) dX8_goOnFrom_47 rfl rfl ?_
  refine j_istore (n := 50) (lv2 := [some (.ref 110), some (.ref 17), some (.int (nI many)), some (.int (nI K)), some (.int (nI (B K))), some (.int (nI 0)), none, none]) dX8_goOnFrom_48 rfl rfl (by decide) rfl ?_
  refine j_wk (lv2 := [some (.ref 110), some (.ref 17), some (.int (nI many)), some (.int (nI K)), some (.int (nI (B K))), some (.int (nI 0)), none, none]) ⟨rfl, rfl, rfl, rfl, rfl, rfl, trivial⟩ ?_
  exact roomsL _ 0 M rfl (Nat.zero_le _) (scG.rf M) rfl (fun i hi => by rw [hwy.2 i hi]; unfold wWp; rw [if_neg (by omega)])
