-- CLASS K: by program (wip/whole/gen/c11.py)
theorem sumP_lv {p q : Nat → Nat} (h : lvE p q) (h0 : p 0 ≤ 8) : ∀ k, k ≤ p 0 → sumP q k = sumP p k
  | 0, _ => rfl
  | k + 1, hk => by
    rw [sumP, sumP, sumP_lv h h0 k (by omega)]
    unfold regsP
    rw [h.o h0 (show k < p 0 by omega) (show 2 < 5 by decide), h.o h0 (show k < p 0 by omega) (show 3 < 5 by decide), h.o h0 (show k < p 0 by omega) (show 4 < 5 by decide)]
theorem th_end2 {M M3 : zMem} {f x : Nat → Nat} (h : scT M M3) : ∃ M2, scx M M2 ∧ cm (cm M3 48 f) 79 x = cm M2 48 f :=
  ⟨cm M3 79 x, fun a ha => by
    rw [cm_o (ix_n (by unfold scz at ha; omega))]
    exact h a (fun z => ha (by unfold stk at z; unfold scz; omega)), cm_comm _ _ _ (by decide)⟩
theorem k_countHits (d : Nat) (G : zG) (M : zMem) (X : zX) (hr : kR X) (c : Nat → Nat) (hx : tx M X 17 c) (hR : tR X 17) (b : Nat) (hw : wf c b 9999) (hb : b ≤ 800000000) (q : Nat) (hq : q < 4) (hlq : tN (M (127 + 2 * q) 1) ≤ 24) : zCall G miX9_countHits (d + 6) [.ref 16, .ref (127 + 2 * q)] (zVr (fun M1 X1 => X1 = cpX X 79 17 ∧ ∃ M2, (scx M M2 ∧ ∀ k, k < c 0 → M2 126 k = nI (likeN c (M (127 + 2 * q + 1)) k (tN (M (127 + 2 * q) 1)))) ∧ M1 = cm M2 17 c)) (cm M 17 c) X 0 0 := by
  refine zCall.of (lv := [some (.ref 16), some (.ref (127 + 2 * q)), none, none]) (by decide) (Nat.le_of_ble_eq_true rfl) rfl ?_
  have hwf0 := hw
  have h0 := hw.1.1
  have h2 := hw.day
  have h8 := hw.2.1.1
  have hlen : ∀ {M1 : zMem}, scx M M1 → M1 (127 + 2 * q) = M (127 + 2 * q) := fun h => h _ (fun z => by unfold scz at z; omega)
  have hrow : ∀ {M1 : zMem}, scx M M1 → M1 (127 + 2 * q + 1) = M (127 + 2 * q + 1) := fun h => h _ (fun z => by unfold scz at z; omega)
  have main : ∀ (M0 : zMem) (e : Nat → Nat), scx M M0 → (∀ i, i < 8 → M0 126 i = nI 0) → lvE c e → tx (cm M0 17 c) (cpX X 79 17) 79 e → zAt G miX9_countHits (zRm (d + 6) 0 0) (zQ G (zVr (fun M1 X1 => X1 = cpX X 79 17 ∧ ∃ M2, (scx M M2 ∧ ∀ k, k < c 0 → M2 126 k = nI (likeN c (M (127 + 2 * q + 1)) k (tN (M (127 + 2 * q) 1)))) ∧ M1 = cm M2 17 c)) 0 0) 21 [some (.ref 16), some (.ref (127 + 2 * q)), some (.int (nI 0)), none] [] (cm (cm M0 17 c) 79 e) (cpX X 79 17) (0, 0) := by
    intro M0 e hs0 hz0 hth0 hxe0
    have hr := kR_cpX hr (B := 79) (F := 17) (by decide)
    have hwe := lvE_wf hth0 hw
    have inner : ∀ (n : Nat), n < tN (M (127 + 2 * q) 1) → (∀ M1, scT M0 M1 ∨ True → True) → ∀ (j i : Nat) (M1 : zMem), c 0 - i = j → i ≤ c 0 → scx M M1 → tx (cm M1 17 c) (cpX X 79 17) 79 e → (∀ k, k < c 0 → M1 126 k = nI (if k < i then likeN c (M (127 + 2 * q + 1)) k (n + 1) else likeN c (M (127 + 2 * q + 1)) k n)) → (∀ M2, scx M M2 → tx (cm M2 17 c) (cpX X 79 17) 79 e → (∀ k, k < c 0 → M2 126 k = nI (likeN c (M (127 + 2 * q + 1)) k (n + 1))) → zAt G miX9_countHits (zRm (d + 6) 0 0) (zQ G (zVr (fun M1 X1 => X1 = cpX X 79 17 ∧ ∃ M2, (scx M M2 ∧ ∀ k, k < c 0 → M2 126 k = nI (likeN c (M (127 + 2 * q + 1)) k (tN (M (127 + 2 * q) 1)))) ∧ M1 = cm M2 17 c)) 0 0) 87 [some (.ref 16), some (.ref (127 + 2 * q)), some (.int (nI n)), none] [] (cm (cm M2 17 c) 79 (daysP e n)) (cpX X 79 17) (0, 0)) → zAt G miX9_countHits (zRm (d + 6) 0 0) (zQ G (zVr (fun M1 X1 => X1 = cpX X 79 17 ∧ ∃ M2, (scx M M2 ∧ ∀ k, k < c 0 → M2 126 k = nI (likeN c (M (127 + 2 * q + 1)) k (tN (M (127 + 2 * q) 1)))) ∧ M1 = cm M2 17 c)) 0 0) 31 [some (.ref 16), some (.ref (127 + 2 * q)), some (.int (nI n)), some (.int (nI i))] [] (cm (cm M1 17 c) 79 (daysP e n)) (cpX X 79 17) (0, 0) := by
      intro n hn _ j
      induction j using Nat.strongRecOn with
      | ind j ih =>
        intro i M1 hj hi0 hsc hx1 hhit cont
        have hwd := wf_days hwe n
        have hlv := lv_days hth0 hwf0 n
        have hd0 : daysP e n 0 = c 0 := (days_0 hwe n).trans (hth0.n (by decide))
        refine j_iload_n (n := 32) dX9_countHits_31 rfl rfl ?_
        refine j_aload_n (n := 33) dX9_countHits_32 rfl rfl ?_
        refine j_getr (n := 36) (k := 2) (b := 79) dX9_countHits_33 rfl fX9_19 (hr).c (by decide) ((hr).hi (by decide)) (hr.f (k := 2) rfl (by decide)) ?_
        refine jc_get (n := 39) (k := 1) (v := nI (c 0)) dX9_countHits_36 rfl fX9_72 (hr.1.2.2).c (hr.1.2.2).lo ((hr.1.2.2).hi (by omega)) ((cm_r (ix_t rfl)).trans (congrArg nI hd0)) ?_
        refine j_icmp_geT (n := 42) (tg := 87) dX9_countHits_39 rfl rfl (i_N (by omega)) (i_N (by omega)) (fun h101 => ?_) (fun h101 => ?_)
        · refine j_wk (lv2 := [some (.ref 16), some (.ref (127 + 2 * q)), some (.int (nI n)), none]) ⟨rfl, rfl, rfl, trivial⟩ ?_
          exact cont M1 hsc hx1 (fun k hk => by rw [hhit k hk, if_pos (by omega)])
        · have hrm := hlv.o (by rw [days_0 hwf0]; exact h0) (k := i) (j := 1) (by rw [days_0 hwf0]; omega) (by decide)
          have hro := ((wf_days hwf0 n).1.2 i (by rw [days_0 hwf0]; omega)).2.1
          have hlk := likeN_le c (M (127 + 2 * q + 1)) i n
          refine j_aload_n (n := 43) dX9_countHits_42 rfl rfl ?_
          refine j_iload_n (n := 44) dX9_countHits_43 rfl rfl ?_
          refine j_cV (n := 47) dX9_countHits_44 rfl sX9_300 (c_isNumber (d + 5) G _ _ (127 + 2 * q) (hr.sh (i := q) (by omega)) n (by omega) ((M (127 + 2 * q + 1)) n) (by rw [cm_o (ix_n (by omega)), cm_o (ix_n (by omega)), hrow hsc])) (by omega) (by decide) rfl rfl (Nat.le_of_ble_eq_true rfl) ((hr.sh (i := q) (by omega))).2.2.1 ((hr.sh (i := q) (by omega))).1 (Nat.lt_of_succ_lt ((hr.sh (i := q) (by omega))).2.1) (by decide) (by decide) ?_
          refine j_if_eqB (n := 50) (tg := 81) dX9_countHits_47 rfl rfl (fun h102 => ?_) (fun h102 => ?_)
          · refine j_iinc (n := 84) (y := nI (i + 1)) (lv2 := [some (.ref 16), some (.ref (127 + 2 * q)), some (.int (nI n)), some (.int (nI (i + 1)))]) dX9_countHits_81 rfl rfl (by decide) rfl (show nI i + nI 1 = nI (i + 1) by rw [nI_add]) rfl ?_
            refine j_goto (n := 31) dX9_countHits_84 rfl ?_
            have eL : likeN c (M (127 + 2 * q + 1)) i (n + 1) = likeN c (M (127 + 2 * q + 1)) i n := by rw [likeN]; rw [if_neg (by omega)]; exact Nat.add_zero _
            exact ih _ (by omega) (i + 1) _ rfl (by omega) hsc hx1 (fun k hk => by rw [hhit k hk]; by_cases hki : k = i; (rw [hki, if_neg (by omega), if_pos (by omega), eL]); (by_cases h2 : k < i; (rw [if_pos h2, if_pos (by omega)]); (rw [if_neg h2, if_neg (by omega)]))) cont
          · refine j_aload_n (n := 51) dX9_countHits_50 rfl rfl ?_
            refine j_getr (n := 54) (k := 2) (b := 127 + 2 * q + 1) dX9_countHits_51 rfl fX9_292 ((hr.sh (i := q) (by omega))).2.2.1 ((hr.sh (i := q) (by omega))).1 (Nat.lt_of_succ_lt ((hr.sh (i := q) (by omega))).2.1) ((hr.sh (i := q) (by omega))).2.2.2.1 ?_
            refine j_iload_n (n := 55) dX9_countHits_54 rfl rfl ?_
            refine j_ialdN (n := 56) (L := 24) (a := 127 + 2 * q + 1) (i := n) (v := (M (127 + 2 * q + 1)) n) dX9_countHits_55 rfl ((hr.sh (i := q) (by omega))).2.2.2.2.1 ((hr.sh (i := q) (by omega))).2.2.2.2.2 (by omega) (by decide) (Nat.le_succ_of_le ((hr.sh (i := q) (by omega))).1) ((hr.sh (i := q) (by omega))).2.1 (by rw [cm_o (ix_n (by omega)), cm_o (ix_n (by omega)), hrow hsc]) ?_
            refine j_aload_n (n := 57) dX9_countHits_56 rfl rfl ?_
            refine j_getr (n := 60) (k := 2) (b := 79) dX9_countHits_57 rfl fX9_19 (hr).c (by decide) ((hr).hi (by decide)) (hr.f (k := 2) rfl (by decide)) ?_
            refine j_getr (n := 63) (k := 0) (b := 80) dX9_countHits_60 rfl fX9_77 (hr.1.2.2).c (hr.1.2.2).lo ((hr.1.2.2).hi (by omega)) (hr.1.2.2).r0 ?_
            refine j_iload_n (n := 64) dX9_countHits_63 rfl rfl ?_
            refine jc_aald (n := 65) (t := 2) (L := 8) (i := i) (b := 79 + 5 + 2 * i) dX9_countHits_64 rfl ((hr.1.2.2).a1).1 (by decide) rfl ((hr.1.2.2).a1).2 (by omega) (by decide) (by have := (hr.1.2.2).lo; omega) ((hr.1.2.2).hi (by omega)) ((hr.1.2.2).e1 (by omega)) ?_
            refine jc_get (n := 68) (k := 1) (v := nI ((daysP e n) (10 + 5 * i + 1))) dX9_countHits_65 rfl fX9_93 ((hr.1.2.2).p (by omega)).2.2.1 ((hr.1.2.2).p (by omega)).1 ((hr.1.2.2).hi (by omega)) (cm_r (ix_p (by omega) (by decide) rfl)) ?_
            refine j_icmp_neT (n := 71) (tg := 81) dX9_countHits_68 rfl rfl rfl (i_N (by omega)) (fun h103 => ?_) (fun h103 => ?_)
            · refine j_iinc (n := 84) (y := nI (i + 1)) (lv2 := [some (.ref 16), some (.ref (127 + 2 * q)), some (.int (nI n)), some (.int (nI (i + 1)))]) dX9_countHits_81 rfl rfl (by decide) rfl (show nI i + nI 1 = nI (i + 1) by rw [nI_add]) rfl ?_
              refine j_goto (n := 31) dX9_countHits_84 rfl ?_
              have eL : likeN c (M (127 + 2 * q + 1)) i (n + 1) = likeN c (M (127 + 2 * q + 1)) i n := by rw [likeN]; rw [if_neg (by omega)]; exact Nat.add_zero _
              exact ih _ (by omega) (i + 1) _ rfl (by omega) hsc hx1 (fun k hk => by rw [hhit k hk]; by_cases hki : k = i; (rw [hki, if_neg (by omega), if_pos (by omega), eL]); (by_cases h2 : k < i; (rw [if_pos h2, if_pos (by omega)]); (rw [if_neg h2, if_neg (by omega)]))) cont
            · refine j_aload_n (n := 72) dX9_countHits_71 rfl rfl ?_
              refine j_getr (n := 75) (k := 12) (b := 126) dX9_countHits_72 rfl fX9_56 (hr).c (by decide) ((hr).hi (by decide)) (hr.f (k := 12) rfl (by decide)) ?_
              refine j_iload_n (n := 76) dX9_countHits_75 rfl rfl ?_
              refine j_dup2 (n := 77) dX9_countHits_76 rfl rfl rfl ?_
              refine j_ialdN (n := 78) (L := 8) (a := 126) (i := i) (v := nI (likeN c (M (127 + 2 * q + 1)) i n)) dX9_countHits_77 rfl (hr.a (a := 126) rfl (by decide) rfl).1 (hr.a (a := 126) rfl (by decide) rfl).2 (by omega) (by decide) (by decide) (hr.hi (by decide)) ((congrFun (cm_o (ix_n (by decide))) _).trans ((congrFun (cm_o (ix_n (by decide))) _).trans ((hhit i (by omega)).trans (by rw [if_neg (by omega)])))) ?_
              refine j_iconst (n := 79) (v := nI 1) dX9_countHits_78 rfl rfl ?_
              refine j_iaddN (n := 80) (c := likeN c (M (127 + 2 * q + 1)) i n + 1) dX9_countHits_79 rfl rfl ?_
              refine j_iastN (n := 81) (L := 8) (a := 126) (i := i) (x := nI (likeN c (M (127 + 2 * q + 1)) i n + 1)) (M2 := cm (cm (zs M1 126 (upd (M1 126) i (nI (likeN c (M (127 + 2 * q + 1)) i n + 1)))) 17 c) 79 (daysP e n)) dX9_countHits_80 rfl (hr.a (a := 126) rfl (by decide) rfl).1 (hr.a (a := 126) rfl (by decide) rfl).2 (by omega) (by decide) (by decide) (hr.hi (by decide)) ((cm_wo2 (ix_n (by decide)) (fun f => upd f i _)).trans (congrArg (fun z => cm z 79 _) (cm_wo2 (ix_n (by decide)) (fun f => upd f i _)))) ?_
              refine j_iinc (n := 84) (y := nI (i + 1)) (lv2 := [some (.ref 16), some (.ref (127 + 2 * q)), some (.int (nI n)), some (.int (nI (i + 1)))]) dX9_countHits_81 rfl rfl (by decide) rfl (show nI i + nI 1 = nI (i + 1) by rw [nI_add]) rfl ?_
              refine j_goto (n := 31) dX9_countHits_84 rfl ?_
              have eL : likeN c (M (127 + 2 * q + 1)) i (n + 1) = likeN c (M (127 + 2 * q + 1)) i n + 1 := by rw [likeN]; rw [if_pos ⟨by omega, by omega⟩]
              exact ih _ (by omega) (i + 1) _ rfl (by omega) (hsc.tr (scx.s _ _ (by unfold scz; omega))) (by have hc2 := tx_scx hx1 (M1 := cm (zs M1 126 (upd (M1 126) i (nI (likeN c (M (127 + 2 * q + 1)) i n + 1)))) 17 c) (fun a ha => by rw [← cm_wo (ix_n (by decide))]; exact zs_ne _ _ (fun z => ha (by unfold scz; omega))); exact hc2) (fun k hk => by rw [zs_eq]; simp only [upd]; by_cases hki : k = i; (rw [if_pos hki, hki, if_pos (by omega), eL]); (rw [if_neg hki, hhit k hk]; by_cases h2 : k < i; (rw [if_pos h2, if_pos (by omega)]); (rw [if_neg h2, if_neg (by omega)]))) cont
    have outer : ∀ (j n : Nat) (M1 : zMem), tN (M (127 + 2 * q) 1) - n = j → n ≤ tN (M (127 + 2 * q) 1) → scx M M1 → tx (cm M1 17 c) (cpX X 79 17) 79 e → (∀ k, k < c 0 → M1 126 k = nI (likeN c (M (127 + 2 * q + 1)) k n)) → zAt G miX9_countHits (zRm (d + 6) 0 0) (zQ G (zVr (fun M1 X1 => X1 = cpX X 79 17 ∧ ∃ M2, (scx M M2 ∧ ∀ k, k < c 0 → M2 126 k = nI (likeN c (M (127 + 2 * q + 1)) k (tN (M (127 + 2 * q) 1)))) ∧ M1 = cm M2 17 c)) 0 0) 21 [some (.ref 16), some (.ref (127 + 2 * q)), some (.int (nI n)), none] [] (cm (cm M1 17 c) 79 (daysP e n)) (cpX X 79 17) (0, 0) := by
      intro j
      induction j using Nat.strongRecOn with
      | ind j ih =>
        intro n M1 hj hn0 hsc hx1 hhit
        refine j_iload_n (n := 22) dX9_countHits_21 rfl rfl ?_
        refine j_aload_n (n := 23) dX9_countHits_22 rfl rfl ?_
        refine jc_get (n := 26) (k := 1) (v := nI (tN (M (127 + 2 * q) 1))) dX9_countHits_23 rfl fX9_297 ((hr.sh (i := q) (by omega))).2.2.1 ((hr.sh (i := q) (by omega))).1 (Nat.lt_of_succ_lt ((hr.sh (i := q) (by omega))).2.1) (by rw [cm_o (ix_n (by omega)), cm_o (ix_n (by omega)), hlen hsc]; exact (nI_tN _).symm) ?_
        refine j_icmp_geT (n := 29) (tg := 100) dX9_countHits_26 rfl rfl (i_N (by omega)) (i_N (by omega)) (fun h105 => ?_) (fun h105 => ?_)
        · have en : n = tN (M (127 + 2 * q) 1) := by omega
          rw [en] at hhit
          exact j_vret dX9_countHits_100 rfl (Nat.le_refl _) (Nat.le_refl _) ⟨rfl, rfl, cm M1 79 (daysP e n), ⟨fun a ha => by rw [cm_o (ix_n (by unfold scz at ha; omega))]; exact hsc a ha, fun k hk => by rw [cm_o (ix_n (by decide))]; exact hhit k hk⟩, cm_comm _ _ _ (by decide)⟩
        · refine j_iconst (n := 30) (v := nI 0) dX9_countHits_29 rfl rfl ?_
          refine j_istore_n (n := 31) (lv2 := [some (.ref 16), some (.ref (127 + 2 * q)), some (.int (nI n)), some (.int (nI 0))]) dX9_countHits_30 rfl rfl (by decide) rfl ?_
          refine inner n (by omega) (fun _ _ => trivial) _ 0 M1 rfl (Nat.zero_le _) hsc hx1 (fun k hk => by rw [hhit k hk, if_neg (by omega)]) (fun M2 hs2 hx2 hh2 => ?_)
          have hwd := wf_days hwe n
          have hxd := hx2.days (scT.rf _) hwe n
          refine j_aload_n (n := 88) dX9_countHits_87 rfl rfl ?_
          refine j_getr (n := 91) (k := 2) (b := 79) dX9_countHits_88 rfl fX9_19 (hr).c (by decide) ((hr).hi (by decide)) (hr.f (k := 2) rfl (by decide)) ?_
          refine j_cVvr (n := 94) dX9_countHits_91 rfl sX9_191 (c_liveDay d G _ _ 79 hr.1.2.2 _ hxd _ _ hwd (by omega) (by omega)) (by omega) (by decide) rfl rfl (Nat.le_of_ble_eq_true rfl) (hr.1.2.2).c (hr.1.2.2).lo ((hr.1.2.2).hi (by omega)) (by decide) (by decide) (fun N104 Y104 hh104 => ?_)
          obtain ⟨e2104, M0104, hs0104, e3104⟩ := hh104
          obtain ⟨M3, hs3, e4104⟩ := scT_un (by decide) hs0104
          rw [e2104, e3104, e4104]
          refine j_iinc (n := 97) (y := nI (n + 1)) (lv2 := [some (.ref 16), some (.ref (127 + 2 * q)), some (.int (nI (n + 1))), none]) dX9_countHits_94 rfl rfl (by decide) rfl (show nI n + nI 1 = nI (n + 1) by rw [nI_add]) rfl ?_
          refine j_goto (n := 21) dX9_countHits_97 rfl ?_
          refine j_wk (lv2 := [some (.ref 16), some (.ref (127 + 2 * q)), some (.int (nI (n + 1))), none]) ⟨rfl, rfl, rfl, trivial⟩ ?_
          exact ih _ (by omega) (n + 1) M3 rfl (by omega) (hs2.tr hs3.x) (hx2.sc (hs3.cm 17 c (by decide))) (fun k hk => (congrFun (hs3 126 (fun z => by unfold stk at z; omega)) k).trans (hh2 k hk))
    exact outer _ 0 M0 rfl (Nat.zero_le _) hs0 hxe0 (fun k hk => (hz0 k (by omega)).trans rfl)
  obtain ⟨M0, hM0⟩ : ∃ M0, M0 = zs M 126 (flF (M 126) 8 (nI 0)) := ⟨_, rfl⟩
  have hs0 : scx M M0 := by rw [hM0]; exact scx.s _ _ (by unfold scz; omega)
  have hz0 : ∀ i, i < 8 → M0 126 i = nI 0 := fun i hi => by rw [hM0, zs_eq]; unfold flF; rw [if_pos hi]
  have hx0 := tx_scx hx hs0
  refine j_aload_n (n := 1) dX9_countHits_0 rfl rfl ?_
  refine j_getr (n := 4) (k := 12) (b := 126) dX9_countHits_1 rfl fX9_56 (hr).c (by decide) ((hr).hi (by decide)) (hr.f (k := 12) rfl (by decide)) ?_
  refine j_iconst (n := 5) (v := nI 0) dX9_countHits_4 rfl rfl ?_
  refine j_cSv (n := 8) dX9_countHits_5 rfl sX9_344 (c_fill (d + 5) G _ _ 126 8 (hr.a (a := 126) rfl (by decide) rfl).1 (hr.a (a := 126) rfl (by decide) rfl).2 (by decide) (by decide) (hr.hi (by decide)) (nI 0)) (by omega) (by decide) rfl rfl (Nat.le_of_ble_eq_true rfl) (by decide) (by decide) ?_
  refine j_mem (M2 := cm M0 17 c) (by rw [hM0]; exact cm_wo2 (ix_n (by decide)) (fun f => flF f 8 (nI 0))) ?_
  refine j_aload_n (n := 9) dX9_countHits_8 rfl rfl ?_
  refine j_getr (n := 12) (k := 2) (b := 79) dX9_countHits_9 rfl fX9_19 (hr).c (by decide) ((hr).hi (by decide)) (hr.f (k := 2) rfl (by decide)) ?_
  refine j_aload_n (n := 13) dX9_countHits_12 rfl rfl ?_
  refine j_getr (n := 16) (k := 0) (b := 17) dX9_countHits_13 rfl fX9_10 (hr).c (by decide) ((hr).hi (by decide)) (hr.f (k := 0) rfl (by decide)) ?_
  refine j_mem (M2 := cm (cm M0 17 c) 79 (rdT (cm M0 17 c) 79)) (cm_rd _ _).symm ?_
  refine j_cVv (n := 19) dX9_countHits_16 rfl sX9_223 (c_becomeAsT (d + 3) G M0 _ 79 17 hr.1.2.2 hr.1.1 (by decide) _ c hw.1 hw.2.1 hR) (by omega) (by decide) rfl rfl (Nat.le_of_ble_eq_true rfl) (hr.1.2.2).c (hr.1.2.2).lo ((hr.1.2.2).hi (by omega)) (by decide) (by decide) ?_
  have hxe0 := tx_cm (tx_cpX (c := rdT (cm M0 17 c) 79) (B := 79) hx0 (by decide) hw.2.2.1.1) 17 c (by decide)
  have hth0 := lv_as (rdT (cm M0 17 c) 79) c
  generalize asP (rdT (cm M0 17 c) 79) c = e at hxe0 hth0 ⊢
  have hwe := lvE_wf hth0 hw
  have hr := kR_cpX hr (B := 79) (F := 17) (by decide)
  refine j_iconst (n := 20) (v := nI 0) dX9_countHits_19 rfl rfl ?_
  refine j_istore_n (n := 21) (lv2 := [some (.ref 16), some (.ref (127 + 2 * q)), some (.int (nI 0)), none]) dX9_countHits_20 rfl rfl (by decide) rfl ?_
  refine j_wk (lv2 := [some (.ref 16), some (.ref (127 + 2 * q)), some (.int (nI 0)), none]) ⟨rfl, rfl, rfl, trivial⟩ ?_
  exact main M0 e hs0 hz0 hth0 hxe0
theorem k_like (d : Nat) (G : zG) (M : zMem) (X : zX) (hr : kR X) (c : Nat → Nat) (hx : tx M X 17 c) (hR : tR X 17) (b : Nat) (hw : wf c b 9999) (hb : b ≤ 800000000) (hsc : wfSC M) (sheet what : Int32) : zCall G miX9_like (d + 7) [.ref 16, .int sheet, .int what] (zIr (fun r0 M1 X1 => r0 = r_like c sheet (M (127 + 2 * tN sheet) 0) (tN (M (127 + 2 * tN sheet) 1)) (M (127 + 2 * tN sheet + 1)) what ∧ (X1 = X ∨ X1 = cpX X 79 17) ∧ ∃ M2, scx M M2 ∧ M1 = cm M2 17 c)) (cm M 17 c) X 0 0 := by
  refine zCall.of (lv := [some (.ref 16), some (.int sheet), some (.int what), none, none]) (by decide) (Nat.le_of_ble_eq_true rfl) rfl ?_
  have hwf0 := hw
  have h0 := hw.1.1
  have h2 := hw.day
  have h8 := hw.2.1.1
  refine j_iload_n (n := 1) dX9_like_0 rfl rfl ?_
  refine j_cS (n := 4) dX9_like_1 rfl sX9_230 (k_isSheet (d + 6) G _ _ _) (by omega) (by decide) rfl rfl (Nat.le_of_ble_eq_true rfl) (by decide) (by decide) ?_
  refine j_if_eqB (n := 7) (tg := 16) dX9_like_4 rfl rfl (fun h101 => ?_) (fun h101 => ?_)
  · refine j_ldc (n := 18) (v := -1000000001) dX9_like_16 rfl kX9_71 ?_
    exact j_iret dX9_like_18 rfl rfl (Nat.le_refl _) (Nat.le_refl _) ⟨_, rfl, (by unfold r_like; rw [if_pos (by omega)]), .inl rfl, M, scx.rf M, rfl⟩
  · refine j_iload_n (n := 8) dX9_like_7 rfl rfl ?_
    refine j_if_ltT (n := 11) (tg := 16) dX9_like_8 rfl rfl (fun h102 => ?_) (fun h102 => ?_)
    · refine j_ldc (n := 18) (v := -1000000001) dX9_like_16 rfl kX9_71 ?_
      exact j_iret dX9_like_18 rfl rfl (Nat.le_refl _) (Nat.le_refl _) ⟨_, rfl, (by unfold r_like; rw [if_pos (by omega)]), .inl rfl, M, scx.rf M, rfl⟩
    · refine j_iload_n (n := 12) dX9_like_11 rfl rfl ?_
      refine j_iconst (n := 13) (v := nI 1) dX9_like_12 rfl rfl ?_
      refine j_icmp_leT (n := 16) (tg := 19) dX9_like_13 rfl rfl rfl (i_N (by omega)) (fun h103 => ?_) (fun h103 => ?_)
      · obtain ⟨q, hq_, rfl⟩ := i_of (x := sheet) (n := 4) (by omega) (by omega)
        have eq : tN (nI q) = q := tN_nI (by omega)
        have iq : (nI q).toInt = q := i_N (by omega)
        obtain ⟨u, hu_, rfl⟩ := i_of (x := what) (n := 2) (by omega) (by omega)
        have eu : tN (nI u) = u := tN_nI (by omega)
        have iu : (nI u).toInt = u := i_N (by omega)
        have hsq := hsc q hq_
        refine j_aload_n (n := 20) dX9_like_19 rfl rfl ?_
        refine j_getr (n := 23) (k := 8) (b := 123) dX9_like_20 rfl fX9_42 (hr).c (by decide) ((hr).hi (by decide)) (hr.f (k := 8) rfl (by decide)) ?_
        refine j_iload_n (n := 24) dX9_like_23 rfl rfl ?_
        refine jc_aald (n := 25) (t := 5) (L := 4) (i := q) (b := 127 + 2 * q) dX9_like_24 rfl (hr.a (a := 123) rfl (by decide) rfl).1 (by decide) rfl (hr.a (a := 123) rfl (by decide) rfl).2 (by omega) (by decide) (by decide) (hr.hi (by decide)) (hr.she (by omega)) ?_
        refine j_cV (n := 28) dX9_like_25 rfl sX9_233 (c_isMissing (d + 6) G _ _ (127 + 2 * q) (hr.sh (i := q) (by omega)) _ ((congrFun (cm_o (ix_n (by omega))) _).trans rfl)) (by omega) (by decide) rfl rfl (Nat.le_of_ble_eq_true rfl) ((hr.sh (i := q) (by omega))).2.2.1 ((hr.sh (i := q) (by omega))).1 (Nat.lt_of_succ_lt ((hr.sh (i := q) (by omega))).2.1) (by decide) (by decide) ?_
        refine j_if_eqB (n := 31) (tg := 34) dX9_like_28 rfl rfl (fun h104 => ?_) (fun h104 => ?_)
        · refine j_aload_n (n := 35) dX9_like_34 rfl rfl ?_
          refine j_getr (n := 38) (k := 0) (b := 17) dX9_like_35 rfl fX9_10 (hr).c (by decide) ((hr).hi (by decide)) (hr.f (k := 0) rfl (by decide)) ?_
          refine jc_get (n := 41) (k := 1) (v := nI (c 0)) dX9_like_38 rfl fX9_72 (hr.1.1).c (hr.1.1).lo ((hr.1.1).hi (by omega)) (cm_r (ix_t rfl)) ?_
          refine j_if_neN (n := 44) (tg := 47) dX9_like_41 rfl rfl (by omega) (fun h105 => ?_) (fun h105 => ?_)
          · refine j_aload_n (n := 48) dX9_like_47 rfl rfl ?_
            refine j_aload_n (n := 49) dX9_like_48 rfl rfl ?_
            refine j_getr (n := 52) (k := 8) (b := 123) dX9_like_49 rfl fX9_42 (hr).c (by decide) ((hr).hi (by decide)) (hr.f (k := 8) rfl (by decide)) ?_
            refine j_iload_n (n := 53) dX9_like_52 rfl rfl ?_
            refine jc_aald (n := 54) (t := 5) (L := 4) (i := q) (b := 127 + 2 * q) dX9_like_53 rfl (hr.a (a := 123) rfl (by decide) rfl).1 (by decide) rfl (hr.a (a := 123) rfl (by decide) rfl).2 (by omega) (by decide) (by decide) (hr.hi (by decide)) (hr.she (by omega)) ?_
            refine j_cVvr (n := 57) dX9_like_54 rfl sX9_238 (k_countHits d G _ _ hr _ hx hR _ hw hb q (by omega) (by omega)) (by omega) (by decide) rfl rfl (Nat.le_of_ble_eq_true rfl) (hr).c (by decide) ((hr).hi (by decide)) (by decide) (by decide) (fun N106 Y106 hh106 => ?_)
            obtain ⟨e2106, M2, ⟨hsx, hhit⟩, e3106⟩ := hh106
            rw [e2106, e3106]
            have hr := kR_cpX hr (B := 79) (F := 17) (by decide)
            refine j_iconst (n := 58) (v := nI 0) dX9_like_57 rfl rfl ?_
            refine j_istore_n (n := 59) (lv2 := [some (.ref 16), some (.int (nI q)), some (.int (nI u)), some (.int (nI 0)), none]) dX9_like_58 rfl rfl (by decide) rfl ?_
            refine j_iconst (n := 60) (v := nI 1) dX9_like_59 rfl rfl ?_
            refine j_istore (n := 62) (lv2 := [some (.ref 16), some (.int (nI q)), some (.int (nI u)), some (.int (nI 0)), some (.int (nI 1))]) dX9_like_60 rfl rfl (by decide) rfl ?_
            have loop : ∀ (j i kb : Nat), c 0 - i = j → 1 ≤ i → i ≤ c 0 → kb < i → bst (nI 0) (fun k => likeN c (M (127 + 2 * q + 1)) k (tN (M (127 + 2 * q) 1))) i = (nI kb, nI (likeN c (M (127 + 2 * q + 1)) kb (tN (M (127 + 2 * q) 1)))) → zAt G miX9_like (zRm (d + 7) 0 0) (zQ G (zIr (fun r0 M1 X1 => r0 = r_like c (nI q) (M (127 + 2 * tN (nI q)) 0) (tN (M (127 + 2 * tN (nI q)) 1)) (M (127 + 2 * tN (nI q) + 1)) (nI u) ∧ (X1 = X ∨ X1 = cpX X 79 17) ∧ ∃ M2, scx M M2 ∧ M1 = cm M2 17 c)) 0 0) 62 [some (.ref 16), some (.int (nI q)), some (.int (nI u)), some (.int (nI kb)), some (.int (nI i))] [] (cm M2 17 c) (cpX X 79 17) (0, 0) := by
              intro j
              induction j using Nat.strongRecOn with
              | ind j ih =>
                intro i kb hj hi1 hi0 hkb hbst
                have l1 := likeN_le c (M (127 + 2 * q + 1)) i (tN (M (127 + 2 * q) 1))
                have l2 := likeN_le c (M (127 + 2 * q + 1)) kb (tN (M (127 + 2 * q) 1))
                have i2 : (nI (likeN c (M (127 + 2 * q + 1)) kb (tN (M (127 + 2 * q) 1)))).toInt = (likeN c (M (127 + 2 * q + 1)) kb (tN (M (127 + 2 * q) 1)) : Nat) := i_N (by omega)
                refine j_iload (n := 64) dX9_like_62 rfl rfl ?_
                refine j_aload_n (n := 65) dX9_like_64 rfl rfl ?_
                refine j_getr (n := 68) (k := 0) (b := 17) dX9_like_65 rfl fX9_10 (hr).c (by decide) ((hr).hi (by decide)) (hr.f (k := 0) rfl (by decide)) ?_
                refine jc_get (n := 71) (k := 1) (v := nI (c 0)) dX9_like_68 rfl fX9_72 (hr.1.1).c (hr.1.1).lo ((hr.1.1).hi (by omega)) (cm_r (ix_t rfl)) ?_
                refine j_icmp_geT (n := 74) (tg := 99) dX9_like_71 rfl rfl (i_N (by omega)) (i_N (by omega)) (fun h107 => ?_) (fun h107 => ?_)
                · refine j_iload_n (n := 100) dX9_like_99 rfl rfl ?_
                  refine j_if_neN (n := 103) (tg := 107) dX9_like_100 rfl rfl (by omega) (fun h108 => ?_) (fun h108 => ?_)
                  · refine j_aload_n (n := 108) dX9_like_107 rfl rfl ?_
                    refine j_getr (n := 111) (k := 12) (b := 126) dX9_like_108 rfl fX9_56 (hr).c (by decide) ((hr).hi (by decide)) (hr.f (k := 12) rfl (by decide)) ?_
                    refine j_iload_n (n := 112) dX9_like_111 rfl rfl ?_
                    refine j_ialdN (n := 113) (L := 8) (a := 126) (i := kb) (v := nI (likeN c (M (127 + 2 * q + 1)) kb (tN (M (127 + 2 * q) 1)))) dX9_like_112 rfl (hr.a (a := 126) rfl (by decide) rfl).1 (hr.a (a := 126) rfl (by decide) rfl).2 (by omega) (by decide) (by decide) (hr.hi (by decide)) ((congrFun (cm_o (ix_n (by decide))) _).trans (hhit _ (by omega))) ?_
                    exact j_iret dX9_like_113 rfl rfl (Nat.le_refl _) (Nat.le_refl _) ⟨_, rfl, (by have ei : i = c 0 := (by omega); obtain ⟨n8, hn8⟩ : ∃ n8, c 0 = n8 + 1 := ⟨c 0 - 1, by omega⟩; rw [ei, hn8] at hbst; unfold r_like; rw [eq, if_neg (by omega), if_neg (by omega), hn8, bst_s (-1) (nI 0), hbst, if_neg (show ¬ (nI kb).toInt < 0 by rw [i_N (by omega)]; omega)]; first | (rw [if_pos (by omega)]; done) | rw [if_neg (by omega)]), .inr rfl, M2, hsx, rfl⟩
                  · refine j_iload_n (n := 104) dX9_like_103 rfl rfl ?_
                    refine j_goto (n := 113) dX9_like_104 rfl ?_
                    exact j_iret dX9_like_113 rfl rfl (Nat.le_refl _) (Nat.le_refl _) ⟨_, rfl, (by have ei : i = c 0 := (by omega); obtain ⟨n8, hn8⟩ : ∃ n8, c 0 = n8 + 1 := ⟨c 0 - 1, by omega⟩; rw [ei, hn8] at hbst; unfold r_like; rw [eq, if_neg (by omega), if_neg (by omega), hn8, bst_s (-1) (nI 0), hbst, if_neg (show ¬ (nI kb).toInt < 0 by rw [i_N (by omega)]; omega)]; first | (rw [if_pos (by omega)]; done) | rw [if_neg (by omega)]), .inr rfl, M2, hsx, rfl⟩
                · refine j_aload_n (n := 75) dX9_like_74 rfl rfl ?_
                  refine j_getr (n := 78) (k := 12) (b := 126) dX9_like_75 rfl fX9_56 (hr).c (by decide) ((hr).hi (by decide)) (hr.f (k := 12) rfl (by decide)) ?_
                  refine j_iload (n := 80) dX9_like_78 rfl rfl ?_
                  refine j_ialdN (n := 81) (L := 8) (a := 126) (i := i) (v := nI (likeN c (M (127 + 2 * q + 1)) i (tN (M (127 + 2 * q) 1)))) dX9_like_80 rfl (hr.a (a := 126) rfl (by decide) rfl).1 (hr.a (a := 126) rfl (by decide) rfl).2 (by omega) (by decide) (by decide) (hr.hi (by decide)) ((congrFun (cm_o (ix_n (by decide))) _).trans (hhit _ (by omega))) ?_
                  refine j_aload_n (n := 82) dX9_like_81 rfl rfl ?_
                  refine j_getr (n := 85) (k := 12) (b := 126) dX9_like_82 rfl fX9_56 (hr).c (by decide) ((hr).hi (by decide)) (hr.f (k := 12) rfl (by decide)) ?_
                  refine j_iload_n (n := 86) dX9_like_85 rfl rfl ?_
                  refine j_ialdN (n := 87) (L := 8) (a := 126) (i := kb) (v := nI (likeN c (M (127 + 2 * q + 1)) kb (tN (M (127 + 2 * q) 1)))) dX9_like_86 rfl (hr.a (a := 126) rfl (by decide) rfl).1 (hr.a (a := 126) rfl (by decide) rfl).2 (by omega) (by decide) (by decide) (hr.hi (by decide)) ((congrFun (cm_o (ix_n (by decide))) _).trans (hhit _ (by omega))) ?_
                  refine j_icmp_leT (n := 90) (tg := 93) dX9_like_87 rfl rfl (i_N (by omega)) (i_N (by omega)) (fun h109 => ?_) (fun h109 => ?_)
                  · refine j_iinc (n := 96) (y := nI (i + 1)) (lv2 := [some (.ref 16), some (.int (nI q)), some (.int (nI u)), some (.int (nI kb)), some (.int (nI (i + 1)))]) dX9_like_93 rfl rfl (by decide) rfl (show nI i + nI 1 = nI (i + 1) by rw [nI_add]) rfl ?_
                    refine j_goto (n := 62) dX9_like_96 rfl ?_
                    exact ih _ (by omega) (i + 1) kb rfl (by omega) (by omega) (by omega) (by rw [bst, hbst]; dsimp only; first | (rw [if_pos (by omega)]; done) | (rw [if_neg (by omega)]))
                  · refine j_iload (n := 92) dX9_like_90 rfl rfl ?_
                    refine j_istore_n (n := 93) (lv2 := [some (.ref 16), some (.int (nI q)), some (.int (nI u)), some (.int (nI i)), some (.int (nI i))]) dX9_like_92 rfl rfl (by decide) rfl ?_
                    refine j_iinc (n := 96) (y := nI (i + 1)) (lv2 := [some (.ref 16), some (.int (nI q)), some (.int (nI u)), some (.int (nI i)), some (.int (nI (i + 1)))]) dX9_like_93 rfl rfl (by decide) rfl (show nI i + nI 1 = nI (i + 1) by rw [nI_add]) rfl ?_
                    refine j_goto (n := 62) dX9_like_96 rfl ?_
                    exact ih _ (by omega) (i + 1) i rfl (by omega) (by omega) (by omega) (by rw [bst, hbst]; dsimp only; first | (rw [if_pos (by omega)]; done) | (rw [if_neg (by omega)]))
            exact loop _ 1 0 rfl (Nat.le_refl _) (by omega) (by decide) (bst_1 _ _)
          · refine j_ldc (n := 46) (v := -1000000005) dX9_like_44 rfl kX9_219 ?_
            exact j_iret dX9_like_46 rfl rfl (Nat.le_refl _) (Nat.le_refl _) ⟨_, rfl, (by unfold r_like; rw [eq, if_neg (by omega), if_neg (by omega), show c 0 = 0 by omega]; exact (if_pos (show ((-1 : Int32)).toInt < 0 by decide)).symm), .inl rfl, M, scx.rf M, rfl⟩
        · refine j_ldc (n := 33) (v := -1000000011) dX9_like_31 rfl kX9_237 ?_
          exact j_iret dX9_like_33 rfl rfl (Nat.le_refl _) (Nat.le_refl _) ⟨_, rfl, (by unfold r_like; (try simp only [eq]); (repeat (first | rw [if_pos (by omega)] | rw [if_neg (by omega)])); all_goals rfl), .inl rfl, M, scx.rf M, rfl⟩
      · refine j_ldc (n := 18) (v := -1000000001) dX9_like_16 rfl kX9_71 ?_
        exact j_iret dX9_like_18 rfl rfl (Nat.le_refl _) (Nat.le_refl _) ⟨_, rfl, (by unfold r_like; rw [if_pos (by omega)]), .inl rfl, M, scx.rf M, rfl⟩
theorem tx_16 {M : zMem} {X : zX} {B : Nat} {c : Nat → Nat} {f : Nat → Int32} (h : tx M X B c) : tx (zs M 16 f) X B c :=
  ⟨fun t ht => by
    obtain ⟨a, e1, e2⟩ := h.1 t ht
    refine ⟨a, e1, ?_⟩
    obtain ⟨h1, h2, h3, h4, h5, h6, h7, h8, h9, h10⟩ := e2
    have q0 : zs M 16 f a = M a := zs_ne _ _ (by omega)
    have q1 : zs M 16 f (a + 1) = M (a + 1) := zs_ne _ _ (by omega)
    exact ⟨h1, h2, h3, h4, h5, h6, by rw [q0]; exact h7, by rw [q0]; exact h8, by rw [q0]; exact h9, fun k hk => by rw [q1]; exact h10 k hk⟩, h.2⟩
theorem k_check (d : Nat) (G : zG) (M : zMem) (X : zX) (hr : kR X) (f : Nat → Nat) (b : Nat) (hwi : ¬ tN (M 16 3) = 0 → wf f b 9999 ∧ tx M X 48 f) (hb : b ≤ 800000000) (hR : tR X 48) (hb1 : tN (M 16 3) ≤ 1) (hwt : tN (M 16 11) ≤ 60) (n : Int32) : zCall G miX9_check (d + 6) [.ref 16, .int n] (zIr (fun r0 M1 X1 => r0 = r_check f (M 16 3) (M 125) (tN (M 16 11)) n ∧ (X1 = X ∨ X1 = cpX X 79 48) ∧ ∃ M2, scx (zs M 16 (upd (M 16) 11 (nI 0))) M2 ∧ M1 = cm M2 48 f)) (cm M 48 f) X 0 0 := by
  refine zCall.of (lv := [some (.ref 16), some (.int n), none, none, none, none]) (by decide) (Nat.le_of_ble_eq_true rfl) rfl ?_
  obtain ⟨M0, hM0⟩ : ∃ M0, M0 = (zs M 16 (upd (M 16) 11 (nI 0))) := ⟨_, rfl⟩
  have tx_M0 : tx M X 48 f → tx M0 X 48 f := fun h => by rw [hM0]; exact tx_16 h
  refine j_aload_n (n := 1) dX9_check_0 rfl rfl ?_
  refine jc_get (n := 4) (k := 11) (v := nI (tN (M 16 11))) dX9_check_1 rfl fX9_335 (hr).c (by decide) ((hr).hi (by decide)) ((congrFun (cm_o (ix_n (by decide))) _).trans ((show _ = M 16 11 from rfl).trans (nI_tN _).symm)) ?_
  refine j_istore_n (n := 5) (lv2 := [some (.ref 16), some (.int n), some (.int (nI (tN (M 16 11)))), none, none, none]) dX9_check_4 rfl rfl (by decide) rfl ?_
  refine j_aload_n (n := 6) dX9_check_5 rfl rfl ?_
  refine j_iconst (n := 7) (v := nI 0) dX9_check_6 rfl rfl ?_
  refine jc_put (n := 10) (k := 11) (x := nI 0) (M2 := cm M0 48 f) dX9_check_7 rfl pX9_335 (fun h => by cases h) rfl rfl (hr).c (by decide) ((hr).hi (by decide)) (by rw [hM0]; exact cm_wo2 (ix_n (by decide)) (fun f => upd f 11 (nI 0))) ?_
  refine j_iload_n (n := 11) dX9_check_10 rfl rfl ?_
  refine j_iconst (n := 12) (v := nI 1) dX9_check_11 rfl rfl ?_
  refine j_icmp_ltT (n := 15) (tg := 21) dX9_check_12 rfl rfl rfl (i_N (by omega)) (fun h101 => ?_) (fun h101 => ?_)
  · refine j_ldc (n := 23) (v := -1000000001) dX9_check_21 rfl kX9_71 ?_
    exact j_iret dX9_check_23 rfl rfl (Nat.le_refl _) (Nat.le_refl _) ⟨_, rfl, (by unfold r_check; rw [if_pos (by omega)]), .inl rfl, M0, by rw [hM0]; exact scx.rf _, rfl⟩
  · refine j_iload_n (n := 16) dX9_check_15 rfl rfl ?_
    refine j_bipush (n := 18) (v := nI 30) dX9_check_16 rfl (by decide) ?_
    refine j_icmp_leT (n := 21) (tg := 24) dX9_check_18 rfl rfl rfl (i_N (by omega)) (fun h102 => ?_) (fun h102 => ?_)
    · obtain ⟨m, hm_, rfl⟩ := i_of (x := n) (n := 31) (by omega) (by omega)
      have em : tN (nI m) = m := tN_nI (by omega)
      have im : (nI m).toInt = m := i_N (by omega)
      refine j_aload_n (n := 25) dX9_check_24 rfl rfl ?_
      refine jc_get (n := 28) (k := 3) (v := nI (tN (M 16 3))) dX9_check_25 rfl fX9_338 (hr).c (by decide) ((hr).hi (by decide)) ((congrFun (cm_o (ix_n (by decide))) _).trans (by rw [hM0, zs_eq]; simp only [upd]; exact (nI_tN _).symm)) ?_
      refine j_if_neN (n := 31) (tg := 34) dX9_check_28 rfl rfl (by omega) (fun h103 => ?_) (fun h103 => ?_)
      · refine j_aload_n (n := 35) dX9_check_34 rfl rfl ?_
        refine j_getr (n := 38) (k := 2) (b := 79) dX9_check_35 rfl fX9_19 (hr).c (by decide) ((hr).hi (by decide)) (hr.f (k := 2) rfl (by decide)) ?_
        refine j_aload_n (n := 39) dX9_check_38 rfl rfl ?_
        refine j_getr (n := 42) (k := 1) (b := 48) dX9_check_39 rfl fX9_16 (hr).c (by decide) ((hr).hi (by decide)) (hr.f (k := 1) rfl (by decide)) ?_
        have hwi9 := hwi (by omega)
        have hw := hwi9.1
        have hx := hwi9.2
        refine j_mem (M2 := cm (cm M0 48 f) 79 (rdT (cm M0 48 f) 79)) (cm_rd _ _).symm ?_
        refine j_cVv (n := 45) dX9_check_42 rfl sX9_223 (c_becomeAsT (d + 3) G M0 _ 79 48 hr.1.2.2 hr.1.2.1 (by decide) _ f hw.1 hw.2.1 hR) (by omega) (by decide) rfl rfl (Nat.le_of_ble_eq_true rfl) (hr.1.2.2).c (hr.1.2.2).lo ((hr.1.2.2).hi (by omega)) (by decide) (by decide) ?_
        have hxe0 := tx_cm (tx_cpX (c := rdT (cm M0 48 f) 79) (B := 79) (tx_M0 hx) (by decide) hw.2.2.1.1) 48 f (by decide)
        have hth0 := lv_as (rdT (cm M0 48 f) 79) f
        generalize asP (rdT (cm M0 48 f) 79) f = e at hxe0 hth0 ⊢
        have hwe := lvE_wf hth0 hw
        have hr := kR_cpX hr (B := 79) (F := 48) (by decide)
        have hwf0 := hw
        have h0 := hw.1.1
        have h2 := hw.day
        refine j_iload_n (n := 46) dX9_check_45 rfl rfl ?_
        refine j_sipush (n := 49) (v := nI 9999) dX9_check_46 rfl (by decide) ?_
        refine j_aload_n (n := 50) dX9_check_49 rfl rfl ?_
        refine j_getr (n := 53) (k := 1) (b := 48) dX9_check_50 rfl fX9_16 (hr).c (by decide) ((hr).hi (by decide)) (hr.f (k := 1) rfl (by decide)) ?_
        refine jc_get (n := 56) (k := 12) (v := nI (f 2)) dX9_check_53 rfl fX9_188 (hr.1.2.1).c (hr.1.2.1).lo ((hr.1.2.1).hi (by omega)) ((cm_k (ix_far (by decide) (ix_t rfl))).trans (cm_r (ix_t rfl))) ?_
        refine j_isubN (n := 57) (c := 9999 - (f 2)) dX9_check_56 rfl (by omega) (by omega) ?_
        refine j_mmin (n := 60) dX9_check_57 rfl sX9_165 (by omega) (Nat.le_of_ble_eq_true rfl) (by decide) (by decide) ?_
        refine j_top (y := nI (min m (9999 - (f 2)))) (minI_N (by omega) (by omega)) ?_
        refine j_istore_n (n := 61) (lv2 := [some (.ref 16), some (.int (nI m)), some (.int (nI (tN (M 16 11)))), some (.int (nI (min m (9999 - (f 2))))), none, none]) dX9_check_60 rfl rfl (by decide) rfl ?_
        refine j_iconst (n := 62) (v := nI 0) dX9_check_61 rfl rfl ?_
        refine j_istore (n := 64) (lv2 := [some (.ref 16), some (.int (nI m)), some (.int (nI (tN (M 16 11)))), some (.int (nI (min m (9999 - (f 2))))), some (.int (nI 0)), none]) dX9_check_62 rfl rfl (by decide) rfl ?_
        have loop : ∀ (j i : Nat) (M1 : zMem), min m (9999 - f 2) - i = j → i ≤ min m (9999 - f 2) → 2 * i ≤ tN (M 16 11) → chkF f (M 125) (tN (M 16 11)) (min m (9999 - f 2)) = fi (fun k => ¬ (M 125 k).toInt = (dueV f k).toInt) (min (tN (M 16 11)) (2 * (min m (9999 - f 2))) - 2 * i) (2 * i) → scT M0 M1 → zAt G miX9_check (zRm (d + 6) 0 0) (zQ G (zIr (fun r0 M1 X1 => r0 = r_check f (M 16 3) (M 125) (tN (M 16 11)) (nI m) ∧ (X1 = X ∨ X1 = cpX X 79 48) ∧ ∃ M2, scx (zs M 16 (upd (M 16) 11 (nI 0))) M2 ∧ M1 = cm M2 48 f)) 0 0) 64 [some (.ref 16), some (.int (nI m)), some (.int (nI (tN (M 16 11)))), some (.int (nI (min m (9999 - f 2)))), some (.int (nI i)), none] [] (cm (cm M1 48 f) 79 (daysP e i)) (cpX X 79 48) (0, 0) := by
          intro j
          induction j using Nat.strongRecOn with
          | ind j ih =>
            intro i M1 hj hk0 hi2 hF hsc
            have hwd := wf_days hwe i
            have hxd := hxe0.days (hsc.cm 48 f (by decide)) hwe i
            have hwd1 := wf_days hwe (i + 1)
            have hlv := lv_days hth0 hwf0 (i + 1)
            have hb3 := (wf_days hwf0 (i + 1)).2.2.2.2.1
            have e3 : daysP e (i + 1) 3 = daysP f (i + 1) 3 := hlv.n (by decide)
            have hf0 : daysP f (i + 1) 0 = f 0 := days_0 hwf0 (i + 1)
            have es : sumP (daysP e (i + 1)) (daysP e (i + 1) 0) = sumP (daysP f (i + 1)) (daysP f (i + 1) 0) := by rw [hlv.n (show 0 < 10 by decide)]; exact sumP_lv hlv (by rw [hf0]; exact h0) _ (Nat.le_refl _)
            have hsl := sumP_le (wf_days hwf0 (i + 1)).1 _ (Nat.le_refl _)
            have d0 : (dueV f (2 * i)).toInt = (daysP f (i + 1) 3 : Int) := by unfold dueV; rw [if_pos (by omega), show 2 * i / 2 + 1 = i + 1 by omega]; exact i_N (by omega)
            have d1 : (dueV f (2 * i + 1)).toInt = (sumP (daysP f (i + 1)) (daysP f (i + 1) 0) : Int) := by unfold dueV; rw [if_neg (by omega), show (2 * i + 1) / 2 + 1 = i + 1 by omega]; exact i_N (by omega)
            have h125 : M0 125 = M 125 := by rw [hM0]; exact zs_ne _ _ (by decide)
            refine j_iload (n := 66) dX9_check_64 rfl rfl ?_
            refine j_iload_n (n := 67) dX9_check_66 rfl rfl ?_
            refine j_icmp_geT (n := 70) (tg := 149) dX9_check_67 rfl rfl (i_N (by omega)) (i_N (by omega)) (fun h104 => ?_) (fun h104 => ?_)
            · refine j_iload_n (n := 150) dX9_check_149 rfl rfl ?_
              refine j_iconst (n := 151) (v := nI 2) dX9_check_150 rfl rfl ?_
              refine j_iload_n (n := 152) dX9_check_151 rfl rfl ?_
              refine j_imulN (n := 153) (c := 2 * (min m (9999 - f 2))) dX9_check_152 rfl rfl ?_
              refine j_icmp_leT (n := 156) (tg := 164) dX9_check_153 rfl rfl (i_N (by omega)) (i_N (by omega)) (fun h105 => ?_) (fun h105 => ?_)
              · refine j_iconst (n := 165) (v := nI 0) dX9_check_164 rfl rfl ?_
                exact j_iret dX9_check_165 rfl rfl (Nat.le_refl _) (Nat.le_refl _) ⟨_, rfl, (by have ei : i = min m (9999 - f 2) := (by omega); have eC : chkF f (M 125) (tN (M 16 11)) (min m (9999 - f 2)) = 2 * i := hF.trans (fi_n (by omega)); unfold r_check; rw [if_neg (by omega), if_neg (show ¬ (M 16 3).toInt = 0 by rw [← nI_tN (M 16 3), i_N (by omega)]; omega), em]; rw [eC]; first | (rw [if_pos (by omega)]; done) | (rw [if_neg (by omega)]; exact congrArg nI (by omega))), .inr rfl, by rw [← hM0]; exact th_end2 (hsc)⟩
              · refine j_iconst (n := 157) (v := nI 1) dX9_check_156 rfl rfl ?_
                refine j_iconst (n := 158) (v := nI 2) dX9_check_157 rfl rfl ?_
                refine j_iload_n (n := 159) dX9_check_158 rfl rfl ?_
                refine j_imulN (n := 160) (c := 2 * (min m (9999 - f 2))) dX9_check_159 rfl rfl ?_
                refine j_iaddN (n := 161) (c := 1 + (2 * (min m (9999 - f 2)))) dX9_check_160 rfl (by omega) ?_
                refine j_goto (n := 165) dX9_check_161 rfl ?_
                exact j_iret dX9_check_165 rfl rfl (Nat.le_refl _) (Nat.le_refl _) ⟨_, rfl, (by have ei : i = min m (9999 - f 2) := (by omega); have eC : chkF f (M 125) (tN (M 16 11)) (min m (9999 - f 2)) = 2 * i := hF.trans (fi_n (by omega)); unfold r_check; rw [if_neg (by omega), if_neg (show ¬ (M 16 3).toInt = 0 by rw [← nI_tN (M 16 3), i_N (by omega)]; omega), em]; rw [eC]; first | (rw [if_pos (by omega)]; done) | (rw [if_neg (by omega)]; exact congrArg nI (by omega))), .inr rfl, by rw [← hM0]; exact th_end2 (hsc)⟩
            · refine j_aload_n (n := 71) dX9_check_70 rfl rfl ?_
              refine j_getr (n := 74) (k := 2) (b := 79) dX9_check_71 rfl fX9_19 (hr).c (by decide) ((hr).hi (by decide)) (hr.f (k := 2) rfl (by decide)) ?_
              refine j_cVvr (n := 77) dX9_check_74 rfl sX9_191 (c_liveDay d G _ _ 79 hr.1.2.2 _ hxd _ _ hwd (by omega) (by omega)) (by omega) (by decide) rfl rfl (Nat.le_of_ble_eq_true rfl) (hr.1.2.2).c (hr.1.2.2).lo ((hr.1.2.2).hi (by omega)) (by decide) (by decide) (fun N106 Y106 hh106 => ?_)
              obtain ⟨e2106, M0106, hs0106, e3106⟩ := hh106
              obtain ⟨M_106, hs106, e4106⟩ := scT_un (by decide) hs0106
              rw [e2106, e3106, e4106]
              refine j_iconst (n := 78) (v := nI 2) dX9_check_77 rfl rfl ?_
              refine j_iload (n := 80) dX9_check_78 rfl rfl ?_
              refine j_imulN (n := 81) (c := 2 * i) dX9_check_80 rfl rfl ?_
              refine j_istore (n := 83) (lv2 := [some (.ref 16), some (.int (nI m)), some (.int (nI (tN (M 16 11)))), some (.int (nI (min m (9999 - f 2)))), some (.int (nI i)), some (.int (nI (2 * i)))]) dX9_check_81 rfl rfl (by decide) rfl ?_
              refine j_iload (n := 85) dX9_check_83 rfl rfl ?_
              refine j_iload_n (n := 86) dX9_check_85 rfl rfl ?_
              refine j_icmp_geT (n := 89) (tg := 106) dX9_check_86 rfl rfl (i_N (by omega)) (i_N (by omega)) (fun h107 => ?_) (fun h107 => ?_)
              · refine j_iconst (n := 107) (v := nI 1) dX9_check_106 rfl rfl ?_
                refine j_iload (n := 109) dX9_check_107 rfl rfl ?_
                refine j_iaddN (n := 110) (c := 1 + 2 * i) dX9_check_109 rfl rfl ?_
                exact j_iret dX9_check_110 rfl rfl (Nat.le_refl _) (Nat.le_refl _) ⟨_, rfl, (by have eC : chkF f (M 125) (tN (M 16 11)) (min m (9999 - f 2)) = 2 * i := hF.trans (by first | exact fi_n (by omega) | exact fi_t (by omega) (by omega)); unfold r_check; rw [if_neg (by omega), if_neg (show ¬ (M 16 3).toInt = 0 by rw [← nI_tN (M 16 3), i_N (by omega)]; omega), em]; rw [eC, if_neg (by omega)]), .inr rfl, by rw [← hM0]; exact th_end2 ((hsc).tr hs106)⟩
              · refine j_aload_n (n := 90) dX9_check_89 rfl rfl ?_
                refine j_getr (n := 93) (k := 10) (b := 125) dX9_check_90 rfl fX9_52 (hr).c (by decide) ((hr).hi (by decide)) (hr.f (k := 10) rfl (by decide)) ?_
                refine j_iload (n := 95) dX9_check_93 rfl rfl ?_
                refine j_ialdN (n := 96) (L := 60) (a := 125) (i := 2 * i) (v := M 125 (2 * i)) dX9_check_95 rfl (hr.a (a := 125) rfl (by decide) rfl).1 (hr.a (a := 125) rfl (by decide) rfl).2 (by omega) (by decide) (by decide) (hr.hi (by decide)) ((congrFun (cm_o (ix_n (by decide))) _).trans ((congrFun (cm_o (ix_n (by decide))) _).trans ((congrFun (((hsc).tr hs106) 125 (fun z => by unfold stk at z; omega)) _).trans (congrFun h125 _)))) ?_
                refine j_aload_n (n := 97) dX9_check_96 rfl rfl ?_
                refine j_getr (n := 100) (k := 2) (b := 79) dX9_check_97 rfl fX9_19 (hr).c (by decide) ((hr).hi (by decide)) (hr.f (k := 2) rfl (by decide)) ?_
                refine jc_get (n := 103) (k := 9) (v := nI (daysP f (i + 1) 3)) dX9_check_100 rfl fX9_185 (hr.1.2.2).c (hr.1.2.2).lo ((hr.1.2.2).hi (by omega)) ((cm_r (ix_t rfl)).trans (congrArg nI e3)) ?_
                refine j_icmp_eqT (n := 106) (tg := 111) dX9_check_103 rfl rfl rfl (i_N (by omega)) (fun h108 => ?_) (fun h108 => ?_)
                · refine j_iload (n := 113) dX9_check_111 rfl rfl ?_
                  refine j_iconst (n := 114) (v := nI 1) dX9_check_113 rfl rfl ?_
                  refine j_iaddN (n := 115) (c := 2 * i + 1) dX9_check_114 rfl rfl ?_
                  refine j_iload_n (n := 116) dX9_check_115 rfl rfl ?_
                  refine j_icmp_geT (n := 119) (tg := 138) dX9_check_116 rfl rfl (i_N (by omega)) (i_N (by omega)) (fun h109 => ?_) (fun h109 => ?_)
                  · refine j_iconst (n := 139) (v := nI 2) dX9_check_138 rfl rfl ?_
                    refine j_iload (n := 141) dX9_check_139 rfl rfl ?_
                    refine j_iaddN (n := 142) (c := 2 + 2 * i) dX9_check_141 rfl rfl ?_
                    exact j_iret dX9_check_142 rfl rfl (Nat.le_refl _) (Nat.le_refl _) ⟨_, rfl, (by have eC : chkF f (M 125) (tN (M 16 11)) (min m (9999 - f 2)) = 2 * i + 1 := hF.trans ((fi_s (n := min (tN (M 16 11)) (2 * (min m (9999 - f 2)))) (k := 2 * i) (by omega) (by omega)).trans (by first | exact fi_n (by omega) | exact fi_t (by omega) (by omega))); unfold r_check; rw [if_neg (by omega), if_neg (show ¬ (M 16 3).toInt = 0 by rw [← nI_tN (M 16 3), i_N (by omega)]; omega), em]; rw [eC, if_neg (by omega)]; exact congrArg nI (by omega)), .inr rfl, by rw [← hM0]; exact th_end2 ((hsc).tr hs106)⟩
                  · refine j_aload_n (n := 120) dX9_check_119 rfl rfl ?_
                    refine j_getr (n := 123) (k := 10) (b := 125) dX9_check_120 rfl fX9_52 (hr).c (by decide) ((hr).hi (by decide)) (hr.f (k := 10) rfl (by decide)) ?_
                    refine j_iload (n := 125) dX9_check_123 rfl rfl ?_
                    refine j_iconst (n := 126) (v := nI 1) dX9_check_125 rfl rfl ?_
                    refine j_iaddN (n := 127) (c := 2 * i + 1) dX9_check_126 rfl rfl ?_
                    refine j_ialdN (n := 128) (L := 60) (a := 125) (i := 2 * i + 1) (v := M 125 (2 * i + 1)) dX9_check_127 rfl (hr.a (a := 125) rfl (by decide) rfl).1 (hr.a (a := 125) rfl (by decide) rfl).2 (by omega) (by decide) (by decide) (hr.hi (by decide)) ((congrFun (cm_o (ix_n (by decide))) _).trans ((congrFun (cm_o (ix_n (by decide))) _).trans ((congrFun (((hsc).tr hs106) 125 (fun z => by unfold stk at z; omega)) _).trans (congrFun h125 _)))) ?_
                    refine j_aload_n (n := 129) dX9_check_128 rfl rfl ?_
                    refine j_getr (n := 132) (k := 2) (b := 79) dX9_check_129 rfl fX9_19 (hr).c (by decide) ((hr).hi (by decide)) (hr.f (k := 2) rfl (by decide)) ?_
                    refine j_cV (n := 135) dX9_check_132 rfl sX9_200 (c_allRegretsT (d + 4) G _ _ _ hr.1.2.2 _ hwd1.1) (by omega) (by decide) rfl rfl (Nat.le_of_ble_eq_true rfl) (hr.1.2.2).c (hr.1.2.2).lo ((hr.1.2.2).hi (by omega)) (by decide) (by decide) ?_
                    refine j_top (y := nI (sumP (daysP f (i + 1)) (daysP f (i + 1) 0))) (congrArg nI es) ?_
                    refine j_icmp_eqT (n := 138) (tg := 143) dX9_check_135 rfl rfl rfl (i_N (by omega)) (fun h110 => ?_) (fun h110 => ?_)
                    · refine j_iinc (n := 146) (y := nI (i + 1)) (lv2 := [some (.ref 16), some (.int (nI m)), some (.int (nI (tN (M 16 11)))), some (.int (nI (min m (9999 - f 2)))), some (.int (nI (i + 1))), some (.int (nI (2 * i)))]) dX9_check_143 rfl rfl (by decide) rfl (show nI i + nI 1 = nI (i + 1) by rw [nI_add]) rfl ?_
                      refine j_goto (n := 64) dX9_check_146 rfl ?_
                      refine j_wk (lv2 := [some (.ref 16), some (.int (nI m)), some (.int (nI (tN (M 16 11)))), some (.int (nI (min m (9999 - f 2)))), some (.int (nI (i + 1))), none]) ⟨rfl, rfl, rfl, rfl, rfl, trivial⟩ ?_
                      exact ih _ (by omega) (i + 1) _ rfl (by omega) (by omega) (hF.trans ((fi_s (n := min (tN (M 16 11)) (2 * (min m (9999 - f 2)))) (k := 2 * i) (by omega) (by omega)).trans (fi_s (n := min (tN (M 16 11)) (2 * (min m (9999 - f 2)))) (k := 2 * i + 1) (by omega) (by omega)))) ((hsc).tr hs106)
                    · refine j_iconst (n := 139) (v := nI 2) dX9_check_138 rfl rfl ?_
                      refine j_iload (n := 141) dX9_check_139 rfl rfl ?_
                      refine j_iaddN (n := 142) (c := 2 + 2 * i) dX9_check_141 rfl rfl ?_
                      exact j_iret dX9_check_142 rfl rfl (Nat.le_refl _) (Nat.le_refl _) ⟨_, rfl, (by have eC : chkF f (M 125) (tN (M 16 11)) (min m (9999 - f 2)) = 2 * i + 1 := hF.trans ((fi_s (n := min (tN (M 16 11)) (2 * (min m (9999 - f 2)))) (k := 2 * i) (by omega) (by omega)).trans (by first | exact fi_n (by omega) | exact fi_t (by omega) (by omega))); unfold r_check; rw [if_neg (by omega), if_neg (show ¬ (M 16 3).toInt = 0 by rw [← nI_tN (M 16 3), i_N (by omega)]; omega), em]; rw [eC, if_neg (by omega)]; exact congrArg nI (by omega)), .inr rfl, by rw [← hM0]; exact th_end2 ((hsc).tr hs106)⟩
                · refine j_iconst (n := 107) (v := nI 1) dX9_check_106 rfl rfl ?_
                  refine j_iload (n := 109) dX9_check_107 rfl rfl ?_
                  refine j_iaddN (n := 110) (c := 1 + 2 * i) dX9_check_109 rfl rfl ?_
                  exact j_iret dX9_check_110 rfl rfl (Nat.le_refl _) (Nat.le_refl _) ⟨_, rfl, (by have eC : chkF f (M 125) (tN (M 16 11)) (min m (9999 - f 2)) = 2 * i := hF.trans (by first | exact fi_n (by omega) | exact fi_t (by omega) (by omega)); unfold r_check; rw [if_neg (by omega), if_neg (show ¬ (M 16 3).toInt = 0 by rw [← nI_tN (M 16 3), i_N (by omega)]; omega), em]; rw [eC, if_neg (by omega)]), .inr rfl, by rw [← hM0]; exact th_end2 ((hsc).tr hs106)⟩
        exact loop _ 0 M0 rfl (Nat.zero_le _) (Nat.zero_le _) rfl (scT.rf M0)
      · refine j_ldc (n := 33) (v := -1000000002) dX9_check_31 rfl kX9_158 ?_
        exact j_iret dX9_check_33 rfl rfl (Nat.le_refl _) (Nat.le_refl _) ⟨_, rfl, (by unfold r_check; rw [if_neg (by omega), if_pos (show (M 16 3).toInt = 0 by rw [← nI_tN (M 16 3), i_N (by omega)]; omega)]), .inl rfl, M0, by rw [hM0]; exact scx.rf _, rfl⟩
    · refine j_ldc (n := 23) (v := -1000000001) dX9_check_21 rfl kX9_71 ?_
      exact j_iret dX9_check_23 rfl rfl (Nat.le_refl _) (Nat.le_refl _) ⟨_, rfl, (by unfold r_check; rw [if_pos (by omega)]), .inl rfl, M0, by rw [hM0]; exact scx.rf _, rfl⟩
