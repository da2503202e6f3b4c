-- CLASS N: by program (wip/whole/gen/c14.py)
theorem dig3 {a b g : Nat} (ha : a ≤ 8) (hb : b ≤ 8) (hg : g ≤ 8) : (81 * a + 9 * b + g) / 81 = a ∧ (81 * a + 9 * b + g) / 9 = 9 * a + b ∧ (81 * a + 9 * b + g) % 9 = g := ⟨by omega, by omega, by omega⟩
theorem dig_lat {a b g : Nat} (ha : a ≤ 8) (hb : b ≤ 8) (hg : g ≤ 8) : lat (81 * a + 9 * b + g) = a + b + g := by
  obtain ⟨h1, h2, h3⟩ := dig3 ha hb hg
  unfold lat
  rw [h1, h2, h3]
  omega
theorem dig_of (i : Nat) : i = 81 * (i / 81) + 9 * (i / 9 % 9) + i % 9 ∧ lat i = i / 81 + i / 9 % 9 + i % 9 := by
  have h := Nat.div_div_eq_div_mul i 9 9
  exact ⟨by omega, rfl⟩
theorem k_find (d : Nat) (G : zG) (M : zMem) (X : zX) (hr : kR X) (c : Nat → Nat) (hG : gOK G) (hx : tx M X 17 c) (hw : wfO c) (hwl : wfL c) (hwt : wfT c) (hd2 : c 2 < 2147483648) (e : Nat → Nat) (k pd : Nat) (hk : k < c 0) (hpd : pd ≤ 1) (hse : seeE c e k pd) : zCall G miX8_find (d + 4) [.ref 110, .ref 17, .ref (17 + 5 + 2 * k), .int (nI pd)] (zVr (fun M1 X1 => X1 = X ∧ ∃ M2 B W, (scx M M2 ∧ wInv e k (fun i => i < 729 ∧ lat i ≤ 8) B W ∧ (∀ r, W r ≤ 9) ∧ ∀ r, r < 8 → M2 111 r = fwV (W r)) ∧ M1 = cm M2 17 c)) (cm M 17 c) X 0 0 := by
  refine zCall.of (lv := [some (.ref 110), some (.ref 17), some (.ref (17 + 5 + 2 * k)), some (.int (nI pd)), none, none, none]) (by decide) (Nat.le_of_ble_eq_true rfl) rfl ?_
  have hw0 := hw.1
  have ho := hw.2 k hk
  have h8e : e 8 = c 8 := hse.2.2.2.1 8 (by omega)
  have hll : wfL e := ⟨by rw [h8e]; exact hwl.1, fun q hq => by rw [h8e] at hq; rw [hse.2.2.2.1 _ (by omega), hse.2.2.2.1 _ (by omega), hse.2.2.2.1 _ (by omega), hse.2.2.2.1 _ (by omega), hse.2.2.2.1 _ (by omega)]; exact hwl.2 q hq⟩
  have hr9 : ∀ s, s ≤ 2 → e (10 + 5 * k + (2 + s)) ≤ 99 := fun s hs => by have := hse.1 s hs; have := hw.reg hk hs; split at * <;> omega
  have hfl : ∀ s n, s < 3 → n < 9 → feelsN (e (10 + 5 * k + 0)) (wtP e k (9 * s + n)) ≤ 216 := fun s n hs hn => feelsN_le (by unfold wtP; rw [show (9 * s + n) / 9 = s by omega]; exact wnP_le e (hr9 s (by omega)) _)
  have lb : ∀ (many a : Nat), many ≤ 8 → a ≤ many → (∀ M1 B W, scx M M1 → (∀ K, B K < 256) → (∀ r, W r ≤ 9) → wyM M1 B W → feM M1 c e k → wInv e k (fun i => i < 729 ∧ (lat i < many ∨ (lat i = many ∧ (i / 81 < (a + 1) ∨ (i / 81 = (a + 1) ∧ i / 9 % 9 < 0))))) B W → zAt G miX8_find (zRm (d + 4) 0 0) (zQ G (zVr (fun M1 X1 => X1 = X ∧ ∃ M2 B W, (scx M M2 ∧ wInv e k (fun i => i < 729 ∧ lat i ≤ 8) B W ∧ (∀ r, W r ≤ 9) ∧ ∀ r, r < 8 → M2 111 r = fwV (W r)) ∧ M1 = cm M2 17 c)) 0 0) 112 [some (.ref 110), some (.ref 17), some (.ref (17 + 5 + 2 * k)), some (.int (nI pd)), some (.int (nI many)), some (.int (nI a)), none] [] (cm M1 17 c) X (0, 0)) → ∀ (j b : Nat) (M1 : zMem) (B W : Nat → Nat), many - a + 1 - b = j → b ≤ many - a + 1 → scx M M1 → (∀ K, B K < 256) → (∀ r, W r ≤ 9) → wyM M1 B W → feM M1 c e k → wInv e k (fun i => i < 729 ∧ (lat i < many ∨ (lat i = many ∧ (i / 81 < a ∨ (i / 81 = a ∧ i / 9 % 9 < b))))) B W → zAt G miX8_find (zRm (d + 4) 0 0) (zQ G (zVr (fun M1 X1 => X1 = X ∧ ∃ M2 B W, (scx M M2 ∧ wInv e k (fun i => i < 729 ∧ lat i ≤ 8) B W ∧ (∀ r, W r ≤ 9) ∧ ∀ r, r < 8 → M2 111 r = fwV (W r)) ∧ M1 = cm M2 17 c)) 0 0) 59 [some (.ref 110), some (.ref 17), some (.ref (17 + 5 + 2 * k)), some (.int (nI pd)), some (.int (nI many)), some (.int (nI a)), some (.int (nI b))] [] (cm M1 17 c) X (0, 0) := by
    intro many a hmy ha cont j
    induction j using Nat.strongRecOn with
    | ind j ih =>
      intro b M1 B W hj hb0 hsc hB hW hwy hfe hin
      refine j_iload (n := 61) dX8_find_59 rfl rfl ?_
      refine j_iload (n := 63) dX8_find_61 rfl rfl ?_
      refine j_iload (n := 65) dX8_find_63 rfl rfl ?_
      refine j_isubN (n := 66) (c := many - a) dX8_find_65 rfl (by omega) (by omega) ?_
      refine j_icmp_gtT (n := 69) (tg := 112) dX8_find_66 rfl rfl (i_N (by omega)) (i_N (by omega)) (fun h101 => ?_) (fun h101 => ?_)
      · refine j_wk (lv2 := [some (.ref 110), some (.ref 17), some (.ref (17 + 5 + 2 * k)), some (.int (nI pd)), some (.int (nI many)), some (.int (nI a)), none]) ⟨rfl, rfl, rfl, rfl, rfl, rfl, trivial⟩ ?_
        exact cont M1 B W hsc hB hW hwy hfe (wInv_eq hin (fun i => by have hdo := dig_of i; omega))
      · refine j_aload_n (n := 70) dX8_find_69 rfl rfl ?_
        refine j_getr (n := 73) (k := 3) (b := 117) dX8_find_70 rfl fX8_23 (hr.a (a := 110) rfl (by decide) rfl).1 (by decide) (hr.hi (by decide)) (hr.w (k := 3) rfl (by decide)) ?_
        refine j_iconst (n := 74) (v := nI 0) dX8_find_73 rfl rfl ?_
        refine j_iload (n := 76) dX8_find_74 rfl rfl ?_
        refine j_iastN (n := 77) (L := 3) (a := 117) (i := 0) (x := nI a) (M2 := cm (zs M1 117 (upd (M1 117) 0 (nI a))) 17 c) dX8_find_76 rfl (hr.a (a := 117) rfl (by decide) rfl).1 (hr.a (a := 117) rfl (by decide) rfl).2 (by omega) (by decide) (by decide) (hr.hi (by decide)) ((cm_wo2 (ix_n (by decide)) (fun f => upd f 0 _)).trans (congrArg (fun z => cm z 17 c) (by first | rfl | rw [zs_eq, zs_zs]))) ?_
        refine j_aload_n (n := 78) dX8_find_77 rfl rfl ?_
        refine j_getr (n := 81) (k := 3) (b := 117) dX8_find_78 rfl fX8_23 (hr.a (a := 110) rfl (by decide) rfl).1 (by decide) (hr.hi (by decide)) (hr.w (k := 3) rfl (by decide)) ?_
        refine j_iconst (n := 82) (v := nI 1) dX8_find_81 rfl rfl ?_
        refine j_iload (n := 84) dX8_find_82 rfl rfl ?_
        refine j_iastN (n := 85) (L := 3) (a := 117) (i := 1) (x := nI b) (M2 := cm (zs M1 117 (upd (upd (M1 117) 0 (nI a)) 1 (nI b))) 17 c) dX8_find_84 rfl (hr.a (a := 117) rfl (by decide) rfl).1 (hr.a (a := 117) rfl (by decide) rfl).2 (by omega) (by decide) (by decide) (hr.hi (by decide)) ((cm_wo2 (ix_n (by decide)) (fun f => upd f 1 _)).trans (congrArg (fun z => cm z 17 c) (by first | rfl | rw [zs_eq, zs_zs]))) ?_
        refine j_aload_n (n := 86) dX8_find_85 rfl rfl ?_
        refine j_getr (n := 89) (k := 3) (b := 117) dX8_find_86 rfl fX8_23 (hr.a (a := 110) rfl (by decide) rfl).1 (by decide) (hr.hi (by decide)) (hr.w (k := 3) rfl (by decide)) ?_
        refine j_iconst (n := 90) (v := nI 2) dX8_find_89 rfl rfl ?_
        refine j_iload (n := 92) dX8_find_90 rfl rfl ?_
        refine j_iload (n := 94) dX8_find_92 rfl rfl ?_
        refine j_isubN (n := 95) (c := many - a) dX8_find_94 rfl (by omega) (by omega) ?_
        refine j_iload (n := 97) dX8_find_95 rfl rfl ?_
        refine j_isubN (n := 98) (c := many - a - b) dX8_find_97 rfl (by omega) (by omega) ?_
        refine j_iastN (n := 99) (L := 3) (a := 117) (i := 2) (x := nI (many - a - b)) (M2 := cm (zs M1 117 (upd (upd (upd (M1 117) 0 (nI a)) 1 (nI b)) 2 (nI (many - a - b)))) 17 c) dX8_find_98 rfl (hr.a (a := 117) rfl (by decide) rfl).1 (hr.a (a := 117) rfl (by decide) rfl).2 (by omega) (by decide) (by decide) (hr.hi (by decide)) ((cm_wo2 (ix_n (by decide)) (fun f => upd f 2 _)).trans (congrArg (fun z => cm z 17 c) (by first | rfl | rw [zs_eq, zs_zs]))) ?_
        refine j_aload_n (n := 100) dX8_find_99 rfl rfl ?_
        refine j_aload_n (n := 101) dX8_find_100 rfl rfl ?_
        refine j_iload (n := 103) dX8_find_101 rfl rfl ?_
        refine j_cVvr (n := 106) dX8_find_103 rfl sX8_43 (k_goOnFrom (d + 3) G _ _ hr _ hG hwl e k pd hse B W hB hW (81 * a + 9 * b + (many - a - b)) many (by omega) ((dig_lat (by omega) (by omega) (by omega)).trans (by omega)) hmy ⟨fun K hK => by rw [zs_ne _ _ (by decide)]; exact hwy.1 K hK, fun r hr => by rw [zs_ne _ _ (by decide)]; exact hwy.2 r hr⟩ (fun s n hs hn => by rw [zs_ne _ _ (by omega)]; exact hfe s n hs hn) hfl (fun s hs => by rw [zs_eq]; have h3 : s = 0 ∨ s = 1 ∨ s = 2 := (by omega); rcases h3 with rfl | rfl | rfl; (simp only [upd]; exact congrArg nI (show a = (81 * a + 9 * b + (many - a - b)) / 81 % 9 by rw [(dig3 (by omega) (by omega) (by omega)).1]; omega)); (simp only [upd]; exact congrArg nI (show b = (81 * a + 9 * b + (many - a - b)) / 9 % 9 by rw [(dig3 (by omega) (by omega) (by omega)).2.1]; omega)); (simp only [upd]; exact congrArg nI (show many - a - b = (81 * a + 9 * b + (many - a - b)) / 1 % 9 by rw [Nat.div_one, (dig3 (by omega) (by omega) (by omega)).2.2])))) (by omega) (by decide) rfl rfl (Nat.le_of_ble_eq_true rfl) (hr.a (a := 110) rfl (by decide) rfl).1 (by decide) (hr.hi (by decide)) (by decide) (by decide) (fun N102 Y102 hh102 => ?_)
        obtain ⟨e2102, M2, ⟨hsg, hwy2⟩, e3102⟩ := hh102
        rw [e2102, e3102]
        refine j_iinc (n := 109) (y := nI (b + 1)) (lv2 := [some (.ref 110), some (.ref 17), some (.ref (17 + 5 + 2 * k)), some (.int (nI pd)), some (.int (nI many)), some (.int (nI a)), some (.int (nI (b + 1)))]) dX8_find_106 rfl rfl (by decide) rfl (show nI b + nI 1 = nI (b + 1) by rw [nI_add]) rfl ?_
        refine j_goto (n := 59) dX8_find_109 rfl ?_
        have hlk : lat (81 * a + 9 * b + (many - a - b)) = many := (dig_lat (by omega) (by omega) (by omega)).trans (by omega)
        have hd3 := dig3 (a := a) (b := b) (g := many - a - b) (by omega) (by omega) (by omega)
        have hst := wInv_step hll hin (K := 81 * a + 9 * b + (many - a - b)) (by omega) (by omega) (fun i h1 h2 => ⟨h1, .inl (by omega)⟩) (fun i h1 => by have := h1.2; omega) (fun z => by have := z.2; omega)
        exact ih _ (by omega) (b + 1) M2 _ _ rfl (by omega) ((hsc.tr (scx.s _ _ (by unfold scz; omega))).tr hsg.x) (wB_lt hll hB _) (wW_le hW (by omega)) hwy2 (fun s n hs hn => (congrFun (hsg _ (by omega) (by omega)) _).trans (by rw [zs_ne _ _ (by omega)]; exact hfe s n hs hn)) (wInv_eq hst (fun i => by have hdo := dig_of i; constructor; (rintro (⟨h1, h2⟩ | h1); (exact ⟨h1, by omega⟩); (rw [h1, hlk, hd3.1, hd3.2.1]; exact ⟨by omega, .inr ⟨rfl, .inr ⟨rfl, by omega⟩⟩⟩)); (rintro ⟨h1, h2⟩; by_cases h3 : i / 81 = a ∧ i / 9 % 9 = b ∧ lat i = many; (exact .inr (by omega)); (exact .inl ⟨h1, by omega⟩))))
  have la : ∀ (many : Nat), many ≤ 8 → (∀ M1 B W, scx M M1 → (∀ K, B K < 256) → (∀ r, W r ≤ 9) → wyM M1 B W → feM M1 c e k → wInv e k (fun i => i < 729 ∧ (lat i < (many + 1) ∨ (lat i = (many + 1) ∧ (i / 81 < 0 ∨ (i / 81 = 0 ∧ i / 9 % 9 < 0))))) B W → zAt G miX8_find (zRm (d + 4) 0 0) (zQ G (zVr (fun M1 X1 => X1 = X ∧ ∃ M2 B W, (scx M M2 ∧ wInv e k (fun i => i < 729 ∧ lat i ≤ 8) B W ∧ (∀ r, W r ≤ 9) ∧ ∀ r, r < 8 → M2 111 r = fwV (W r)) ∧ M1 = cm M2 17 c)) 0 0) 118 [some (.ref 110), some (.ref 17), some (.ref (17 + 5 + 2 * k)), some (.int (nI pd)), some (.int (nI many)), none, none] [] (cm M1 17 c) X (0, 0)) → ∀ (j a : Nat) (M1 : zMem) (B W : Nat → Nat), many + 1 - a = j → a ≤ many + 1 → scx M M1 → (∀ K, B K < 256) → (∀ r, W r ≤ 9) → wyM M1 B W → feM M1 c e k → wInv e k (fun i => i < 729 ∧ (lat i < many ∨ (lat i = many ∧ (i / 81 < a ∨ (i / 81 = a ∧ i / 9 % 9 < 0))))) B W → zAt G miX8_find (zRm (d + 4) 0 0) (zQ G (zVr (fun M1 X1 => X1 = X ∧ ∃ M2 B W, (scx M M2 ∧ wInv e k (fun i => i < 729 ∧ lat i ≤ 8) B W ∧ (∀ r, W r ≤ 9) ∧ ∀ r, r < 8 → M2 111 r = fwV (W r)) ∧ M1 = cm M2 17 c)) 0 0) 49 [some (.ref 110), some (.ref 17), some (.ref (17 + 5 + 2 * k)), some (.int (nI pd)), some (.int (nI many)), some (.int (nI a)), none] [] (cm M1 17 c) X (0, 0) := by
    intro many hmy cont j
    induction j using Nat.strongRecOn with
    | ind j ih =>
      intro a M1 B W hj ha0 hsc hB hW hwy hfe hin
      refine j_iload (n := 51) dX8_find_49 rfl rfl ?_
      refine j_iload (n := 53) dX8_find_51 rfl rfl ?_
      refine j_icmp_gtT (n := 56) (tg := 118) dX8_find_53 rfl rfl (i_N (by omega)) (i_N (by omega)) (fun h103 => ?_) (fun h103 => ?_)
      · refine j_wk (lv2 := [some (.ref 110), some (.ref 17), some (.ref (17 + 5 + 2 * k)), some (.int (nI pd)), some (.int (nI many)), none, none]) ⟨rfl, rfl, rfl, rfl, rfl, trivial⟩ ?_
        exact cont M1 B W hsc hB hW hwy hfe (wInv_eq hin (fun i => by have hdo := dig_of i; omega))
      · refine j_iconst (n := 57) (v := nI 0) dX8_find_56 rfl rfl ?_
        refine j_istore (n := 59) (lv2 := [some (.ref 110), some (.ref 17), some (.ref (17 + 5 + 2 * k)), some (.int (nI pd)), some (.int (nI many)), some (.int (nI a)), some (.int (nI 0))]) dX8_find_57 rfl rfl (by decide) rfl ?_
        refine lb many a hmy (by omega) (fun M1 B W hsc hB hW hwy hfe hin => ?_) _ 0 M1 B W rfl (Nat.zero_le _) hsc hB hW hwy hfe hin
        refine j_iinc (n := 115) (y := nI (a + 1)) (lv2 := [some (.ref 110), some (.ref 17), some (.ref (17 + 5 + 2 * k)), some (.int (nI pd)), some (.int (nI many)), some (.int (nI (a + 1))), none]) dX8_find_112 rfl rfl (by decide) rfl (show nI a + nI 1 = nI (a + 1) by rw [nI_add]) rfl ?_
        refine j_goto (n := 49) dX8_find_115 rfl ?_
        exact ih _ (by omega) (a + 1) M1 B W rfl (by omega) hsc hB hW hwy hfe hin
  have lm : ∀ (j many : Nat) (M1 : zMem) (B W : Nat → Nat), 9 - many = j → many ≤ 9 → scx M M1 → (∀ K, B K < 256) → (∀ r, W r ≤ 9) → wyM M1 B W → feM M1 c e k → wInv e k (fun i => i < 729 ∧ (lat i < many ∨ (lat i = many ∧ (i / 81 < 0 ∨ (i / 81 = 0 ∧ i / 9 % 9 < 0))))) B W → zAt G miX8_find (zRm (d + 4) 0 0) (zQ G (zVr (fun M1 X1 => X1 = X ∧ ∃ M2 B W, (scx M M2 ∧ wInv e k (fun i => i < 729 ∧ lat i ≤ 8) B W ∧ (∀ r, W r ≤ 9) ∧ ∀ r, r < 8 → M2 111 r = fwV (W r)) ∧ M1 = cm M2 17 c)) 0 0) 39 [some (.ref 110), some (.ref 17), some (.ref (17 + 5 + 2 * k)), some (.int (nI pd)), some (.int (nI many)), none, none] [] (cm M1 17 c) X (0, 0) := by
    intro j
    induction j using Nat.strongRecOn with
    | ind j ih =>
      intro many M1 B W hj hm0 hsc hB hW hwy hfe hin
      refine j_iload (n := 41) dX8_find_39 rfl rfl ?_
      refine j_bipush (n := 43) (v := nI 8) dX8_find_41 rfl (by decide) ?_
      refine j_icmp_gtT (n := 46) (tg := 124) dX8_find_43 rfl rfl (i_N (by omega)) (i_N (by omega)) (fun h104 => ?_) (fun h104 => ?_)
      · exact j_vret dX8_find_124 rfl (Nat.le_refl _) (Nat.le_refl _) ⟨rfl, rfl, M1, B, W, ⟨hsc, wInv_eq hin (fun i => by have em : many = 9 := (by omega); subst em; omega), hW, hwy.2⟩, rfl⟩
      · refine j_iconst (n := 47) (v := nI 0) dX8_find_46 rfl rfl ?_
        refine j_istore (n := 49) (lv2 := [some (.ref 110), some (.ref 17), some (.ref (17 + 5 + 2 * k)), some (.int (nI pd)), some (.int (nI many)), some (.int (nI 0)), none]) dX8_find_47 rfl rfl (by decide) rfl ?_
        refine j_wk (lv2 := [some (.ref 110), some (.ref 17), some (.ref (17 + 5 + 2 * k)), some (.int (nI pd)), some (.int (nI many)), some (.int (nI 0)), none]) ⟨rfl, rfl, rfl, rfl, rfl, rfl, trivial⟩ ?_
        refine la many (by omega) (fun M1 B W hsc hB hW hwy hfe hin => ?_) _ 0 M1 B W rfl (Nat.zero_le _) hsc hB hW hwy hfe hin
        refine j_iinc (n := 121) (y := nI (many + 1)) (lv2 := [some (.ref 110), some (.ref 17), some (.ref (17 + 5 + 2 * k)), some (.int (nI pd)), some (.int (nI (many + 1))), none, none]) dX8_find_118 rfl rfl (by decide) rfl (show nI many + nI 1 = nI (many + 1) by rw [nI_add]) rfl ?_
        refine j_goto (n := 39) dX8_find_121 rfl ?_
        exact ih _ (by omega) (many + 1) M1 B W rfl (by omega) hsc hB hW hwy hfe hin
  obtain ⟨M0, hM0⟩ : ∃ M0, M0 = zs (zs M 111 (flF (M 111) 8 cNONE)) 112 (flF (M 112) 729 (nI 0)) := ⟨_, rfl⟩
  have hs0 : scx M M0 := by rw [hM0]; exact (scx.s _ _ (by unfold scz; omega)).tr (scx.s _ _ (by unfold scz; omega))
  refine j_aload_n (n := 1) dX8_find_0 rfl rfl ?_
  refine j_getr (n := 4) (k := 0) (b := 111) dX8_find_1 rfl fX8_9 (hr.a (a := 110) rfl (by decide) rfl).1 (by decide) (hr.hi (by decide)) (hr.w (k := 0) rfl (by decide)) ?_
  refine j_ldc (n := 6) (v := -1000000005) dX8_find_4 rfl kX8_26 ?_
  refine j_cSv (n := 9) dX8_find_6 rfl sX8_27 (c_fill (d + 3) G _ _ 111 8 (hr.a (a := 111) rfl (by decide) rfl).1 (hr.a (a := 111) rfl (by decide) rfl).2 (by decide) (by decide) (hr.hi (by decide)) (-1000000005)) (by omega) (by decide) rfl rfl (Nat.le_of_ble_eq_true rfl) (by decide) (by decide) ?_
  refine j_mem (M2 := cm (zs M 111 (flF (M 111) 8 cNONE)) 17 c) (cm_wo2 (ix_n (by decide)) (fun f => flF f 8 cNONE)) ?_
  refine j_aload_n (n := 10) dX8_find_9 rfl rfl ?_
  refine j_getr (n := 13) (k := 1) (b := 112) dX8_find_10 rfl fX8_15 (hr.a (a := 110) rfl (by decide) rfl).1 (by decide) (hr.hi (by decide)) (hr.w (k := 1) rfl (by decide)) ?_
  refine j_iconst (n := 14) (v := nI 0) dX8_find_13 rfl rfl ?_
  refine j_cSv (n := 17) dX8_find_14 rfl sX8_27 (c_fill (d + 3) G _ _ 112 729 (hr.a (a := 112) rfl (by decide) rfl).1 (hr.a (a := 112) rfl (by decide) rfl).2 (by decide) (by decide) (hr.hi (by decide)) (nI 0)) (by omega) (by decide) rfl rfl (Nat.le_of_ble_eq_true rfl) (by decide) (by decide) ?_
  refine j_mem (M2 := cm M0 17 c) (by rw [hM0]; exact (cm_wo2 (ix_n (by decide)) (fun f => flF f 729 (nI 0))).trans (congrArg (fun z => cm z 17 c) (congrArg (fun f => zs _ _ (flF f _ _)) (zs_ne _ _ (by decide))))) ?_
  refine j_aload_n (n := 18) dX8_find_17 rfl rfl ?_
  refine j_aload_n (n := 19) dX8_find_18 rfl rfl ?_
  refine j_aload_n (n := 20) dX8_find_19 rfl rfl ?_
  refine j_iload_n (n := 21) dX8_find_20 rfl rfl ?_
  refine j_cVvr (n := 24) dX8_find_21 rfl sX8_33 (k_wearAll d G _ _ hr _ (tx_scx hx hs0) hw hwt hd2 e k pd hk hpd hse) (by omega) (by decide) rfl rfl (Nat.le_of_ble_eq_true rfl) (hr.a (a := 110) rfl (by decide) rfl).1 (by decide) (hr.hi (by decide)) (by decide) (by decide) (fun N105 Y105 hh105 => ?_)
  obtain ⟨e2105, M3, ⟨hsw, hfe⟩, e3105⟩ := hh105
  rw [e2105, e3105]
  refine j_aload_n (n := 25) dX8_find_24 rfl rfl ?_
  refine j_getr (n := 28) (k := 1) (b := 112) dX8_find_25 rfl fX8_15 (hr.a (a := 110) rfl (by decide) rfl).1 (by decide) (hr.hi (by decide)) (hr.w (k := 1) rfl (by decide)) ?_
  refine j_iconst (n := 29) (v := nI 0) dX8_find_28 rfl rfl ?_
  refine j_iconst (n := 30) (v := nI 1) dX8_find_29 rfl rfl ?_
  refine j_aload_n (n := 31) dX8_find_30 rfl rfl ?_
  refine jc_get (n := 34) (k := 1) (v := nI (c (10 + 5 * k + 1))) dX8_find_31 rfl fX8_37 ((hr.1.1).p (by omega)).2.2.1 ((hr.1.1).p (by omega)).1 ((hr.1.1).hi (by omega)) (cm_r (ix_p (by omega) (by decide) rfl)) ?_
  refine j_ishl (n := 35) dX8_find_34 rfl ?_
  refine j_top (y := nI (2 ^ c (10 + 5 * k + 1))) (one_shl _ (by omega)) ?_
  refine j_iastN (n := 36) (L := 729) (a := 112) (i := 0) (x := nI (2 ^ c (10 + 5 * k + 1))) (M2 := cm (zs M3 112 (upd (M3 112) 0 (nI (2 ^ c (10 + 5 * k + 1))))) 17 c) dX8_find_35 rfl (hr.a (a := 112) rfl (by decide) rfl).1 (hr.a (a := 112) rfl (by decide) rfl).2 (by omega) (by decide) (by decide) (hr.hi (by decide)) (cm_wo2 (ix_n (by decide)) (fun f => upd f 0 _)) ?_
  refine j_iconst (n := 37) (v := nI 0) dX8_find_36 rfl rfl ?_
  refine j_istore (n := 39) (lv2 := [some (.ref 110), some (.ref 17), some (.ref (17 + 5 + 2 * k)), some (.int (nI pd)), some (.int (nI 0)), none, none]) dX8_find_37 rfl rfl (by decide) rfl ?_
  refine j_wk (lv2 := [some (.ref 110), some (.ref 17), some (.ref (17 + 5 + 2 * k)), some (.int (nI pd)), some (.int (nI 0)), none, none]) ⟨rfl, rfl, rfl, rfl, rfl, trivial⟩ ?_
  have h111 : ∀ r, r < 8 → M3 111 r = fwV 9 := fun r hr => by rw [hsw 111 (by decide) (fun z => by unfold stk at z; omega), hM0, zs_ne _ _ (by decide), zs_eq]; unfold flF fwV; rw [if_pos hr, if_pos rfl]
  have h112 : ∀ K, K < 729 → M3 112 K = nI 0 := fun K hK => by rw [hsw 112 (by decide) (fun z => by unfold stk at z; omega), hM0, zs_eq]; unfold flF; rw [if_pos hK]
  refine lm _ 0 _ (initB e k) (fun _ => 9) rfl (Nat.zero_le _) ((hs0.tr hsw.x).tr (scx.s _ _ (by unfold scz; omega))) (fun K => ?_) (fun _ => Nat.le_refl _) ⟨fun K hK => ?_, fun r hr => ?_⟩ (fun s n hs hn => ?_) (wInv_eq (wInv_0 e k) (fun i => ⟨fun h => h.elim, fun h => by omega⟩))
  · unfold initB; split
    · exact pow_256 (by rw [hse.2.2.1]; omega)
    · decide
  · rw [zs_eq]; unfold upd initB; by_cases h0 : K = 0
    · rw [if_pos h0, if_pos h0, hse.2.2.1]
    · rw [if_neg h0, if_neg h0]; exact h112 K hK
  · rw [zs_ne _ _ (by decide)]; exact h111 r hr
  · rw [zs_ne _ _ (by omega)]; exact hfe s n hs hn
theorem k_reachedW (d : Nat) (G : zG) (M : zMem) (X : zX) (hr : kR X) (W : Nat → Nat) (hW : ∀ r, W r ≤ 9) (h111 : ∀ r, r < 8 → M 111 r = fwV (W r)) : zCall G miX8_reached (d + 0) [.ref 110] (zI (setOf (fun r => ¬ W r = 9) 8) M X) M X 0 0 := by
  refine zCall.of (lv := [some (.ref 110), none, none]) (by decide) (Nat.le_of_ble_eq_true rfl) rfl ?_
  refine j_iconst (n := 1) (v := nI 0) dX8_reached_0 rfl rfl ?_
  refine j_istore_n (n := 2) (lv2 := [some (.ref 110), some (.int (nI 0)), none]) dX8_reached_1 rfl rfl (by decide) rfl ?_
  refine j_iconst (n := 3) (v := nI 0) dX8_reached_2 rfl rfl ?_
  refine j_istore_n (n := 4) (lv2 := [some (.ref 110), some (.int (nI 0)), some (.int (nI 0))]) dX8_reached_3 rfl rfl (by decide) rfl ?_
  have loop : ∀ (j k : Nat), 8 - k = j → k ≤ 8 → zAt G miX8_reached (zRm (d + 0) 0 0) (zQ G (zI (setOf (fun r => ¬ W r = 9) 8) M X) 0 0) 4 [some (.ref 110), some (.int (setOf (fun r => ¬ W r = 9) k)), some (.int (nI k))] [] M X (0, 0) := by
    intro j
    induction j using Nat.strongRecOn with
    | ind j ih =>
      intro k hj hk0
      refine j_iload_n (n := 5) dX8_reached_4 rfl rfl ?_
      refine j_bipush (n := 7) (v := nI 8) dX8_reached_5 rfl (by decide) ?_
      refine j_icmp_geT (n := 10) (tg := 33) dX8_reached_7 rfl rfl (i_N (by omega)) (i_N (by omega)) (fun h101 => ?_) (fun h101 => ?_)
      · refine j_iload_n (n := 34) dX8_reached_33 rfl rfl ?_
        exact j_ri dX8_reached_34 rfl (Nat.le_refl _) (Nat.le_refl _) (by rw [show k = 8 by omega]) rfl rfl
      · refine j_aload_n (n := 11) dX8_reached_10 rfl rfl ?_
        refine j_getr (n := 14) (k := 0) (b := 111) dX8_reached_11 rfl fX8_9 (hr.a (a := 110) rfl (by decide) rfl).1 (by decide) (hr.hi (by decide)) (hr.w (k := 0) rfl (by decide)) ?_
        refine j_iload_n (n := 15) dX8_reached_14 rfl rfl ?_
        refine j_ialdN (n := 16) (L := 8) (a := 111) (i := k) (v := fwV (W k)) dX8_reached_15 rfl (hr.a (a := 111) rfl (by decide) rfl).1 (hr.a (a := 111) rfl (by decide) rfl).2 (by omega) (by decide) (by decide) (hr.hi (by decide)) (h111 k (by omega)) ?_
        refine j_ldc (n := 18) (v := -1000000005) dX8_reached_16 rfl kX8_26 ?_
        refine j_icmp_eqT (n := 21) (tg := 27) dX8_reached_18 rfl rfl rfl (show Int32.toInt (-1000000005) = (-1000000005 : Int) from by decide) (fun h102 => ?_) (fun h102 => ?_)
        · refine j_iinc (n := 30) (y := nI (k + 1)) (lv2 := [some (.ref 110), some (.int (setOf (fun r => ¬ W r = 9) k)), some (.int (nI (k + 1)))]) dX8_reached_27 rfl rfl (by decide) rfl (show nI k + nI 1 = nI (k + 1) by rw [nI_add]) rfl ?_
          refine j_goto (n := 4) dX8_reached_30 rfl ?_
          have h9 := fwV_9 (hW k)
          have e1 : setOf (fun r => ¬ W r = 9) k = setOf (fun r => ¬ W r = 9) (k + 1) := by first | (rw [setOf, if_pos (by omega)]; done) | (rw [setOf, if_neg (by omega), or_0])
          rw [e1]
          exact ih _ (by omega) (k + 1) rfl (by omega)
        · refine j_iload_n (n := 22) dX8_reached_21 rfl rfl ?_
          refine j_iconst (n := 23) (v := nI 1) dX8_reached_22 rfl rfl ?_
          refine j_iload_n (n := 24) dX8_reached_23 rfl rfl ?_
          refine j_ishl (n := 25) dX8_reached_24 rfl ?_
          refine j_ior (n := 26) dX8_reached_25 rfl ?_
          refine j_istore_n (n := 27) (lv2 := [some (.ref 110), some (.int ((setOf (fun r => ¬ W r = 9) k) ||| ((nI 1) <<< ((nI k) &&& 31)))), some (.int (nI k))]) dX8_reached_26 rfl rfl (by decide) rfl ?_
          refine j_iinc (n := 30) (y := nI (k + 1)) (lv2 := [some (.ref 110), some (.int ((setOf (fun r => ¬ W r = 9) k) ||| ((nI 1) <<< ((nI k) &&& 31)))), some (.int (nI (k + 1)))]) dX8_reached_27 rfl rfl (by decide) rfl (show nI k + nI 1 = nI (k + 1) by rw [nI_add]) rfl ?_
          refine j_goto (n := 4) dX8_reached_30 rfl ?_
          have h9 := fwV_9 (hW k)
          have e1 : (setOf (fun r => ¬ W r = 9) k) ||| ((nI 1) <<< ((nI k) &&& 31)) = setOf (fun r => ¬ W r = 9) (k + 1) := by first | (rw [setOf, if_pos (by omega)]; done) | (rw [setOf, if_neg (by omega), or_0])
          rw [e1]
          exact ih _ (by omega) (k + 1) rfl (by omega)
  exact loop _ 0 rfl (Nat.zero_le _)
theorem k_reach (d : Nat) (G : zG) (M : zMem) (X : zX) (hr : kR X) (c : Nat → Nat) (hG : gOK G) (hx : tx M X 17 c) (hw : wfO c) (hwl : wfL c) (hwt : wfT c) (hd2 : c 2 < 2147483648) (one : Int32) : zCall G miX9_reach (d + 5) [.ref 16, .int one] (zIr (fun r0 M1 X1 => r0 = r_reach c one ∧ X1 = X ∧ ∃ M2, scx M M2 ∧ M1 = cm M2 17 c)) (cm M 17 c) X 0 0 := by
  refine zCall.of (lv := [some (.ref 16), some (.int one)]) (by decide) (Nat.le_of_ble_eq_true rfl) rfl ?_
  have hw0 := hw.1
  refine j_aload_n (n := 1) dX9_reach_0 rfl rfl ?_
  refine j_iload_n (n := 2) dX9_reach_1 rfl rfl ?_
  refine j_cV (n := 5) dX9_reach_2 rfl sX9_87 (k_isOne (d + 4) G _ _ hr _ (by omega) _) (by omega) (by decide) rfl rfl (Nat.le_of_ble_eq_true rfl) (hr).c (by decide) ((hr).hi (by decide)) (by decide) (by decide) ?_
  refine j_if_neB (n := 8) (tg := 11) dX9_reach_5 rfl rfl (fun h101 => ?_) (fun h101 => ?_)
  · obtain ⟨k, hk_, rfl⟩ := i_of (x := one) (n := c 0) (by omega) (by omega)
    have ek : tN (nI k) = k := tN_nI (by omega)
    have ik : (nI k).toInt = k := i_N (by omega)
    refine j_aload_n (n := 12) dX9_reach_11 rfl rfl ?_
    refine j_getr (n := 15) (k := 4) (b := 110) dX9_reach_12 rfl fX9_25 (hr).c (by decide) ((hr).hi (by decide)) (hr.f (k := 4) rfl (by decide)) ?_
    refine j_aload_n (n := 16) dX9_reach_15 rfl rfl ?_
    refine j_getr (n := 19) (k := 0) (b := 17) dX9_reach_16 rfl fX9_10 (hr).c (by decide) ((hr).hi (by decide)) (hr.f (k := 0) rfl (by decide)) ?_
    refine j_aload_n (n := 20) dX9_reach_19 rfl rfl ?_
    refine j_getr (n := 23) (k := 0) (b := 17) dX9_reach_20 rfl fX9_10 (hr).c (by decide) ((hr).hi (by decide)) (hr.f (k := 0) rfl (by decide)) ?_
    refine j_getr (n := 26) (k := 0) (b := 18) dX9_reach_23 rfl fX9_77 (hr.1.1).c (hr.1.1).lo ((hr.1.1).hi (by omega)) (hr.1.1).r0 ?_
    refine j_iload_n (n := 27) dX9_reach_26 rfl rfl ?_
    refine jc_aald (n := 28) (t := 2) (L := 8) (i := k) (b := 17 + 5 + 2 * k) dX9_reach_27 rfl ((hr.1.1).a1).1 (by decide) rfl ((hr.1.1).a1).2 (by omega) (by decide) (by have := (hr.1.1).lo; omega) ((hr.1.1).hi (by omega)) ((hr.1.1).e1 (by omega)) ?_
    refine j_iconst (n := 29) (v := nI 0) dX9_reach_28 rfl rfl ?_
    refine j_cVvr (n := 32) dX9_reach_29 rfl sX9_206 (k_find d G _ _ hr _ hG hx hw hwl hwt hd2 (c) k 0 (by omega) (by decide) (seeE_0 c k)) (by omega) (by decide) rfl rfl (Nat.le_of_ble_eq_true rfl) (hr.a (a := 110) rfl (by decide) rfl).1 (by decide) (hr.hi (by decide)) (by decide) (by decide) (fun N102 Y102 hh102 => ?_)
    obtain ⟨e2102, M2, B, W, ⟨hsx, hin, hW, h111⟩, e3102⟩ := hh102
    rw [e2102, e3102]
    refine j_aload_n (n := 33) dX9_reach_32 rfl rfl ?_
    refine j_getr (n := 36) (k := 4) (b := 110) dX9_reach_33 rfl fX9_25 (hr).c (by decide) ((hr).hi (by decide)) (hr.f (k := 4) rfl (by decide)) ?_
    refine j_cV (n := 39) dX9_reach_36 rfl sX9_210 (k_reachedW (d + 4) G _ _ hr W hW (fun r hr => by rw [cm_o (ix_n (by decide))]; exact h111 r hr)) (by omega) (by decide) rfl rfl (Nat.le_of_ble_eq_true rfl) (hr.a (a := 110) rfl (by decide) rfl).1 (by decide) (hr.hi (by decide)) (by decide) (by decide) ?_
    exact j_iret dX9_reach_39 rfl rfl (Nat.le_refl _) (Nat.le_refl _) ⟨_, rfl, (by unfold r_reach; rw [if_pos (by omega), ek]; exact reach_end hwl hw hk_ hin), rfl, M2, hsx, rfl⟩
  · refine j_ldc (n := 10) (v := -1000000001) dX9_reach_8 rfl kX9_71 ?_
    exact j_iret dX9_reach_10 rfl rfl (Nat.le_refl _) (Nat.le_refl _) ⟨_, rfl, (by unfold r_reach; rw [if_neg (by omega)]), rfl, M, scx.rf M, rfl⟩
theorem k_way (d : Nat) (G : zG) (M : zMem) (X : zX) (hr : kR X) (c : Nat → Nat) (hG : gOK G) (hx : tx M X 17 c) (hw : wfO c) (hwl : wfL c) (hwt : wfT c) (hd2 : c 2 < 2147483648) (one room : Int32) : zCall G miX9_way (d + 5) [.ref 16, .int one, .int room] (zIr (fun r0 M1 X1 => r0 = r_way c one room ∧ X1 = X ∧ ∃ M2, scx M M2 ∧ M1 = cm M2 17 c)) (cm M 17 c) X 0 0 := by
  refine zCall.of (lv := [some (.ref 16), some (.int one), some (.int room)]) (by decide) (Nat.le_of_ble_eq_true rfl) rfl ?_
  have hw0 := hw.1
  refine j_aload_n (n := 1) dX9_way_0 rfl rfl ?_
  refine j_iload_n (n := 2) dX9_way_1 rfl rfl ?_
  refine j_cV (n := 5) dX9_way_2 rfl sX9_87 (k_isOne (d + 4) G _ _ hr _ (by omega) _) (by omega) (by decide) rfl rfl (Nat.le_of_ble_eq_true rfl) (hr).c (by decide) ((hr).hi (by decide)) (by decide) (by decide) ?_
  refine j_if_eqB (n := 8) (tg := 15) dX9_way_5 rfl rfl (fun h101 => ?_) (fun h101 => ?_)
  · refine j_ldc (n := 17) (v := -1000000001) dX9_way_15 rfl kX9_71 ?_
    exact j_iret dX9_way_17 rfl rfl (Nat.le_refl _) (Nat.le_refl _) ⟨_, rfl, (by unfold r_way; rw [if_pos (by omega)]), rfl, M, scx.rf M, rfl⟩
  · refine j_iload_n (n := 9) dX9_way_8 rfl rfl ?_
    refine j_cS (n := 12) dX9_way_9 rfl sX9_65 (k_isRoom (d + 4) G _ _ _) (by omega) (by decide) rfl rfl (Nat.le_of_ble_eq_true rfl) (by decide) (by decide) ?_
    refine j_if_neB (n := 15) (tg := 18) dX9_way_12 rfl rfl (fun h102 => ?_) (fun h102 => ?_)
    · obtain ⟨k, hk_, rfl⟩ := i_of (x := one) (n := c 0) (by omega) (by omega)
      have ek : tN (nI k) = k := tN_nI (by omega)
      have ik : (nI k).toInt = k := i_N (by omega)
      obtain ⟨r, hr_, rfl⟩ := i_of (x := room) (n := 8) (by omega) (by omega)
      have er : tN (nI r) = r := tN_nI (by omega)
      have ir : (nI r).toInt = r := i_N (by omega)
      refine j_aload_n (n := 19) dX9_way_18 rfl rfl ?_
      refine j_getr (n := 22) (k := 4) (b := 110) dX9_way_19 rfl fX9_25 (hr).c (by decide) ((hr).hi (by decide)) (hr.f (k := 4) rfl (by decide)) ?_
      refine j_aload_n (n := 23) dX9_way_22 rfl rfl ?_
      refine j_getr (n := 26) (k := 0) (b := 17) dX9_way_23 rfl fX9_10 (hr).c (by decide) ((hr).hi (by decide)) (hr.f (k := 0) rfl (by decide)) ?_
      refine j_aload_n (n := 27) dX9_way_26 rfl rfl ?_
      refine j_getr (n := 30) (k := 0) (b := 17) dX9_way_27 rfl fX9_10 (hr).c (by decide) ((hr).hi (by decide)) (hr.f (k := 0) rfl (by decide)) ?_
      refine j_getr (n := 33) (k := 0) (b := 18) dX9_way_30 rfl fX9_77 (hr.1.1).c (hr.1.1).lo ((hr.1.1).hi (by omega)) (hr.1.1).r0 ?_
      refine j_iload_n (n := 34) dX9_way_33 rfl rfl ?_
      refine jc_aald (n := 35) (t := 2) (L := 8) (i := k) (b := 17 + 5 + 2 * k) dX9_way_34 rfl ((hr.1.1).a1).1 (by decide) rfl ((hr.1.1).a1).2 (by omega) (by decide) (by have := (hr.1.1).lo; omega) ((hr.1.1).hi (by omega)) ((hr.1.1).e1 (by omega)) ?_
      refine j_iconst (n := 36) (v := nI 0) dX9_way_35 rfl rfl ?_
      refine j_cVvr (n := 39) dX9_way_36 rfl sX9_206 (k_find d G _ _ hr _ hG hx hw hwl hwt hd2 (c) k 0 (by omega) (by decide) (seeE_0 c k)) (by omega) (by decide) rfl rfl (Nat.le_of_ble_eq_true rfl) (hr.a (a := 110) rfl (by decide) rfl).1 (by decide) (hr.hi (by decide)) (by decide) (by decide) (fun N103 Y103 hh103 => ?_)
      obtain ⟨e2103, M2, B, W, ⟨hsx, hin, hW, h111⟩, e3103⟩ := hh103
      rw [e2103, e3103]
      refine j_aload_n (n := 40) dX9_way_39 rfl rfl ?_
      refine j_getr (n := 43) (k := 4) (b := 110) dX9_way_40 rfl fX9_25 (hr).c (by decide) ((hr).hi (by decide)) (hr.f (k := 4) rfl (by decide)) ?_
      refine j_getr (n := 46) (k := 0) (b := 111) dX9_way_43 rfl fX9_213 (hr.a (a := 110) rfl (by decide) rfl).1 (by decide) (hr.hi (by decide)) (hr.w (k := 0) rfl (by decide)) ?_
      refine j_iload_n (n := 47) dX9_way_46 rfl rfl ?_
      refine j_ialdN (n := 48) (L := 8) (a := 111) (i := r) (v := fwV (W r)) dX9_way_47 rfl (hr.a (a := 111) rfl (by decide) rfl).1 (hr.a (a := 111) rfl (by decide) rfl).2 (by omega) (by decide) (by decide) (hr.hi (by decide)) ((congrFun (cm_o (ix_n (by decide))) _).trans (h111 r (by omega))) ?_
      exact j_iret dX9_way_48 rfl rfl (Nat.le_refl _) (Nat.le_refl _) ⟨_, rfl, (by unfold r_way; rw [if_neg (by omega), ek, er, way_end hwl hin (by omega)]; have h9 := hW r; unfold fwV; by_cases h2 : W r = 9; (rw [if_pos h2, if_neg (by omega)]); (rw [if_neg h2, if_pos (by omega)])), rfl, M2, hsx, rfl⟩
    · refine j_ldc (n := 17) (v := -1000000001) dX9_way_15 rfl kX9_71 ?_
      exact j_iret dX9_way_17 rfl rfl (Nat.le_refl _) (Nat.le_refl _) ⟨_, rfl, (by unfold r_way; rw [if_pos (by omega)]), rfl, M, scx.rf M, rfl⟩
theorem halves_wfO {p : Nat → Nat} (h1 : wfO p) {k : Nat} (hk : k < p 0) : wfO (halvesP p k) := by
  have hr := h1.2 k hk
  have o1 := wfO_reg h1 (k := k) (j := 0) (v := p (10 + 5 * k + 2) / 2) hk (by omega) (by omega)
  have o2 := wfO_reg o1 (k := k) (j := 1) (v := p (10 + 5 * k + 3) / 2) (by rw [pu_ne _ _ (by omega)]; exact hk) (by omega) (by omega)
  exact wfO_reg o2 (k := k) (j := 2) (v := p (10 + 5 * k + 4) / 2) (by rw [pu_ne _ _ (by omega), pu_ne _ _ (by omega)]; exact hk) (by omega) (by omega)
theorem halves_wfL {p : Nat → Nat} (h2 : wfL p) {k : Nat} (hk : k < 8) : wfL (halvesP p k) := wfL_off (wfL_off (wfL_off h2 (by omega) (by omega)) (by omega) (by omega)) (by omega) (by omega)
theorem k_pardoned (d : Nat) (G : zG) (M : zMem) (X : zX) (hr : kR X) (c : Nat → Nat) (hG : gOK G) (hx : tx M X 17 c) (hw : wfO c) (hwl : wfL c) (hwt : wfT c) (hd2 : c 2 < 2147483648) (one : Int32) : zCall G miX9_pardoned (d + 5) [.ref 16, .int one] (zIr (fun r0 M1 X1 => r0 = r_pardoned c one ∧ X1 = X ∧ ∃ M2, scx M M2 ∧ M1 = cm M2 17 c)) (cm M 17 c) X 0 0 := by
  refine zCall.of (lv := [some (.ref 16), some (.int one)]) (by decide) (Nat.le_of_ble_eq_true rfl) rfl ?_
  have hw0 := hw.1
  refine j_aload_n (n := 1) dX9_pardoned_0 rfl rfl ?_
  refine j_iload_n (n := 2) dX9_pardoned_1 rfl rfl ?_
  refine j_cV (n := 5) dX9_pardoned_2 rfl sX9_87 (k_isOne (d + 4) G _ _ hr _ (by omega) _) (by omega) (by decide) rfl rfl (Nat.le_of_ble_eq_true rfl) (hr).c (by decide) ((hr).hi (by decide)) (by decide) (by decide) ?_
  refine j_if_neB (n := 8) (tg := 11) dX9_pardoned_5 rfl rfl (fun h101 => ?_) (fun h101 => ?_)
  · obtain ⟨k, hk_, rfl⟩ := i_of (x := one) (n := c 0) (by omega) (by omega)
    have ek : tN (nI k) = k := tN_nI (by omega)
    have ik : (nI k).toInt = k := i_N (by omega)
    refine j_aload_n (n := 12) dX9_pardoned_11 rfl rfl ?_
    refine j_getr (n := 15) (k := 4) (b := 110) dX9_pardoned_12 rfl fX9_25 (hr).c (by decide) ((hr).hi (by decide)) (hr.f (k := 4) rfl (by decide)) ?_
    refine j_aload_n (n := 16) dX9_pardoned_15 rfl rfl ?_
    refine j_getr (n := 19) (k := 0) (b := 17) dX9_pardoned_16 rfl fX9_10 (hr).c (by decide) ((hr).hi (by decide)) (hr.f (k := 0) rfl (by decide)) ?_
    refine j_aload_n (n := 20) dX9_pardoned_19 rfl rfl ?_
    refine j_getr (n := 23) (k := 0) (b := 17) dX9_pardoned_20 rfl fX9_10 (hr).c (by decide) ((hr).hi (by decide)) (hr.f (k := 0) rfl (by decide)) ?_
    refine j_getr (n := 26) (k := 0) (b := 18) dX9_pardoned_23 rfl fX9_77 (hr.1.1).c (hr.1.1).lo ((hr.1.1).hi (by omega)) (hr.1.1).r0 ?_
    refine j_iload_n (n := 27) dX9_pardoned_26 rfl rfl ?_
    refine jc_aald (n := 28) (t := 2) (L := 8) (i := k) (b := 17 + 5 + 2 * k) dX9_pardoned_27 rfl ((hr.1.1).a1).1 (by decide) rfl ((hr.1.1).a1).2 (by omega) (by decide) (by have := (hr.1.1).lo; omega) ((hr.1.1).hi (by omega)) ((hr.1.1).e1 (by omega)) ?_
    refine j_iconst (n := 29) (v := nI 1) dX9_pardoned_28 rfl rfl ?_
    refine j_cVvr (n := 32) dX9_pardoned_29 rfl sX9_206 (k_find d G _ _ hr _ hG hx hw hwl hwt hd2 (halvesP c k) k 1 (by omega) (by decide) (seeE_1 (by omega))) (by omega) (by decide) rfl rfl (Nat.le_of_ble_eq_true rfl) (hr.a (a := 110) rfl (by decide) rfl).1 (by decide) (hr.hi (by decide)) (by decide) (by decide) (fun N102 Y102 hh102 => ?_)
    obtain ⟨e2102, M2, B, W, ⟨hsx, hin, hW, h111⟩, e3102⟩ := hh102
    rw [e2102, e3102]
    refine j_aload_n (n := 33) dX9_pardoned_32 rfl rfl ?_
    refine j_getr (n := 36) (k := 4) (b := 110) dX9_pardoned_33 rfl fX9_25 (hr).c (by decide) ((hr).hi (by decide)) (hr.f (k := 4) rfl (by decide)) ?_
    refine j_cV (n := 39) dX9_pardoned_36 rfl sX9_210 (k_reachedW (d + 4) G _ _ hr W hW (fun r hr => by rw [cm_o (ix_n (by decide))]; exact h111 r hr)) (by omega) (by decide) rfl rfl (Nat.le_of_ble_eq_true rfl) (hr.a (a := 110) rfl (by decide) rfl).1 (by decide) (hr.hi (by decide)) (by decide) (by decide) ?_
    exact j_iret dX9_pardoned_39 rfl rfl (Nat.le_refl _) (Nat.le_refl _) ⟨_, rfl, (by have hr3 := hw.2 k hk_; have hh : wfO (halvesP c k) := halves_wfO hw hk_; have hhl : wfL (halvesP c k) := halves_wfL hwl (by omega); unfold r_pardoned; rw [if_neg (by omega), ek]; exact reach_end hhl hh (by rw [(keep_halves (by omega)).n0]; exact hk_) hin), rfl, M2, hsx, rfl⟩
  · refine j_ldc (n := 10) (v := -1000000001) dX9_pardoned_8 rfl kX9_71 ?_
    exact j_iret dX9_pardoned_10 rfl rfl (Nat.le_refl _) (Nat.le_refl _) ⟨_, rfl, (by unfold r_pardoned; rw [if_pos (by omega)]), rfl, M, scx.rf M, rfl⟩
