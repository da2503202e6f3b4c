-- CLASS L: by program (wip/whole/gen/c12.py)
theorem k_wearAll (d : Nat) (G : zG) (M : zMem) (X : zX) (hr : kR X) (c : Nat → Nat) (hx : tx M X 17 c) (hw : wfO c) (hwt : wfT c) (hd2 : c 2 < 2147483648) (e : Nat → Nat) (k pd : Nat) (hk : k < c 0) (hpd : pd ≤ 1) (hse : seeE c e k pd) : zCall G miX8_wearAll (d + 3) [.ref 110, .ref 17, .ref (17 + 5 + 2 * k), .int (nI pd)] (zVr (fun M1 X1 => X1 = X ∧ ∃ M2, (wsc M M2 ∧ feM M2 c e k) ∧ M1 = cm M2 17 c)) (cm M 17 c) X 0 0 := by
  refine zCall.of (lv := [some (.ref 110), some (.ref 17), some (.ref (17 + 5 + 2 * k)), some (.int (nI pd)), none, none, none]) (by decide) (Nat.le_of_ble_eq_true rfl) rfl ?_
  have hw0 := hw.1
  have ho := hw.2 k hk
  have hr9 : ∀ s, s ≤ 2 → e (10 + 5 * k + (2 + s)) ≤ 99 := fun s hs => by have := hse.1 s hs; have := hw.reg hk hs; split at * <;> omega
  have hwt9 : ∀ s n, s ≤ 2 → n < 9 → wtP e k (9 * s + n) ≤ 99 := fun s n hs hn => by unfold wtP; rw [show (9 * s + n) / 9 = s by omega]; exact wnP_le e (hr9 s hs) _
  have hw00 : ∀ s, s ≤ 2 → wtP e k (9 * s + 0) = e (10 + 5 * k + (2 + s)) := fun s hs => by unfold wtP; rw [show (9 * s + 0) / 9 = s by omega, show (9 * s + 0) % 9 = 0 by omega]; rfl
  have hwts : ∀ s n, s ≤ 2 → n < 8 → wtP e k (9 * s + (n + 1)) = wornP c (c (10 + 5 * k + 0)) (wtP e k (9 * s + n)) s := fun s n hs hn => by unfold wtP; rw [show (9 * s + (n + 1)) / 9 = s by omega, show (9 * s + (n + 1)) % 9 = n + 1 by omega, show (9 * s + n) / 9 = s by omega, show (9 * s + n) % 9 = n by omega, wnP, hse.2.1, hse.2.2.2.2]
  have inner : ∀ (s : Nat), s < 3 → (∀ M1, wsc M M1 → (∀ t m, (t < s ∨ (t = s ∧ m < 9)) → t < 3 → m < 9 → M1 (114 + t) m = nI (feelsN (c (10 + 5 * k + 0)) (wtP e k (9 * t + m)))) → zAt G miX8_wearAll (zRm (d + 3) 0 0) (zQ G (zVr (fun M1 X1 => X1 = X ∧ ∃ M2, (wsc M M2 ∧ feM M2 c e k) ∧ M1 = cm M2 17 c)) 0 0) 83 [some (.ref 110), some (.ref 17), some (.ref (17 + 5 + 2 * k)), some (.int (nI pd)), some (.int (nI s)), none, none] [] (cm M1 17 c) X (0, 0)) → ∀ (j n : Nat) (M1 : zMem), 9 - n = j → n ≤ 9 → wsc M M1 → (∀ t m, (t < s ∨ (t = s ∧ m < n)) → t < 3 → m < 9 → M1 (114 + t) m = nI (feelsN (c (10 + 5 * k + 0)) (wtP e k (9 * t + m)))) → zAt G miX8_wearAll (zRm (d + 3) 0 0) (zQ G (zVr (fun M1 X1 => X1 = X ∧ ∃ M2, (wsc M M2 ∧ feM M2 c e k) ∧ M1 = cm M2 17 c)) 0 0) 37 [some (.ref 110), some (.ref 17), some (.ref (17 + 5 + 2 * k)), some (.int (nI pd)), some (.int (nI s)), some (.int (nI (if n < 9 then wtP e k (9 * s + n) else wornP c (c (10 + 5 * k + 0)) (wtP e k (9 * s + 8)) s))), some (.int (nI n))] [] (cm M1 17 c) X (0, 0) := by
    intro s hs cont j
    induction j using Nat.strongRecOn with
    | ind j ih =>
      intro n M1 hj hn0 hsc hdn
      have hx1 : tx M1 X 17 c := tx_scx hx hsc.x
      refine j_iload (n := 39) dX8_wearAll_37 rfl rfl ?_
      refine j_bipush (n := 41) (v := nI 9) dX8_wearAll_39 rfl (by decide) ?_
      refine j_icmp_geT (n := 44) (tg := 83) dX8_wearAll_41 rfl rfl (i_N (by omega)) (i_N (by omega)) (fun h101 => ?_) (fun h101 => ?_)
      · have en : n = 9 := by omega
        subst en
        refine j_wk (lv2 := [some (.ref 110), some (.ref 17), some (.ref (17 + 5 + 2 * k)), some (.int (nI pd)), some (.int (nI s)), none, none]) ⟨rfl, rfl, rfl, rfl, rfl, trivial⟩ ?_
        exact cont M1 hsc hdn
      · have hn9 : n < 9 := by omega
        have hwn := hwt9 s n (by omega) hn9
        refine j_lv (lv2 := [some (.ref 110), some (.ref 17), some (.ref (17 + 5 + 2 * k)), some (.int (nI pd)), some (.int (nI s)), some (.int (nI (wtP e k (9 * s + n)))), some (.int (nI n))]) (by rw [if_pos hn9]) ?_
        refine j_aload_n (n := 45) dX8_wearAll_44 rfl rfl ?_
        refine j_getr (n := 48) (k := 2) (b := 113) dX8_wearAll_45 rfl fX8_20 (hr.a (a := 110) rfl (by decide) rfl).1 (by decide) (hr.hi (by decide)) (hr.w (k := 2) rfl (by decide)) ?_
        refine j_iload (n := 50) dX8_wearAll_48 rfl rfl ?_
        refine jc_aald2 (n := 51) (L := 3) (i := s) (b := 114 + s) dX8_wearAll_50 rfl (hr.a (a := 113) rfl (by decide) rfl).1 (hr.a (a := 113) rfl (by decide) rfl).2 (by omega) (by decide) (by decide) (hr.hi (by decide)) (hr.fe (by omega)) ?_
        refine j_iload (n := 53) dX8_wearAll_51 rfl rfl ?_
        refine j_aload_n (n := 54) dX8_wearAll_53 rfl rfl ?_
        refine jc_get (n := 57) (k := 0) (v := nI (c (10 + 5 * k + 0))) dX8_wearAll_54 rfl fX8_50 ((hr.1.1).p (by omega)).2.2.1 ((hr.1.1).p (by omega)).1 ((hr.1.1).hi (by omega)) (cm_r (ix_p (by omega) (by decide) rfl)) ?_
        refine j_iload (n := 59) dX8_wearAll_57 rfl rfl ?_
        refine j_cS (n := 62) dX8_wearAll_59 rfl sX8_53 (c_feelsK (d + 2) G _ _ (c (10 + 5 * k + 0)) (wtP e k (9 * s + n)) (by omega) (by omega)) (by omega) (by decide) rfl rfl (Nat.le_of_ble_eq_true rfl) (by decide) (by decide) ?_
        refine j_iastN (n := 63) (L := 9) (a := 114 + s) (i := n) (x := nI (feelsN (c (10 + 5 * k + 0)) (wtP e k (9 * s + n)))) (M2 := cm (zs M1 (114 + s) (upd (M1 (114 + s)) n (nI (feelsN (c (10 + 5 * k + 0)) (wtP e k (9 * s + n)))))) 17 c) dX8_wearAll_62 rfl (hr.fa (by omega)).1 (hr.fa (by omega)).2 (by omega) (by decide) (by omega) (hr.hi (by omega)) (cm_wo2 (ix_n (by omega)) (fun f => upd f n _)) ?_
        refine j_aload_n (n := 64) dX8_wearAll_63 rfl rfl ?_
        refine j_aload_n (n := 65) dX8_wearAll_64 rfl rfl ?_
        refine jc_get (n := 68) (k := 0) (v := nI (c (10 + 5 * k + 0))) dX8_wearAll_65 rfl fX8_50 ((hr.1.1).p (by omega)).2.2.1 ((hr.1.1).p (by omega)).1 ((hr.1.1).hi (by omega)) (cm_r (ix_p (by omega) (by decide) rfl)) ?_
        refine j_iload (n := 70) dX8_wearAll_68 rfl rfl ?_
        refine j_iload (n := 72) dX8_wearAll_70 rfl rfl ?_
        refine j_cVr (n := 75) dX8_wearAll_72 rfl sX8_59 (c_leftOf d G _ _ _ hr.1.1 _ (tx_scx hx1 (wsc.s _ _ (by omega)).x) hwt hd2 (c (10 + 5 * k + 0)) s (wtP e k (9 * s + n)) (by omega) (by omega) (by omega)) (by omega) (by decide) rfl rfl (Nat.le_of_ble_eq_true rfl) (hr.1.1).c (hr.1.1).lo ((hr.1.1).hi (by omega)) (by decide) (by decide) (fun r102 N102 Y102 hh102 => ?_)
        obtain ⟨e1102, e2102, M_102, hs102, e3102⟩ := hh102
        rw [e1102, e2102, e3102]
        refine j_istore (n := 77) (lv2 := [some (.ref 110), some (.ref 17), some (.ref (17 + 5 + 2 * k)), some (.int (nI pd)), some (.int (nI s)), some (.int (nI (wornP c (c (10 + 5 * k + 0)) (wtP e k (9 * s + n)) s))), some (.int (nI n))]) dX8_wearAll_75 rfl rfl (by decide) rfl ?_
        refine j_iinc (n := 80) (y := nI (n + 1)) (lv2 := [some (.ref 110), some (.ref 17), some (.ref (17 + 5 + 2 * k)), some (.int (nI pd)), some (.int (nI s)), some (.int (nI (wornP c (c (10 + 5 * k + 0)) (wtP e k (9 * s + n)) s))), some (.int (nI (n + 1)))]) dX8_wearAll_77 rfl rfl (by decide) rfl (show nI n + nI 1 = nI (n + 1) by rw [nI_add]) rfl ?_
        refine j_goto (n := 37) dX8_wearAll_80 rfl ?_
        refine j_lv (lv2 := [some (.ref 110), some (.ref 17), some (.ref (17 + 5 + 2 * k)), some (.int (nI pd)), some (.int (nI s)), some (.int (nI (if n + 1 < 9 then wtP e k (9 * s + (n + 1)) else wornP c (c (10 + 5 * k + 0)) (wtP e k (9 * s + 8)) s))), some (.int (nI (n + 1)))]) (by by_cases h9 : n + 1 < 9; (rw [if_pos h9, hwts s n (by omega) (by omega)]); (rw [if_neg h9, show n = 8 by omega])) ?_
        exact ih _ (by omega) (n + 1) _ rfl (by omega) ((hsc.tr (wsc.s _ _ (by omega))).tr hs102.ws) (fun t m htm ht hm => by rw [hs102 (114 + t) (fun z => by unfold stk at z; omega)]; by_cases e1 : t = s; (subst e1; rw [zs_eq]; simp only [upd]; by_cases e2 : m = n; (rw [if_pos e2, e2]); (rw [if_neg e2]; exact hdn t m (by omega) ht hm)); (rw [zs_ne _ _ (by omega)]; exact hdn t m (by omega) ht hm))
  have outer : ∀ (j s : Nat) (M1 : zMem), 3 - s = j → s ≤ 3 → wsc M M1 → (∀ t m, (t < s ∨ (t = s ∧ m < 0)) → t < 3 → m < 9 → M1 (114 + t) m = nI (feelsN (c (10 + 5 * k + 0)) (wtP e k (9 * t + m)))) → zAt G miX8_wearAll (zRm (d + 3) 0 0) (zQ G (zVr (fun M1 X1 => X1 = X ∧ ∃ M2, (wsc M M2 ∧ feM M2 c e k) ∧ M1 = cm M2 17 c)) 0 0) 3 [some (.ref 110), some (.ref 17), some (.ref (17 + 5 + 2 * k)), some (.int (nI pd)), some (.int (nI s)), none, none] [] (cm M1 17 c) X (0, 0) := by
    intro j
    induction j using Nat.strongRecOn with
    | ind j ih =>
      intro s M1 hj hs0 hsc hdn
      refine j_iload (n := 5) dX8_wearAll_3 rfl rfl ?_
      refine j_iconst (n := 6) (v := nI 3) dX8_wearAll_5 rfl rfl ?_
      refine j_icmp_geT (n := 9) (tg := 89) dX8_wearAll_6 rfl rfl (i_N (by omega)) (i_N (by omega)) (fun h103 => ?_) (fun h103 => ?_)
      · exact j_vret dX8_wearAll_89 rfl (Nat.le_refl _) (Nat.le_refl _) ⟨rfl, rfl, M1, ⟨hsc, fun t m ht hm => hdn t m (by omega) ht hm⟩, rfl⟩
      · have hrg := hw.reg hk (j := s) (by omega)
        refine j_iload_n (n := 10) dX8_wearAll_9 rfl rfl ?_
        refine j_if_eqN (n := 13) (tg := 25) dX8_wearAll_10 rfl rfl (by omega) (fun h104 => ?_) (fun h104 => ?_)
        · refine j_aload_n (n := 26) dX8_wearAll_25 rfl rfl ?_
          refine j_getr (n := 29) (k := 2) (b := 17 + 6 + 2 * k) dX8_wearAll_26 rfl fX8_47 ((hr.1.1).p (by omega)).2.2.1 ((hr.1.1).p (by omega)).1 ((hr.1.1).hi (by omega)) ((hr.1.1).pr (by omega)) ?_
          refine j_iload (n := 31) dX8_wearAll_29 rfl rfl ?_
          refine j_ialdN (n := 32) (L := 3) (a := 17 + 6 + 2 * k) (i := s) (v := nI (c (10 + 5 * k + (2 + s)))) dX8_wearAll_31 rfl ((hr.1.1).pa (by omega)).1 ((hr.1.1).pa (by omega)).2 (by omega) (by decide) (by have := (hr.1.1).lo; omega) ((hr.1.1).hi (by omega)) (cm_r (ix_r (by omega) (by omega) rfl)) ?_
          refine j_istore (n := 34) (lv2 := [some (.ref 110), some (.ref 17), some (.ref (17 + 5 + 2 * k)), some (.int (nI pd)), some (.int (nI s)), some (.int (nI (c (10 + 5 * k + (2 + s))))), none]) dX8_wearAll_32 rfl rfl (by decide) rfl ?_
          refine j_iconst (n := 35) (v := nI 0) dX8_wearAll_34 rfl rfl ?_
          refine j_istore (n := 37) (lv2 := [some (.ref 110), some (.ref 17), some (.ref (17 + 5 + 2 * k)), some (.int (nI pd)), some (.int (nI s)), some (.int (nI (c (10 + 5 * k + (2 + s))))), some (.int (nI 0))]) dX8_wearAll_35 rfl rfl (by decide) rfl ?_
          have hs2 := hse.1 s (by omega)
          refine j_lv (lv2 := [some (.ref 110), some (.ref 17), some (.ref (17 + 5 + 2 * k)), some (.int (nI pd)), some (.int (nI s)), some (.int (nI (if 0 < 9 then wtP e k (9 * s + 0) else wornP c (c (10 + 5 * k + 0)) (wtP e k (9 * s + 8)) s))), some (.int (nI 0))]) (by rw [if_pos (by decide), hw00 s (by omega), hs2]; first | (rw [if_pos (by omega)]; done) | rw [if_neg (by omega)]) ?_
          exact inner s (by omega) (fun M2 hs2 hd2 => by
            refine j_iinc (n := 86) (y := nI (s + 1)) (lv2 := [some (.ref 110), some (.ref 17), some (.ref (17 + 5 + 2 * k)), some (.int (nI pd)), some (.int (nI (s + 1))), none, none]) dX8_wearAll_83 rfl rfl (by decide) rfl (show nI s + nI 1 = nI (s + 1) by rw [nI_add]) rfl ?_
            refine j_goto (n := 3) dX8_wearAll_86 rfl ?_
            exact ih _ (by omega) (s + 1) M2 rfl (by omega) hs2 (fun t m h1 h2 h3 => hd2 t m (by omega) h2 h3)) _ 0 M1 rfl (Nat.zero_le _) hsc hdn
        · refine j_aload_n (n := 14) dX8_wearAll_13 rfl rfl ?_
          refine j_getr (n := 17) (k := 2) (b := 17 + 6 + 2 * k) dX8_wearAll_14 rfl fX8_47 ((hr.1.1).p (by omega)).2.2.1 ((hr.1.1).p (by omega)).1 ((hr.1.1).hi (by omega)) ((hr.1.1).pr (by omega)) ?_
          refine j_iload (n := 19) dX8_wearAll_17 rfl rfl ?_
          refine j_ialdN (n := 20) (L := 3) (a := 17 + 6 + 2 * k) (i := s) (v := nI (c (10 + 5 * k + (2 + s)))) dX8_wearAll_19 rfl ((hr.1.1).pa (by omega)).1 ((hr.1.1).pa (by omega)).2 (by omega) (by decide) (by have := (hr.1.1).lo; omega) ((hr.1.1).hi (by omega)) (cm_r (ix_r (by omega) (by omega) rfl)) ?_
          refine j_iconst (n := 21) (v := nI 2) dX8_wearAll_20 rfl rfl ?_
          refine j_idivN (n := 22) (c := (c (10 + 5 * k + (2 + s))) / 2) dX8_wearAll_21 rfl (by omega) (by omega) (by omega) rfl ?_
          refine j_goto (n := 32) dX8_wearAll_22 rfl ?_
          refine j_istore (n := 34) (lv2 := [some (.ref 110), some (.ref 17), some (.ref (17 + 5 + 2 * k)), some (.int (nI pd)), some (.int (nI s)), some (.int (nI ((c (10 + 5 * k + (2 + s))) / 2))), none]) dX8_wearAll_32 rfl rfl (by decide) rfl ?_
          refine j_iconst (n := 35) (v := nI 0) dX8_wearAll_34 rfl rfl ?_
          refine j_istore (n := 37) (lv2 := [some (.ref 110), some (.ref 17), some (.ref (17 + 5 + 2 * k)), some (.int (nI pd)), some (.int (nI s)), some (.int (nI ((c (10 + 5 * k + (2 + s))) / 2))), some (.int (nI 0))]) dX8_wearAll_35 rfl rfl (by decide) rfl ?_
          have hs2 := hse.1 s (by omega)
          refine j_lv (lv2 := [some (.ref 110), some (.ref 17), some (.ref (17 + 5 + 2 * k)), some (.int (nI pd)), some (.int (nI s)), some (.int (nI (if 0 < 9 then wtP e k (9 * s + 0) else wornP c (c (10 + 5 * k + 0)) (wtP e k (9 * s + 8)) s))), some (.int (nI 0))]) (by rw [if_pos (by decide), hw00 s (by omega), hs2]; first | (rw [if_pos (by omega)]; done) | rw [if_neg (by omega)]) ?_
          exact inner s (by omega) (fun M2 hs2 hd2 => by
            refine j_iinc (n := 86) (y := nI (s + 1)) (lv2 := [some (.ref 110), some (.ref 17), some (.ref (17 + 5 + 2 * k)), some (.int (nI pd)), some (.int (nI (s + 1))), none, none]) dX8_wearAll_83 rfl rfl (by decide) rfl (show nI s + nI 1 = nI (s + 1) by rw [nI_add]) rfl ?_
            refine j_goto (n := 3) dX8_wearAll_86 rfl ?_
            exact ih _ (by omega) (s + 1) M2 rfl (by omega) hs2 (fun t m h1 h2 h3 => hd2 t m (by omega) h2 h3)) _ 0 M1 rfl (Nat.zero_le _) hsc hdn
  refine j_iconst (n := 1) (v := nI 0) dX8_wearAll_0 rfl rfl ?_
  refine j_istore (n := 3) (lv2 := [some (.ref 110), some (.ref 17), some (.ref (17 + 5 + 2 * k)), some (.int (nI pd)), some (.int (nI 0)), none, none]) dX8_wearAll_1 rfl rfl (by decide) rfl ?_
  exact outer _ 0 M rfl (Nat.zero_le _) (wsc.rf M) (fun t m h _ _ => by omega)
