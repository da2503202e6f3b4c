-- CLASS V: by program (wip/whole/gen/c22.py)
theorem cs_w1 {key : Nat} {s : CSt} {b : Bool} {y : (Nat → Nat) × Sps × List Nat} (h : cs key s = some (b, y)) (h1 : s.2.1 19 = 3) (h2 : ¬ s.2.1 21 = 41) : b = decide (1 = 1) := (cs_w h).2 ⟨h1, h2⟩
theorem cs_w0 {key : Nat} {s : CSt} {b : Bool} {y : (Nat → Nat) × Sps × List Nat} (h : cs key s = some (b, y)) (h1 : ¬ (s.2.1 19 = 3 ∧ ¬ s.2.1 21 = 41)) : b = decide (0 = 1) := by
  cases b with
  | false => rfl
  | true => exact (h1 ((cs_w h).1 rfl)).elim
theorem keyW_19 {T F : Nat → Nat} (h : ¬ keyW T F = 3) : F 19 = 1 := by
  unfold keyW at h
  split at h
  · rename_i e; exact e.1
  · split at h
    · rename_i e; exact e.1
    · split at h
      · rename_i e; exact e.1
      · exact (h rfl).elim
theorem ffP_jam {M : zMem} {X : zX} {T E0 : Nat → Nat} {key : Nat} {q : Nat → Nat} {R : Nat → Int32} {o : Nat → Nat} {r : Int32} {s1 : CSt} (hkey : key = keyW T (nextF T E0)) (k3 : key < 3) (k6 : q 6 = key) (rc : rch T key (true, nextF T (nextF T E0), [], []) s1) (h17 : s1.2.1 17 ≤ 96) (hj : jam key s1) (hr : r = nI (s1.2.1 17)) : ffP M X T E0 r (pq M q R o) X := by
  subst hkey
  exact ⟨rfl, q, R, o, rfl, .inr ⟨k3, k6, s1, rc, h17, .inl ⟨hj, hr⟩⟩⟩
theorem ffP_end {M : zMem} {X : zX} {T E0 : Nat → Nat} {key : Nat} {q : Nat → Nat} {R : Nat → Int32} {o : Nat → Nat} {r : Int32} {s1 : CSt} {O2 : List Nat} (hkey : key = keyW T (nextF T E0)) (k3 : key < 3) (k6 : q 6 = key) (rc : rch T key (true, nextF T (nextF T E0), [], []) s1) (h17 : s1.2.1 17 ≤ 96) (a1 : s1.2.1 19 = 0) (a2 : s1.1 = false) (a3 : s1.2.1 22 = 0) (hr : r = -1) (a7 : q 7 = s1.2.1 26) (hp : pst key q R o (clD 1 s1.2.2.2 s1.2.2.1).2 O2) : ffP M X T E0 r (pq M q R o) X := by
  subst hkey
  exact ⟨rfl, q, R, o, rfl, .inr ⟨k3, k6, s1, rc, h17, .inr ⟨a1, a2, a3, hr, a7, O2, hp⟩⟩⟩
theorem k_ff6 (d : Nat) (G : zG) (M : zMem) (X : zX) (hr : kR X) (hb : xR X 118 0 = some 122) (T : Nat → Nat) (hT : tpC M T) (hT2 : ∀ i, T i ≤ 255) (q : Nat → Nat) (R : Nat → Int32) (o : Nat → Nat) (hf : zFm G) (n : Nat) (E0 : Nat → Nat) (e1 : q 1 = E0 16) (hL : q 1 ≤ 96) (e3 : q 3 = 0) (e4 : q 4 = 0) (e18 : E0 18 = 0) (e7 : q 7 = 0) (e9 : q 9 = 0) (e11 : q 11 = 0) (e12 : q 12 = 0) (e13 : q 13 = 0) (f22 : E0 22 = 0) (f23 : E0 23 = 0) (f26 : E0 26 = 0) : zAt G miX2_findFault (zRm (d + 6) 0 0) (zQ G (zIr (ffP M X T E0)) 0 0) 6 [some (.ref 118), some (.ref 122), some (.int (nI n)), none, none] [] (pq M q R o) X (0, 0) := by
  obtain ⟨key, hkey⟩ : ∃ key, key = keyW T (nextF T E0) := ⟨_, rfl⟩
  have e35 : key < 3 → ∀ (j i w : Nat) (E : Nat → Nat) (Rw : Sps) (O : List Nat) (q1 : Nat → Nat) (R1 : Nat → Int32) (o1 : Nat → Nat), 97 - i = j → i ≤ q1 3 → w ≤ 1 → prs key q1 R1 o1 (decide (w = 1), E, Rw, O) → pI (decide (w = 1), E, Rw, O) → tokQ T q1 E → ¬ E 19 = 4 → q1 1 ≤ 96 → O.length + Rw.length ≤ q1 3 → q1 6 = key → rch T key (true, nextF T (nextF T E0), [], []) (decide (w = 1), nextF T E, Rw, O) → zAt G miX2_findFault (zRm (d + 6) 0 0) (zQ G (zIr (ffP M X T E0)) 0 0) 35 [some (.ref 118), some (.ref 122), some (.int (nI n)), some (.int (nI w)), some (.int (nI i))] [] (pq M q1 R1 o1) X (0, 0) := by
    intro k3 j
    induction j using Nat.strongRecOn with
    | ind j ih =>
      intro i w E Rw O q1 R1 o1 hj hi3 hw1 pr0 pi0 tk0 n4 hL1 hln k60 rc
      have c0 := tk0.1
      refine j_iload (n := 37) dX2_findFault_35 rfl rfl ?_
      refine j_bipush (n := 39) (v := nI 96) dX2_findFault_37 rfl (by decide) ?_
      refine j_icmp_gtT (n := 42) (tg := 123) dX2_findFault_39 rfl rfl (i_N (by omega)) (i_N (by omega)) (fun h101 => ?_) (fun h101 => ?_)
      · exfalso; omega
      · refine j_aload_n (n := 43) dX2_findFault_42 rfl rfl ?_
        refine j_cVv (n := 46) dX2_findFault_43 rfl sX2_26 (k_next (d + 4) G _ _ hr hb T hT hT2 _ _ _ (by omega) (by omega) (by omega)) (by omega) (by decide) rfl rfl (Nat.le_of_ble_eq_true rfl) (hr.a (a := 118) rfl (by decide) rfl).1 (by decide) (hr.hi (by decide)) (by decide) (by decide) ?_
        obtain ⟨q2, hq2⟩ : ∃ q2, q2 = nextQ T q1 := ⟨_, rfl⟩
        rw [← hq2]
        have tk : tokQ T q2 (nextF T E) := by rw [hq2]; exact tok_next c0.1 c0.2.2.1 c0.2.2.2.2.2.1 (tok_bw tk0 n4)
        have pr : prs key q2 R1 o1 (decide (w = 1), nextF T E, Rw, O) := by rw [hq2]; exact prs_next pr0
        have pi := pI_next (T := T) pi0
        have tkc := tk
        obtain ⟨⟨t1, t2, t3, t4, t5, t6, t7⟩, u0, u1, u2, u3, u4⟩ := tkc
        have k6 : q2 6 = key := by rw [hq2]; exact k60
        have k1 : q2 1 = q1 1 := by rw [hq2]; rfl
        have hst : q1 3 ≤ q2 2 := by rw [hq2]; exact fi_ge _ _ _
        have h17 : nextF T E 17 ≤ 96 := by omega
        have h22 : q2 12 = nextF T E 22 := pr.2.2.1
        have i22 : nextF T E 22 ≤ 8 := pi.2.2.2.1
        have n3 : q2 5 = 0 → ¬ q2 4 = 3 → ¬ nextF T E 19 = 3 := by
          intro h5 z z3
          by_cases z0 : q2 4 = 0
          · have := (u0 z0).1; omega
          · by_cases z1 : q2 4 = 1
            · have := (u2 z1).1; rw [h5] at this; have e : nextF T E 19 = 1 := this; omega
            · have := (u3 (by omega)).1; split at this <;> omega
        have n5 : ¬ q2 4 = 0 → ¬ q2 5 = 0 → nextF T E 19 = 4 := by
          intro z0 z5
          by_cases z1 : q2 4 = 1
          · rw [(u2 z1).1, if_pos (by omega)]
          · by_cases z2 : q2 4 = 2
            · rw [(u3 z2).1, if_pos (by omega)]
            · have := u4 (by omega); omega
        have n0 : ¬ q2 4 = 0 → ¬ nextF T E 19 = 0 := by
          intro z0
          by_cases z1 : q2 4 = 1
          · rw [(u2 z1).1]; split <;> decide
          · by_cases z2 : q2 4 = 2
            · rw [(u3 z2).1]; split <;> decide
            · rw [(u4 (by omega)).1]; decide
        refine j_aload_n (n := 47) dX2_findFault_46 rfl rfl ?_
        refine jc_get (n := 50) (k := 4) (v := nI (q2 4)) dX2_findFault_47 rfl fX2_40 (hr.a (a := 118) rfl (by decide) rfl).1 (by decide) (hr.hi (by decide)) (pq_q _ _ _ _ _) ?_
        refine j_if_neN (n := 53) (tg := 56) dX2_findFault_50 rfl rfl (by omega) (fun h102 => ?_) (fun h102 => ?_)
        · refine j_aload_n (n := 57) dX2_findFault_56 rfl rfl ?_
          refine jc_get (n := 60) (k := 5) (v := nI (q2 5)) dX2_findFault_57 rfl fX2_43 (hr.a (a := 118) rfl (by decide) rfl).1 (by decide) (hr.hi (by decide)) (pq_q _ _ _ _ _) ?_
          refine j_if_neN (n := 63) (tg := 84) dX2_findFault_60 rfl rfl (by omega) (fun h103 => ?_) (fun h103 => ?_)
          · refine j_aload_n (n := 85) dX2_findFault_84 rfl rfl ?_
            refine jc_get (n := 88) (k := 2) (v := nI (q2 2)) dX2_findFault_85 rfl fX2_37 (hr.a (a := 118) rfl (by decide) rfl).1 (by decide) (hr.hi (by decide)) (pq_q _ _ _ _ _) ?_
            exact j_iret dX2_findFault_88 rfl rfl (Nat.le_refl _) (Nat.le_refl _) ⟨_, rfl, ffP_jam hkey k3 k6 rc h17 ⟨cs_e (.inr (n5 (by omega) (by omega))), .inl (n0 (by omega))⟩ (congrArg nI (by show q2 2 = nextF T E 17; omega))⟩
          · refine j_iload_n (n := 64) dX2_findFault_63 rfl rfl ?_
            refine j_if_eqN (n := 67) (tg := 77) dX2_findFault_64 rfl rfl (by omega) (fun h104 => ?_) (fun h104 => ?_)
            · have ew : decide (w = 1) = false := decide_eq_false (by omega)
              rw [ew] at pr pi rc
              refine j_aload_n (n := 78) dX2_findFault_77 rfl rfl ?_
              refine j_cVr (n := 81) dX2_findFault_78 rfl sX2_51 (k_takesSign (d + 2) G _ _ hr hb T hT hT2 _ _ _ key (nextF T E) Rw O pr pi tk (by omega) (by omega) (by omega) (by omega)) (by omega) (by decide) rfl rfl (Nat.le_of_ble_eq_true rfl) (hr.a (a := 118) rfl (by decide) rfl).1 (by decide) (hr.hi (by decide)) (by decide) (by decide) (fun r9 N9 Y9 hh9 => ?_)
              obtain ⟨e29, q9, R9, o9, g91, e39, g92⟩ := hh9
              rw [e29, e39]
              have a1 : q9 1 = q2 1 := g91 1 (by decide)
              have a2 : q9 2 = q2 2 := g91 2 (by decide)
              have aT : T (q9 2) = T (q2 2) := by rw [a2]
              have a3 : q9 3 = q2 3 := g91 3 (by decide)
              have a4 : q9 4 = q2 4 := g91 4 (by decide)
              have a6 : q9 6 = q2 6 := g91 6 (by decide)
              have v1 := u1 (by omega)
              cases hcs : cs key (false, nextF T E, Rw, O) with
              | none =>
                rw [hcs] at g92
                refine j_top (show r9 = nI 0 from g92) ?_
                refine j_if_neN (n := 84) (tg := 89) dX2_findFault_81 rfl rfl (by omega) (fun h105 => ?_) (fun h105 => ?_)
                · exact absurd h105 (by decide)
                · refine j_aload_n (n := 85) dX2_findFault_84 rfl rfl ?_
                  refine jc_get (n := 88) (k := 2) (v := nI (q9 2)) dX2_findFault_85 rfl fX2_37 (hr.a (a := 118) rfl (by decide) rfl).1 (by decide) (hr.hi (by decide)) (pq_q _ _ _ _ _) ?_
                  exact j_iret dX2_findFault_88 rfl rfl (Nat.le_refl _) (Nat.le_refl _) ⟨_, rfl, ffP_jam hkey k3 (a6.trans k6) rc h17 ⟨hcs, .inl (n0 (by omega))⟩ (congrArg nI (by show q9 2 = nextF T E 17; omega))⟩
              | some s1 =>
                rw [hcs] at g92
                refine j_top (show r9 = nI 1 from g92.1) ?_
                obtain ⟨b1, E1, Rw1, O1⟩ := s1
                have g93 := g92.2
                have hsb := sb_int (hT2 (q9 2))
                have hcl := cs_len hcs
                dsimp only at hcl
                refine j_if_neN (n := 84) (tg := 89) dX2_findFault_81 rfl rfl (by omega) (fun h106 => ?_) (fun h106 => ?_)
                · refine j_aload_n (n := 90) dX2_findFault_89 rfl rfl ?_
                  refine jc_get (n := 93) (k := 4) (v := nI (q9 4)) dX2_findFault_90 rfl fX2_40 (hr.a (a := 118) rfl (by decide) rfl).1 (by decide) (hr.hi (by decide)) (pq_q _ _ _ _ _) ?_
                  refine j_iconst (n := 94) (v := nI 3) dX2_findFault_93 rfl rfl ?_
                  refine j_icmp_neT (n := 97) (tg := 115) dX2_findFault_94 rfl rfl (i_N (by omega)) (i_N (by omega)) (fun h107 => ?_) (fun h107 => ?_)
                  · refine j_iconst (n := 116) (v := nI 0) dX2_findFault_115 rfl rfl ?_
                    refine j_istore_n (n := 117) (lv2 := [some (.ref 118), some (.ref 122), some (.int (nI n)), some (.int (nI 0)), some (.int (nI i))]) dX2_findFault_116 rfl rfl (by decide) rfl ?_
                    refine j_iinc (n := 120) (y := nI (i + 1)) (lv2 := [some (.ref 118), some (.ref 122), some (.int (nI n)), some (.int (nI 0)), some (.int (nI (i + 1)))]) dX2_findFault_117 rfl rfl (by decide) rfl (show nI i + nI 1 = nI (i + 1) by rw [nI_add]) rfl ?_
                    refine j_goto (n := 35) dX2_findFault_120 rfl ?_
                    have ew1 := cs_w0 hcs (fun z => by have z1 : nextF T E 19 = 3 := z.1; have z2 : ¬ nextF T E 21 = 41 := z.2; have := n3 (by omega); have := u4; omega)
                    rw [ew1] at hcs
                    exact ih _ (by omega) (i + 1) 0 E1 Rw1 O1 q9 R9 o9 rfl (by omega) (by decide) g93 (cs_pI hcs pi) (tok_cg tk g91 (cs_fl hcs)) (fun z => cs_n4 hcs ((cs_fl hcs 19 (by decide)).symm.trans z)) (by omega) (by omega) (a6.trans k6) (rc.tr (rch.one hcs))
                  · refine j_aload_n (n := 98) dX2_findFault_97 rfl rfl ?_
                    refine j_getr (n := 101) (k := 0) (b := 122) dX2_findFault_98 rfl fX2_9 (hr.a (a := 118) rfl (by decide) rfl).1 (by decide) (hr.hi (by decide)) hb ?_
                    refine j_aload_n (n := 102) dX2_findFault_101 rfl rfl ?_
                    refine jc_get (n := 105) (k := 2) (v := nI (q9 2)) dX2_findFault_102 rfl fX2_37 (hr.a (a := 118) rfl (by decide) rfl).1 (by decide) (hr.hi (by decide)) (pq_q _ _ _ _ _) ?_
                    refine j_baldN (n := 106) (L := 96) (a := 122) (i := q9 2) (v := sb (T (q9 2))) dX2_findFault_105 rfl (hr.a (a := 122) rfl (by decide) rfl).1 (hr.a (a := 122) rfl (by decide) rfl).2 (by omega) (by decide) (by decide) (hr.hi (by decide)) ((congrFun (pq_n _ _ _ _ (by decide) (by decide) (by decide)) _).trans (hT _ (by omega))) ?_
                    refine j_bipush (n := 108) (v := nI 41) dX2_findFault_106 rfl (by decide) ?_
                    refine j_icmp_eqT (n := 111) (tg := 115) dX2_findFault_108 rfl rfl rfl (i_N (by omega)) (fun h108 => ?_) (fun h108 => ?_)
                    · refine j_iconst (n := 116) (v := nI 0) dX2_findFault_115 rfl rfl ?_
                      refine j_istore_n (n := 117) (lv2 := [some (.ref 118), some (.ref 122), some (.int (nI n)), some (.int (nI 0)), some (.int (nI i))]) dX2_findFault_116 rfl rfl (by decide) rfl ?_
                      refine j_iinc (n := 120) (y := nI (i + 1)) (lv2 := [some (.ref 118), some (.ref 122), some (.int (nI n)), some (.int (nI 0)), some (.int (nI (i + 1)))]) dX2_findFault_117 rfl rfl (by decide) rfl (show nI i + nI 1 = nI (i + 1) by rw [nI_add]) rfl ?_
                      refine j_goto (n := 35) dX2_findFault_120 rfl ?_
                      have ew1 := cs_w0 hcs (fun z => by have z1 : nextF T E 19 = 3 := z.1; have z2 : ¬ nextF T E 21 = 41 := z.2; have := n3 (by omega); have := u4; omega)
                      rw [ew1] at hcs
                      exact ih _ (by omega) (i + 1) 0 E1 Rw1 O1 q9 R9 o9 rfl (by omega) (by decide) g93 (cs_pI hcs pi) (tok_cg tk g91 (cs_fl hcs)) (fun z => cs_n4 hcs ((cs_fl hcs 19 (by decide)).symm.trans z)) (by omega) (by omega) (a6.trans k6) (rc.tr (rch.one hcs))
                    · refine j_iconst (n := 112) (v := nI 1) dX2_findFault_111 rfl rfl ?_
                      refine j_goto (n := 116) dX2_findFault_112 rfl ?_
                      refine j_istore_n (n := 117) (lv2 := [some (.ref 118), some (.ref 122), some (.int (nI n)), some (.int (nI 1)), some (.int (nI i))]) dX2_findFault_116 rfl rfl (by decide) rfl ?_
                      refine j_iinc (n := 120) (y := nI (i + 1)) (lv2 := [some (.ref 118), some (.ref 122), some (.int (nI n)), some (.int (nI 1)), some (.int (nI (i + 1)))]) dX2_findFault_117 rfl rfl (by decide) rfl (show nI i + nI 1 = nI (i + 1) by rw [nI_add]) rfl ?_
                      refine j_goto (n := 35) dX2_findFault_120 rfl ?_
                      have ew1 := cs_w1 hcs (u4 (by omega)).1 (by have := (u4 (by omega)).2.1; show ¬ nextF T E 21 = 41; omega)
                      rw [ew1] at hcs
                      exact ih _ (by omega) (i + 1) 1 E1 Rw1 O1 q9 R9 o9 rfl (by omega) (by decide) g93 (cs_pI hcs pi) (tok_cg tk g91 (cs_fl hcs)) (fun z => cs_n4 hcs ((cs_fl hcs 19 (by decide)).symm.trans z)) (by omega) (by omega) (a6.trans k6) (rc.tr (rch.one hcs))
                · exact absurd h106 (by decide)
            · have ew : decide (w = 1) = true := decide_eq_true (by omega)
              rw [ew] at pr pi rc
              refine j_aload_n (n := 68) dX2_findFault_67 rfl rfl ?_
              refine j_cVr (n := 71) dX2_findFault_68 rfl sX2_47 (k_takesPiece d G _ _ hr hb T hT hT2 _ _ _ key (nextF T E) Rw O pr pi tk (by omega) (by omega) hf (by omega) (by omega) k6 (by omega)) (by omega) (by decide) rfl rfl (Nat.le_of_ble_eq_true rfl) (hr.a (a := 118) rfl (by decide) rfl).1 (by decide) (hr.hi (by decide)) (by decide) (by decide) (fun r9 N9 Y9 hh9 => ?_)
              obtain ⟨e29, q9, R9, o9, g91, e39, g92⟩ := hh9
              rw [e29, e39]
              have a1 : q9 1 = q2 1 := g91 1 (by decide)
              have a2 : q9 2 = q2 2 := g91 2 (by decide)
              have aT : T (q9 2) = T (q2 2) := by rw [a2]
              have a3 : q9 3 = q2 3 := g91 3 (by decide)
              have a4 : q9 4 = q2 4 := g91 4 (by decide)
              have a6 : q9 6 = q2 6 := g91 6 (by decide)
              have v1 := u1 (by omega)
              cases hcs : cs key (true, nextF T E, Rw, O) with
              | none =>
                rw [hcs] at g92
                refine j_top (show r9 = nI 0 from g92) ?_
                refine j_if_eqN (n := 74) (tg := 84) dX2_findFault_71 rfl rfl (by omega) (fun h109 => ?_) (fun h109 => ?_)
                · refine j_aload_n (n := 85) dX2_findFault_84 rfl rfl ?_
                  refine jc_get (n := 88) (k := 2) (v := nI (q9 2)) dX2_findFault_85 rfl fX2_37 (hr.a (a := 118) rfl (by decide) rfl).1 (by decide) (hr.hi (by decide)) (pq_q _ _ _ _ _) ?_
                  exact j_iret dX2_findFault_88 rfl rfl (Nat.le_refl _) (Nat.le_refl _) ⟨_, rfl, ffP_jam hkey k3 (a6.trans k6) rc h17 ⟨hcs, .inl (n0 (by omega))⟩ (congrArg nI (by show q9 2 = nextF T E 17; omega))⟩
                · exact absurd h109 (by decide)
              | some s1 =>
                rw [hcs] at g92
                refine j_top (show r9 = nI 1 from g92.1) ?_
                obtain ⟨b1, E1, Rw1, O1⟩ := s1
                have g93 := g92.2
                have hsb := sb_int (hT2 (q9 2))
                have hcl := cs_len hcs
                dsimp only at hcl
                refine j_if_eqN (n := 74) (tg := 84) dX2_findFault_71 rfl rfl (by omega) (fun h110 => ?_) (fun h110 => ?_)
                · exact absurd h110 (by decide)
                · refine j_goto (n := 89) dX2_findFault_74 rfl ?_
                  refine j_aload_n (n := 90) dX2_findFault_89 rfl rfl ?_
                  refine jc_get (n := 93) (k := 4) (v := nI (q9 4)) dX2_findFault_90 rfl fX2_40 (hr.a (a := 118) rfl (by decide) rfl).1 (by decide) (hr.hi (by decide)) (pq_q _ _ _ _ _) ?_
                  refine j_iconst (n := 94) (v := nI 3) dX2_findFault_93 rfl rfl ?_
                  refine j_icmp_neT (n := 97) (tg := 115) dX2_findFault_94 rfl rfl (i_N (by omega)) (i_N (by omega)) (fun h111 => ?_) (fun h111 => ?_)
                  · refine j_iconst (n := 116) (v := nI 0) dX2_findFault_115 rfl rfl ?_
                    refine j_istore_n (n := 117) (lv2 := [some (.ref 118), some (.ref 122), some (.int (nI n)), some (.int (nI 0)), some (.int (nI i))]) dX2_findFault_116 rfl rfl (by decide) rfl ?_
                    refine j_iinc (n := 120) (y := nI (i + 1)) (lv2 := [some (.ref 118), some (.ref 122), some (.int (nI n)), some (.int (nI 0)), some (.int (nI (i + 1)))]) dX2_findFault_117 rfl rfl (by decide) rfl (show nI i + nI 1 = nI (i + 1) by rw [nI_add]) rfl ?_
                    refine j_goto (n := 35) dX2_findFault_120 rfl ?_
                    have ew1 := cs_w0 hcs (fun z => by have z1 : nextF T E 19 = 3 := z.1; have z2 : ¬ nextF T E 21 = 41 := z.2; have := n3 (by omega); have := u4; omega)
                    rw [ew1] at hcs
                    exact ih _ (by omega) (i + 1) 0 E1 Rw1 O1 q9 R9 o9 rfl (by omega) (by decide) g93 (cs_pI hcs pi) (tok_cg tk g91 (cs_fl hcs)) (fun z => cs_n4 hcs ((cs_fl hcs 19 (by decide)).symm.trans z)) (by omega) (by omega) (a6.trans k6) (rc.tr (rch.one hcs))
                  · refine j_aload_n (n := 98) dX2_findFault_97 rfl rfl ?_
                    refine j_getr (n := 101) (k := 0) (b := 122) dX2_findFault_98 rfl fX2_9 (hr.a (a := 118) rfl (by decide) rfl).1 (by decide) (hr.hi (by decide)) hb ?_
                    refine j_aload_n (n := 102) dX2_findFault_101 rfl rfl ?_
                    refine jc_get (n := 105) (k := 2) (v := nI (q9 2)) dX2_findFault_102 rfl fX2_37 (hr.a (a := 118) rfl (by decide) rfl).1 (by decide) (hr.hi (by decide)) (pq_q _ _ _ _ _) ?_
                    refine j_baldN (n := 106) (L := 96) (a := 122) (i := q9 2) (v := sb (T (q9 2))) dX2_findFault_105 rfl (hr.a (a := 122) rfl (by decide) rfl).1 (hr.a (a := 122) rfl (by decide) rfl).2 (by omega) (by decide) (by decide) (hr.hi (by decide)) ((congrFun (pq_n _ _ _ _ (by decide) (by decide) (by decide)) _).trans (hT _ (by omega))) ?_
                    refine j_bipush (n := 108) (v := nI 41) dX2_findFault_106 rfl (by decide) ?_
                    refine j_icmp_eqT (n := 111) (tg := 115) dX2_findFault_108 rfl rfl rfl (i_N (by omega)) (fun h112 => ?_) (fun h112 => ?_)
                    · refine j_iconst (n := 116) (v := nI 0) dX2_findFault_115 rfl rfl ?_
                      refine j_istore_n (n := 117) (lv2 := [some (.ref 118), some (.ref 122), some (.int (nI n)), some (.int (nI 0)), some (.int (nI i))]) dX2_findFault_116 rfl rfl (by decide) rfl ?_
                      refine j_iinc (n := 120) (y := nI (i + 1)) (lv2 := [some (.ref 118), some (.ref 122), some (.int (nI n)), some (.int (nI 0)), some (.int (nI (i + 1)))]) dX2_findFault_117 rfl rfl (by decide) rfl (show nI i + nI 1 = nI (i + 1) by rw [nI_add]) rfl ?_
                      refine j_goto (n := 35) dX2_findFault_120 rfl ?_
                      have ew1 := cs_w0 hcs (fun z => by have z1 : nextF T E 19 = 3 := z.1; have z2 : ¬ nextF T E 21 = 41 := z.2; have := n3 (by omega); have := u4; omega)
                      rw [ew1] at hcs
                      exact ih _ (by omega) (i + 1) 0 E1 Rw1 O1 q9 R9 o9 rfl (by omega) (by decide) g93 (cs_pI hcs pi) (tok_cg tk g91 (cs_fl hcs)) (fun z => cs_n4 hcs ((cs_fl hcs 19 (by decide)).symm.trans z)) (by omega) (by omega) (a6.trans k6) (rc.tr (rch.one hcs))
                    · refine j_iconst (n := 112) (v := nI 1) dX2_findFault_111 rfl rfl ?_
                      refine j_goto (n := 116) dX2_findFault_112 rfl ?_
                      refine j_istore_n (n := 117) (lv2 := [some (.ref 118), some (.ref 122), some (.int (nI n)), some (.int (nI 1)), some (.int (nI i))]) dX2_findFault_116 rfl rfl (by decide) rfl ?_
                      refine j_iinc (n := 120) (y := nI (i + 1)) (lv2 := [some (.ref 118), some (.ref 122), some (.int (nI n)), some (.int (nI 1)), some (.int (nI (i + 1)))]) dX2_findFault_117 rfl rfl (by decide) rfl (show nI i + nI 1 = nI (i + 1) by rw [nI_add]) rfl ?_
                      refine j_goto (n := 35) dX2_findFault_120 rfl ?_
                      have ew1 := cs_w1 hcs (u4 (by omega)).1 (by have := (u4 (by omega)).2.1; show ¬ nextF T E 21 = 41; omega)
                      rw [ew1] at hcs
                      exact ih _ (by omega) (i + 1) 1 E1 Rw1 O1 q9 R9 o9 rfl (by omega) (by decide) g93 (cs_pI hcs pi) (tok_cg tk g91 (cs_fl hcs)) (fun z => cs_n4 hcs ((cs_fl hcs 19 (by decide)).symm.trans z)) (by omega) (by omega) (a6.trans k6) (rc.tr (rch.one hcs))
        · refine j_goto (n := 123) dX2_findFault_53 rfl ?_
          refine j_iload_n (n := 124) dX2_findFault_123 rfl rfl ?_
          refine j_if_neN (n := 127) (tg := 134) dX2_findFault_124 rfl rfl (by omega) (fun h113 => ?_) (fun h113 => ?_)
          · refine j_aload_n (n := 135) dX2_findFault_134 rfl rfl ?_
            refine jc_get (n := 138) (k := 1) (v := nI (q2 1)) dX2_findFault_135 rfl fX2_57 (hr.a (a := 118) rfl (by decide) rfl).1 (by decide) (hr.hi (by decide)) (pq_q _ _ _ _ _) ?_
            exact j_iret dX2_findFault_138 rfl rfl (Nat.le_refl _) (Nat.le_refl _) ⟨_, rfl, ffP_jam hkey k3 k6 rc h17 ⟨cs_e (.inl (u0 (by omega)).1), by first | exact .inr (.inl (decide_eq_true (by omega))) | exact .inr (.inr (by show ¬ nextF T E 22 = 0; omega))⟩ (congrArg nI (by have := (u0 (by omega)).2; show q2 1 = nextF T E 17; omega))⟩
          · refine j_aload_n (n := 128) dX2_findFault_127 rfl rfl ?_
            refine jc_get (n := 131) (k := 12) (v := nI (q2 12)) dX2_findFault_128 rfl fX2_54 (hr.a (a := 118) rfl (by decide) rfl).1 (by decide) (hr.hi (by decide)) (pq_q _ _ _ _ _) ?_
            refine j_if_leM (n := 134) (tg := 139) dX2_findFault_131 rfl rfl (by omega) (fun h114 => ?_) (fun h114 => ?_)
            · refine j_aload_n (n := 140) dX2_findFault_139 rfl rfl ?_
              refine j_iconst (n := 141) (v := nI 1) dX2_findFault_140 rfl rfl ?_
              refine j_cVvr (n := 144) dX2_findFault_141 rfl sX2_60 (k_closeDownTo (d + 4) G _ _ hr _ _ _ key 1 (by decide) Rw O pr.1 pi.2.2.2.2.2.s (by omega)) (by omega) (by decide) rfl rfl (Nat.le_of_ble_eq_true rfl) (hr.a (a := 118) rfl (by decide) rfl).1 (by decide) (hr.hi (by decide)) (by decide) (by decide) (fun N7 Y7 hh7 => ?_)
              obtain ⟨e27, q7, R7, g71, g73, e37⟩ := hh7
              rw [e27, e37]
              refine j_iconst (n := 145) (v := (-1)) dX2_findFault_144 rfl rfl ?_
              exact j_iret dX2_findFault_145 rfl rfl (Nat.le_refl _) (Nat.le_refl _) ⟨_, rfl, ffP_end hkey k3 ((g71 6 (by decide) (by decide)).trans k6) rc h17 (u0 (by omega)).1 (decide_eq_false (by omega)) (by show nextF T E 22 = 0; omega) rfl ((g71 7 (by decide) (by decide)).trans pr.2.1) g73⟩
            · refine j_aload_n (n := 135) dX2_findFault_134 rfl rfl ?_
              refine jc_get (n := 138) (k := 1) (v := nI (q2 1)) dX2_findFault_135 rfl fX2_57 (hr.a (a := 118) rfl (by decide) rfl).1 (by decide) (hr.hi (by decide)) (pq_q _ _ _ _ _) ?_
              exact j_iret dX2_findFault_138 rfl rfl (Nat.le_refl _) (Nat.le_refl _) ⟨_, rfl, ffP_jam hkey k3 k6 rc h17 ⟨cs_e (.inl (u0 (by omega)).1), by first | exact .inr (.inl (decide_eq_true (by omega))) | exact .inr (.inr (by show ¬ nextF T E 22 = 0; omega))⟩ (congrArg nI (by have := (u0 (by omega)).2; show q2 1 = nextF T E 17; omega))⟩
  refine j_aload_n (n := 7) dX2_findFault_6 rfl rfl ?_
  refine j_cVv (n := 10) dX2_findFault_7 rfl sX2_26 (k_next (d + 4) G _ _ hr hb T hT hT2 _ _ _ (by omega) (by omega) (by omega)) (by omega) (by decide) rfl rfl (Nat.le_of_ble_eq_true rfl) (hr.a (a := 118) rfl (by decide) rfl).1 (by decide) (hr.hi (by decide)) (by decide) (by decide) ?_
  obtain ⟨qa, hqa⟩ : ∃ qa, qa = nextQ T q := ⟨_, rfl⟩
  rw [← hqa]
  have ebw : bwQ q = 0 := by unfold bwQ; rw [if_neg (by omega)]
  have tka : tokQ T qa (nextF T E0) := by rw [hqa]; exact tok_next e1 (by omega) (by omega) (by omega)
  have k5 : qa 5 = 0 := by rw [hqa]; show nbQ (bwQ q) _ _ = 0; unfold nbQ; rw [if_neg (by omega)]
  have tkc := tka
  obtain ⟨⟨t1, t2, t3, t4, t5, t6, t7⟩, u0, u1, u2, u3, u4⟩ := tkc
  have k1 : qa 1 = q 1 := by rw [hqa]; rfl
  have m9 : qa 9 = q 9 := by rw [hqa]; rfl
  have m11 : qa 11 = q 11 := by rw [hqa]; rfl
  have m7 : qa 7 = q 7 := by rw [hqa]; rfl
  have m12 : qa 12 = q 12 := by rw [hqa]; rfl
  have m13 : qa 13 = q 13 := by rw [hqa]; rfl
  have p22 := next_i T E0 22 (by decide)
  have p23 := next_i T E0 23 (by decide)
  have p26 := next_i T E0 26 (by decide)
  refine j_aload_n (n := 11) dX2_findFault_10 rfl rfl ?_
  refine j_aload_n (n := 12) dX2_findFault_11 rfl rfl ?_
  refine j_cV (n := 15) dX2_findFault_12 rfl sX2_29 (k_keyAtHand d G _ _ hr hb T hT hT2 _ _ _ hf (by omega) (by omega)) (by omega) (by decide) rfl rfl (Nat.le_of_ble_eq_true rfl) (hr.a (a := 118) rfl (by decide) rfl).1 (by decide) (hr.hi (by decide)) (by decide) (by decide) ?_
  by_cases hk3 : key = 3
  · have ek : keyV (keyQ T qa) = nI 4294967295 := by rw [keyQ_W tka k5, ← hkey, hk3]; decide
    refine j_top ek ?_
    refine jc_put (n := 18) (k := 6) (x := nI 4294967295) (M2 := pq M (pu qa 6 4294967295) R o) dX2_findFault_15 rfl pX2_33 (fun h => by cases h) rfl rfl (hr.a (a := 118) rfl (by decide) rfl).1 (by decide) (hr.hi (by decide)) (pq_wq rfl) ?_
    refine j_aload_n (n := 19) dX2_findFault_18 rfl rfl ?_
    refine jc_get (n := 22) (k := 6) (v := nI 4294967295) dX2_findFault_19 rfl fX2_33 (hr.a (a := 118) rfl (by decide) rfl).1 (by decide) (hr.hi (by decide)) ((pq_q _ _ _ _ _).trans (congrArg nI (by repeat (first | rw [pu_eq] | rw [pu_ne _ _ (by decide)])))) ?_
    refine j_top (y := (-1)) (by decide) ?_
    refine j_if_geT (n := 25) (tg := 30) dX2_findFault_22 rfl rfl (fun h115 => ?_) (fun h115 => ?_)
    · exfalso; revert h115; decide
    · refine j_aload_n (n := 26) dX2_findFault_25 rfl rfl ?_
      refine jc_get (n := 29) (k := 2) (v := nI (qa 2)) dX2_findFault_26 rfl fX2_37 (hr.a (a := 118) rfl (by decide) rfl).1 (by decide) (hr.hi (by decide)) ((pq_q _ _ _ _ _).trans (congrArg nI (by repeat rw [pu_ne _ _ (by decide)]))) ?_
      exact j_iret dX2_findFault_29 rfl rfl (Nat.le_refl _) (Nat.le_refl _) ⟨_, rfl, ⟨rfl, _, _, _, rfl, .inl ⟨hkey.symm.trans hk3, congrArg nI t2⟩⟩⟩
  · have hkle := keyW_le T (nextF T E0)
    have ek : keyV (keyQ T qa) = nI key := by rw [keyQ_W tka k5, ← hkey]; exact if_neg hk3
    refine j_top ek ?_
    refine jc_put (n := 18) (k := 6) (x := nI key) (M2 := pq M (pu qa 6 key) R o) dX2_findFault_15 rfl pX2_33 (fun h => by cases h) rfl rfl (hr.a (a := 118) rfl (by decide) rfl).1 (by decide) (hr.hi (by decide)) (pq_wq rfl) ?_
    refine j_aload_n (n := 19) dX2_findFault_18 rfl rfl ?_
    refine jc_get (n := 22) (k := 6) (v := nI key) dX2_findFault_19 rfl fX2_33 (hr.a (a := 118) rfl (by decide) rfl).1 (by decide) (hr.hi (by decide)) ((pq_q _ _ _ _ _).trans (congrArg nI (by repeat (first | rw [pu_eq] | rw [pu_ne _ _ (by decide)])))) ?_
    refine j_if_geM (n := 25) (tg := 30) dX2_findFault_22 rfl rfl (by omega) (fun h116 => ?_) (fun h116 => ?_)
    · refine j_iconst (n := 31) (v := nI 1) dX2_findFault_30 rfl rfl ?_
      refine j_istore_n (n := 32) (lv2 := [some (.ref 118), some (.ref 122), some (.int (nI n)), some (.int (nI 1)), none]) dX2_findFault_31 rfl rfl (by decide) rfl ?_
      refine j_iconst (n := 33) (v := nI 0) dX2_findFault_32 rfl rfl ?_
      refine j_istore (n := 35) (lv2 := [some (.ref 118), some (.ref 122), some (.int (nI n)), some (.int (nI 1)), some (.int (nI 0))]) dX2_findFault_33 rfl rfl (by decide) rfl ?_
      exact e35 (by omega) _ 0 1 (nextF T E0) [] [] (pu qa 6 key) R o rfl (Nat.zero_le _) (by decide) ⟨⟨by show qa 9 = 0; omega, by show qa 11 = 0; omega, (fun i hi => absurd hi (Nat.not_lt_zero _)), trivial⟩, by show qa 7 = nextF T E0 26; omega, by show qa 12 = nextF T E0 22; omega, by show qa 13 = nextF T E0 23; omega⟩ ⟨trivial, by show 0 = nextF T E0 23; omega, by show 0 = nextF T E0 22; omega, by show nextF T E0 22 ≤ 8; omega, by show nextF T E0 23 ≤ 8; omega, (fun x hx => absurd hx List.not_mem_nil)⟩ tka (by rw [keyW_19 (T := T) (F := nextF T E0) (by rw [← hkey]; exact hk3)]; decide) (by show qa 1 ≤ 96; omega) (Nat.zero_le _) (pu_eq _ _ _) (rch.rf _ _ _)
    · exfalso; omega
theorem k_findFault (d : Nat) (G : zG) (M : zMem) (X : zX) (hr : kR X) (q : Nat → Nat) (R : Nat → Int32) (o : Nat → Nat) (T : Nat → Nat) (hT : tpC M T) (hT2 : ∀ i, T i ≤ 255) (hf : zFm G) (n : Nat) (hn : n ≤ 96) (E0 : Nat → Nat) (e1 : E0 16 = n) (e18 : E0 18 = 0) (f22 : E0 22 = 0) (f23 : E0 23 = 0) (f26 : E0 26 = 0) : zCall G miX2_findFault (d + 6) [.ref 118, .ref 122, .int (nI n)] (zIr (ffP M (XP X) T E0)) (pq M q R o) X 0 0 := by
  refine zCall.of (lv := [some (.ref 118), some (.ref 122), some (.int (nI n)), none, none]) (by decide) (Nat.le_of_ble_eq_true rfl) rfl ?_
  refine j_aload_n (n := 1) dX2_findFault_0 rfl rfl ?_
  refine j_aload_n (n := 2) dX2_findFault_1 rfl rfl ?_
  refine j_iload_n (n := 3) dX2_findFault_2 rfl rfl ?_
  refine j_cVv (n := 6) dX2_findFault_3 rfl sX2_22 (k_begin (d + 4) G _ _ hr _ _ _ n hn) (by omega) (by decide) rfl rfl (Nat.le_of_ble_eq_true rfl) (hr.a (a := 118) rfl (by decide) rfl).1 (by decide) (hr.hi (by decide)) (by decide) (by decide) ?_
  exact k_ff6 d G M (XP X) (kR_ex (exX_XP X) hr) (XP_0 X) T hT hT2 _ R o hf n E0 (show n = E0 16 from e1.symm) hn rfl rfl e18 rfl rfl rfl rfl rfl f22 f23 f26
