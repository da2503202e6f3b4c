-- SIM B: the induction
theorem pstL_5 (F : Nat → Nat) (P : List Nat) : pstL 5 F P := ⟨fun l h1 h2 _ => by omega, fun h => by omega⟩
theorem pstL_stp {lev : Nat} {s : PSt} {w v : Nat} {P Q : List Nat} (h : pstL lev s.1 P) : pstL lev (stp s w v).1 (P ++ Q) :=
  ⟨fun l h1 h2 h3 => by rw [sgL_stp]; exact h.1 l h1 h2 h3, fun h1 h2 => by rw [sgL_stp] at h2; exact has3_app (h.2 h1 h2)⟩
theorem pstL_ag {lev j : Nat} {F E : Nat → Nat} {P : List Nat} (h : pstL lev F P) (ha : agE j F E) : pstL lev E P := by
  have h1 := ha.1 19 (by decide)
  have h2 := ha.1 21 (by decide)
  exact ⟨fun l g1 g2 g3 => by rw [sgL_same (G := F) h1 h2]; exact h.1 l g1 g2 g3, fun g1 g2 => by rw [sgL_same (G := F) h1 h2] at g2; exact h.2 g1 g2⟩
theorem sim_L {T : Nat → Nat} {key n lev : Nat} (hT : ∀ i, T i ≤ 255) (hl : lev < 5) (h1 : lev < 4 → simL T key n (lev + 1)) (h5 : lev = 4 → sim5 T key n) (hK : simK T key n lev) : simL T key (n + 1) lev := by
  intro s r c E O h ho hag hct hhd
  rw [pz, if_pos hl] at h
  have op : ∀ (b : Bool) (s1 : PSt), pz T key n (lev + 1) s = some (b, s1) → (b = true → ∃ E1 R1 P, rch T key (true, E, lst s, O) (false, E1, R1, P ++ O) ∧ agE 0 s1.1 E1 ∧ lst s1 = R1 ++ flu P ∧ (∀ x, x ∈ P → lev + 2 ≤ levN x) ∧ pstL (lev + 1) s1.1 P) ∧ (b = false → simF T key s1 (true, E, lst s, O)) := by
    intro b s1 e
    by_cases e4 : lev = 4
    · subst e4
      have g := h5 rfl s (b, s1) c E O e ho hag (by omega)
      refine ⟨fun hb => ?_, g.2⟩
      obtain ⟨E1, g1, g2⟩ := g.1 hb
      rw [hct, ct0_s hct] at g1
      rw [hct] at g2
      exact ⟨E1, lst s1, [], by simpa using g1, g2, by simp [flu], fun x hx => by simp at hx, pstL_5 _ _⟩
    · exact h1 (by omega) s (b, s1) c E O e ho hag hct (by omega)
  split at h
  · rename_i s1 e
    obtain ⟨E1, R1, P, g1, g2, g3, g4, g5⟩ := (op true s1 e).1 rfl
    obtain ⟨o1, k1⟩ := (pz_ok hT key n _ _ _ c e ho).2 rfl
    have k := hK s1 r c E1 R1 P O h o1 g2 g3 (fun x hx => by have := g4 x hx; split <;> omega) g5 hct hhd
    exact ⟨fun hr => (k.1 hr).ext g1, fun hr => (k.2 hr).ext g1⟩
  · rename_i hne
    obtain ⟨b, s1⟩ := r
    cases b
    · exact ⟨fun z => (by cases z), fun _ => (op false s1 h).2 rfl⟩
    · exact (hne s1 h).elim
/-- the class at a sign of a level -/
theorem cs_sign {key : Nat} {E : Nat → Nat} {R : Sps} {P O : List Nat} {lev : Nat} (hl : lev ≤ 4) (h19 : E 19 = 3) (hlv : levN (E 21) = lev + 1) (hP : ∀ x, x ∈ P → (if lev = 2 then 4 else lev + 1) ≤ levN x) (hO : hdL O ≤ lev) : cs key (false, E, R, P ++ O) = some (true, E, R ++ flu P, E 21 :: O) := by
  unfold cs
  dsimp only
  have h41 : ¬ (E 19 = 3 ∧ E 21 = 41) := fun z => by rw [z.2] at hlv; have : levN 41 = 0 := rfl; omega
  rw [if_neg Bool.false_ne_true, if_neg h41, if_pos ⟨h19, by omega⟩]
  by_cases e : lev = 2
  · subst e
    rw [if_pos hlv, clD_app 4 P O R (fun x hx => by have := hP x hx; rw [if_pos rfl] at this; exact this), clD_stop (by omega), if_neg (show ¬ hdL O = 3 by omega), clD_stop (by show hdL O < 3; omega)]
  · rw [if_neg (by omega), hlv, clD_app (lev + 1) P O R (fun x hx => by have := hP x hx; rw [if_neg e] at this; exact this), clD_stop (by omega)]
theorem sim_K {T : Nat → Nat} {key n lev : Nat} (hT : ∀ i, T i ≤ 255) (hl : lev < 5) (h1 : lev < 4 → simL T key n (lev + 1)) (h5 : lev = 4 → sim5 T key n) (hK : simK T key n lev) : simK T key (n + 1) lev := by
  intro s r c E R P O h ho hag hR hP hps hct hhd
  rw [pz, if_neg (by omega), if_neg (by omega), show 10 + lev - 10 = lev by omega] at h
  by_cases hs : sgL lev s.1 = true
  · rw [if_pos hs] at h
    have hsg := (sgL_lev (by omega)).mp hs
    have e19 : E 19 = 3 := (hag.1 19 (by decide)).trans hsg.1
    have e21 : E 21 = s.1 21 := hag.1 21 (by decide)
    have hcs := cs_sign (key := key) (R := R) (by omega) e19 (by rw [e21]; exact hsg.2) hP hhd
    have hone : rch T key (false, E, R, P ++ O) (true, nextF T E, R ++ flu P, E 21 :: O) := rch.one (T := T) hcs
    have hct2 : ct (E 21 :: O) = 0 := by
      rw [ct, if_neg]
      intro z
      rw [← e21, z] at hsg
      have : levN 33 = 0 := rfl
      omega
    have hhd2 : hdL (E 21 :: O) ≤ lev + 1 := by show levN (E 21) ≤ _; rw [e21]; omega
    obtain ⟨a1, a2, a3, a4, a5⟩ := ho
    obtain ⟨g1, g2, g3, g4, g5, g6, g7⟩ := nx_f hT a1 (by omega)
    have hq : okP (c + 1) (nx T s) := ⟨g1, by omega, by omega, by omega, by omega⟩
    have hag2 : agE 0 (nx T s).1 (nextF T E) := next_ag hag
    have hl2 : lst (nx T s) = R ++ flu P := (lst_nx T s).trans hR
    have op : ∀ (b : Bool) (s1 : PSt), pz T key n (lev + 1) (nx T s) = some (b, s1) → (b = true → ∃ E1 R1 P1, rch T key (false, E, R, P ++ O) (false, E1, R1, P1 ++ (E 21 :: O)) ∧ agE 0 s1.1 E1 ∧ lst s1 = R1 ++ flu P1 ∧ (∀ x, x ∈ P1 → lev + 2 ≤ levN x) ∧ pstL (lev + 1) s1.1 P1) ∧ (b = false → simF T key s1 (false, E, R, P ++ O)) := by
      intro b s1 e
      by_cases e4 : lev = 4
      · subst e4
        have g := h5 rfl _ (b, s1) (c + 1) (nextF T E) (E 21 :: O) e hq hag2 (by omega)
        rw [hl2] at g
        refine ⟨fun hb => ?_, fun hb => (g.2 hb).ext hone⟩
        obtain ⟨E1, q1, q2⟩ := g.1 hb
        rw [hct2, ct0_s hct2] at q1
        rw [hct2] at q2
        exact ⟨E1, lst s1, [], hone.tr (by simpa using q1), q2, by simp [flu], fun x hx => by simp at hx, pstL_5 _ _⟩
      · have g := h1 (by omega) _ (b, s1) (c + 1) (nextF T E) (E 21 :: O) e hq hag2 hct2 hhd2
        rw [hl2] at g
        refine ⟨fun hb => ?_, fun hb => (g.2 hb).ext hone⟩
        obtain ⟨E1, R1, P1, q1, q2⟩ := g.1 hb
        exact ⟨E1, R1, P1, hone.tr q1, q2⟩
    split at h
    · rename_i s1 e
      obtain ⟨E1, R1, P1, q1, q2, q3, q4, q5⟩ := (op true s1 e).1 rfl
      obtain ⟨⟨o1, o2, o3, o4, o5⟩, k1, k2, k3, k4, k5⟩ := (pz_ok hT key n _ _ _ (c + 1) e hq).2 rfl
      dsimp only at o1 o2 o3 o4 o5 k1 k2 k3 k4 k5
      obtain ⟨b1, b2, b3, b4, b5, b6, b7, b8⟩ := stp_f (w := 2) (v := s.1 21) o1
      have hq2 : okP c (stp s1 2 (s.1 21)) := ⟨b1, by omega, by omega, by omega, by omega⟩
      have hl3 : lst (stp s1 2 (s.1 21)) = R1 ++ flu (P1 ++ [E 21]) := by
        rw [lst_stp, q3, e21]
        simp [flu]
      have hst : P1 ++ (E 21 :: O) = (P1 ++ [E 21]) ++ O := by simp
      rw [hst] at q1
      have hps2 : pstL (lev + 1) (stp s1 2 (s.1 21)).1 (P1 ++ [E 21]) := pstL_stp q5
      have h21 : levN (E 21) = lev + 1 := by rw [e21]; exact hsg.2
      by_cases e2 : lev = 2
      · subst e2
        rw [if_pos (by decide)] at h
        cases h
        refine ⟨fun _ => ⟨E1, R1, P1 ++ [E 21], q1, agE_stp q2 _ _, hl3, fun x hx => ?_, pstL_up hps2 (fun z => absurd rfl z) (fun _ _ => ⟨P1, E 21, [], by simp, fun y hy => q4 y hy, h21⟩)⟩, fun z => (by cases z)⟩
        rcases List.mem_append.mp hx with hx | hx
        · have := q4 x hx; omega
        · simp at hx; rw [hx]; omega
      · rw [if_neg (by omega)] at h
        have k := hK _ r c E1 R1 (P1 ++ [E 21]) O h hq2 (agE_stp q2 _ _) hl3 (fun x hx => by
          rw [if_neg e2]
          rcases List.mem_append.mp hx with hx | hx
          · have := q4 x hx; omega
          · simp at hx; rw [hx]; omega) hps2 hct hhd
        exact ⟨fun hr => (k.1 hr).ext q1, fun hr => (k.2 hr).ext q1⟩
    · rename_i hne
      obtain ⟨b, s1⟩ := r
      cases b
      · exact ⟨fun z => (by cases z), fun _ => (op false s1 h).2 rfl⟩
      · exact (hne s1 h).elim
  · rw [if_neg hs] at h
    cases h
    have hs' : sgL lev s.1 = false := by cases hh : sgL lev s.1 with
      | true => exact absurd hh hs
      | false => rfl
    refine ⟨fun _ => ⟨E, R, P, rch.rf T key _, hag, hR, fun x hx => by have := hP x hx; split at this <;> omega, pstL_up hps (fun _ => hs') (fun e2 h2 => ?_)⟩, fun z => (by cases z)⟩
    subst e2
    rw [h2] at hs'
    cases hs'
theorem sim_5 {T : Nat → Nat} {key n : Nat} (hT : ∀ i, T i ≤ 255) (h5 : sim5 T key n) (h0 : simL T key n 0) : sim5 T key (n + 1) := by
  intro s r c E O h ho hag hct
  rw [pz, if_neg (by decide), if_pos rfl] at h
  have ho2 := ho
  obtain ⟨a1, a2, a3, a4, a5⟩ := ho2
  have e19 : E 19 = s.1 19 := hag.1 19 (by decide)
  have e20 : E 20 = s.1 20 := hag.1 20 (by decide)
  have e21 : E 21 = s.1 21 := hag.1 21 (by decide)
  have e22 : E 22 = s.1 22 := hag.2.1
  have e23 : E 23 = s.1 23 := hag.2.2.1
  by_cases c1 : s.1 19 = 2
  · rw [if_pos c1] at h
    cases h
    refine ⟨fun _ => leaf_sim hag rfl hct ?_, fun z => (by cases z)⟩
    unfold cs
    dsimp only
    rw [if_pos rfl, if_pos (by omega), e20]
  · rw [if_neg c1] at h
    by_cases c2 : s.1 19 = 1 ∧ ¬ s.1 21 = 0 ∧ nmL key (s.1 21) = true
    · rw [if_pos c2] at h
      cases h
      refine ⟨fun _ => leaf_sim hag rfl hct ?_, fun z => (by cases z)⟩
      unfold cs
      dsimp only
      rw [if_pos rfl, if_neg (by omega), e19, e21, if_pos c2]
    · rw [if_neg c2] at h
      by_cases c3 : (s.1 19 = 3 ∧ s.1 21 = 33) ∧ s.1 23 < 8
      · rw [if_pos c3] at h
        have hcs : cs key (true, E, lst s, O) = some (true, pu E 23 (E 23 + 1), lst s, 33 :: O) := by
          unfold cs
          dsimp only
          rw [if_pos rfl, if_neg (by omega), e19, e21, if_neg c2, if_neg (by omega), if_pos ⟨c3.1, by omega⟩]
        have hone : rch T key (true, E, lst s, O) (true, nextF T (pu E 23 (E 23 + 1)), lst s, 33 :: O) := rch.one (T := T) hcs
        obtain ⟨g1, g2, g3, g4, g5, g6, g7⟩ := nx_f hT (fl_f (i := 23) (v := s.1 23 + 1) a1 (by decide)) (by rw [fl_n (by decide)]; omega)
        rw [fl_n (by decide)] at g2 g3 g5 g6 g7
        rw [fl_e] at g4
        have hq : okP (c + 1) (nx T (fl s 23 (s.1 23 + 1))) := ⟨g1, by omega, by omega, by omega, by omega⟩
        have hag2 : agE 0 (nx T (fl s 23 (s.1 23 + 1))).1 (nextF T (pu E 23 (E 23 + 1))) := by
          refine next_ag ?_
          unfold fl
          dsimp only
          exact ⟨fun i hi => by rw [pu_ne _ _ (by omega), pu_ne _ _ (by omega)]; exact hag.1 i hi, by rw [pu_ne _ _ (by decide), pu_ne _ _ (by decide)]; exact e22, by rw [pu_eq, pu_eq]; omega, by rw [pu_ne _ _ (by decide), pu_ne _ _ (by decide)]; exact hag.2.2.2⟩
        have hc33 : ct (33 :: O) = ct O + 1 := by rw [ct, if_pos rfl]
        have hs33 : sT (33 :: O) = sT O := by rw [sT, if_pos rfl]
        have hl2 : lst (nx T (fl s 23 (s.1 23 + 1))) = lst s := (lst_nx T _).trans (lst_fl _ (by decide) (by decide))
        have g := fun r => h5 (nx T (fl s 23 (s.1 23 + 1))) r (c + 1) (nextF T (pu E 23 (E 23 + 1))) (33 :: O)
        have hct2 : ct (33 :: O) ≤ nextF T (pu E 23 (E 23 + 1)) 23 := by rw [hc33, next_i _ _ _ (by decide), pu_eq]; omega
        split at h
        · rename_i s1 e
          have g := g _ e hq hag2 hct2
          rw [hl2] at g
          obtain ⟨E1, q1, q2⟩ := g.1 rfl
          rw [hc33, hs33] at q1
          rw [hc33] at q2
          cases h
          refine ⟨fun _ => ⟨E1, hone.tr ?_, ?_⟩, fun z => (by cases z)⟩
          · rw [lst_stp, lst_fl _ (by decide) (by decide), List.append_assoc]
            rw [List.replicate_succ] at q1
            exact q1
          · obtain ⟨z1, z2, z3, z4⟩ := q2
            refine agE_stp ?_ _ _
            unfold fl
            dsimp only at z1 z2 z3 z4 ⊢
            exact ⟨fun i hi => by rw [pu_ne _ _ (by omega)]; exact z1 i hi, by rw [pu_ne _ _ (by decide)]; exact z2, by rw [pu_eq]; omega, by rw [pu_ne _ _ (by decide)]; exact z4⟩
        · rename_i hne
          obtain ⟨b, s1⟩ := r
          cases b
          · have g := g _ h hq hag2 hct2
            rw [hl2] at g
            exact ⟨fun z => (by cases z), fun _ => (g.2 rfl).ext hone⟩
          · exact (hne s1 h).elim
      · rw [if_neg c3] at h
        by_cases c4 : ¬ (s.1 19 = 3 ∧ s.1 21 = 40) ∨ s.1 22 = 8
        · rw [if_pos c4] at h
          cases h
          refine ⟨fun z => (by cases z), fun _ => ⟨_, rch.rf T key _, ⟨?_, .inr (.inl rfl)⟩, hag.1 17 (by decide)⟩⟩
          unfold cs
          dsimp only
          rw [if_pos rfl, if_neg (by omega), e19, e21, if_neg c2, if_neg (by omega), if_neg (by omega)]
        · rw [if_neg c4] at h
          have hcs : cs key (true, E, lst s, O) = some (true, pu E 22 (E 22 + 1), lst s, 40 :: O) := by
            unfold cs
            dsimp only
            rw [if_pos rfl, if_neg (by omega), e19, e21, if_neg c2, if_pos (by omega)]
          have hone : rch T key (true, E, lst s, O) (true, nextF T (pu E 22 (E 22 + 1)), lst s, 40 :: O) := rch.one (T := T) hcs
          obtain ⟨g1, g2, g3, g4, g5, g6, g7⟩ := nx_f hT (fl_f (i := 22) (v := s.1 22 + 1) a1 (by decide)) (by rw [fl_n (by decide)]; omega)
          rw [fl_n (by decide)] at g2 g4 g5 g6 g7
          rw [fl_e] at g3
          have hq : okP c (nx T (fl s 22 (s.1 22 + 1))) := ⟨g1, by omega, by omega, by omega, by omega⟩
          have hag2 : agE 0 (nx T (fl s 22 (s.1 22 + 1))).1 (nextF T (pu E 22 (E 22 + 1))) := by
            refine next_ag ?_
            unfold fl
            dsimp only
            exact ⟨fun i hi => by rw [pu_ne _ _ (by omega), pu_ne _ _ (by omega)]; exact hag.1 i hi, by rw [pu_eq, pu_eq]; omega, by rw [pu_ne _ _ (by decide), pu_ne _ _ (by decide)]; exact hag.2.2.1, by rw [pu_ne _ _ (by decide), pu_ne _ _ (by decide)]; exact hag.2.2.2⟩
          have hl2 : lst (nx T (fl s 22 (s.1 22 + 1))) = lst s := (lst_nx T _).trans (lst_fl _ (by decide) (by decide))
          have g := fun r => h0 (nx T (fl s 22 (s.1 22 + 1))) r c (nextF T (pu E 22 (E 22 + 1))) (40 :: O)
          split at h
          · rename_i s1 e
            have g := g _ e hq hag2 rfl (show levN 40 ≤ 0 by decide)
            rw [hl2] at g
            obtain ⟨E1, R1, P, q1, q2, q3, q4, q5⟩ := g.1 rfl
            obtain ⟨⟨o1, o2, o3, o4, o5⟩, k1, k2, k3, k4, k5⟩ := (pz_ok hT key n _ _ _ c e hq).2 rfl
            dsimp only at o1 o2 o3 o4 o5 k1 k2 k3 k4 k5 q2 q3 q5
            have f19 : E1 19 = s1.1 19 := q2.1 19 (by decide)
            have f21 : E1 21 = s1.1 21 := q2.1 21 (by decide)
            have f22 : E1 22 = s1.1 22 := q2.2.1
            have f23 : E1 23 = s1.1 23 := q2.2.2.1
            by_cases c5 : s1.1 19 = 3 ∧ s1.1 21 = 41
            · rw [if_pos c5] at h
              cases h
              have hclD : clD 1 (P ++ 40 :: O) R1 = (40 :: O, R1 ++ flu P) := by
                rw [clD_app 1 P _ R1 (fun x hx => by have := q4 x hx; omega)]
                exact clD_stop (show levN 40 < 1 by decide)
              obtain ⟨n1, n2, n3⟩ := clN_eq O (pu E1 22 (E1 22 - 1)) (R1 ++ flu P) (by rw [pu_ne _ _ (by decide)]; omega)
              have hcs2 : cs key (false, E1, R1, P ++ 40 :: O) = some (false, (clN O (pu E1 22 (E1 22 - 1)) (R1 ++ flu P)).1, (clN O (pu E1 22 (E1 22 - 1)) (R1 ++ flu P)).2) := by
                unfold cs
                dsimp only
                rw [if_neg Bool.false_ne_true, f19, f21, if_pos c5, if_neg (by omega), hclD]
                rfl
              have htwo := rch.one (T := T) hcs2
              refine ⟨fun _ => ⟨nextF T (clN O (pu E1 22 (E1 22 - 1)) (R1 ++ flu P)).1, (hone.tr q1).tr ?_, ?_⟩, fun z => (by cases z)⟩
              · rw [lst_nx, lst_fl _ (by decide) (by decide), q3]
                unfold nxC at htwo
                dsimp only at htwo
                rw [n1] at htwo
                exact htwo
              · refine next_ag ?_
                unfold fl
                dsimp only
                rw [pu_ne _ _ (by decide)] at n3
                refine ⟨fun i hi => ?_, ?_, ?_, ?_⟩
                · rw [n2 i (by omega), pu_ne _ _ (by omega), pu_ne _ _ (by omega)]
                  exact q2.1 i hi
                · rw [n2 22 (by decide), pu_eq, pu_eq]
                  omega
                · rw [pu_ne _ _ (by decide)]
                  omega
                · rw [n2 26 (by decide), pu_ne _ _ (by decide), pu_ne _ _ (by decide)]
                  exact q2.2.2.2
            · rw [if_neg c5] at h
              cases h
              refine ⟨fun z => (by cases z), fun _ => ⟨_, hone.tr q1, jam_of (pstL_ag q5 q2) (.inl (by rw [f19, f21]; exact c5)) (.inr (by omega)), q2.1 17 (by decide)⟩⟩
          · rename_i hne
            obtain ⟨b, s1⟩ := r
            cases b
            · have g := g _ h hq hag2 rfl (show levN 40 ≤ 0 by decide)
              rw [hl2] at g
              exact ⟨fun z => (by cases z), fun _ => (g.2 rfl).ext hone⟩
            · exact (hne s1 h).elim
theorem sim_all {T : Nat → Nat} (hT : ∀ i, T i ≤ 255) (key : Nat) : ∀ n : Nat, (simL T key n 0 ∧ simL T key n 1 ∧ simL T key n 2 ∧ simL T key n 3 ∧ simL T key n 4 ∧ sim5 T key n) ∧ simK T key n 0 ∧ simK T key n 1 ∧ simK T key n 2 ∧ simK T key n 3 ∧ simK T key n 4
  | 0 => by
    have a1 : ∀ lev, simL T key 0 lev := fun lev _ _ _ _ _ h => by cases h
    have a2 : ∀ lev, simK T key 0 lev := fun lev _ _ _ _ _ _ _ h => by cases h
    have a3 : sim5 T key 0 := fun _ _ _ _ _ h => by cases h
    exact ⟨⟨a1 0, a1 1, a1 2, a1 3, a1 4, a3⟩, a2 0, a2 1, a2 2, a2 3, a2 4⟩
  | n + 1 => by
    obtain ⟨⟨l0, l1, l2, l3, l4, l5⟩, k0, k1, k2, k3, k4⟩ := sim_all hT key n
    exact ⟨⟨sim_L hT (by decide) (fun _ => l1) (fun z => (by cases z)) k0, sim_L hT (by decide) (fun _ => l2) (fun z => (by cases z)) k1, sim_L hT (by decide) (fun _ => l3) (fun z => (by cases z)) k2, sim_L hT (by decide) (fun _ => l4) (fun z => (by cases z)) k3, sim_L hT (by decide) (fun z => by omega) (fun _ => l5) k4, sim_5 hT l5 l0⟩,
      sim_K hT (by decide) (fun _ => l1) (fun z => (by cases z)) k0, sim_K hT (by decide) (fun _ => l2) (fun z => (by cases z)) k1, sim_K hT (by decide) (fun _ => l3) (fun z => (by cases z)) k2, sim_K hT (by decide) (fun _ => l4) (fun z => (by cases z)) k3, sim_K hT (by decide) (fun z => by omega) (fun _ => l5) k4⟩
