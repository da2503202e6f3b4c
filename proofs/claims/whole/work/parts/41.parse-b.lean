-- PARSE B: all levels at once
theorem pz_c {G : zG} {M : zMem} {X : zX} (hk : kM X) {T : Nat → Nat} (hT : tpN M T) (hT2 : ∀ i, T i ≤ 255) {key : Nat} (hkey : key ≤ 2) : ∀ n : Nat,
    (cP G M X T key miX10_either n 0 ∧ cP G M X T key miX10_both n 1 ∧ cP G M X T key miX10_test n 2 ∧ cP G M X T key miX10_sum n 3 ∧ cP G M X T key miX10_term n 4 ∧ cP G M X T key miX10_part0 n 5)
    ∧ lP G M X T key miX10_either [some (.ref 160), some (.int (nI key))] n 10 ∧ lP G M X T key miX10_both [some (.ref 160), some (.int (nI key))] n 11 ∧ lP G M X T key miX10_test [some (.ref 160), some (.int (nI key)), none] n 12 ∧ lP G M X T key miX10_sum [some (.ref 160), some (.int (nI key)), none] n 13 ∧ lP G M X T key miX10_term [some (.ref 160), some (.int (nI key)), none] n 14
  | 0 => by
    refine ⟨⟨?_, ?_, ?_, ?_, ?_, ?_⟩, ?_, ?_, ?_, ?_, ?_⟩ <;> (intro F p r c e h; cases h)
  | n + 1 => by
    obtain ⟨⟨e0, e1, e2, e3, e4, e5⟩, l0, l1, l2, l3, l4⟩ := pz_c hk hT hT2 hkey n
    exact ⟨⟨ee_either hk hT hT2 hkey e1 l0, ee_both hk hT hT2 hkey e2 l1, ee_test hk hT hT2 hkey e3 l2, ee_sum hk hT hT2 hkey e4 l3, ee_term hk hT hT2 hkey e5 l4, ee_part0 hk hT hT2 hkey e5 e0⟩, ll_either hk hT hT2 hkey e1 l0, ll_both hk hT hT2 hkey e2 l1, ll_test hk hT hT2 hkey e3 l2, ll_sum hk hT hT2 hkey e4 l3, ll_term hk hT hT2 hkey e5 l4⟩
/-- the fuel that is enough -/
theorem pz_some {T : Nat → Nat} (hT : ∀ i, T i ≤ 255) (key : Nat) : ∀ (n lev : Nat) (s : PSt) (c : Nat), okP c s → (lev ≤ 5 ∧ 8 * (96 - s.1 17) + 7 - lev ≤ n) ∨ (10 ≤ lev ∧ lev ≤ 14 ∧ 8 * (96 - s.1 17) + 1 ≤ n) → ∃ r, pz T key n lev s = some r
  | 0, lev, s, c, ho, hn => by exfalso; omega
  | n + 1, lev, s, c, ho, hn => by
    have ho2 := ho
    obtain ⟨a1, a2, a3, a4, a5⟩ := ho2
    have a6 := a1
    obtain ⟨f16, f17, f18, f19, f20, f21, f0⟩ := a6
    rw [pz]
    split
    · rename_i hl
      obtain ⟨⟨b, s1⟩, e1⟩ := pz_some hT key n (lev + 1) s c ho (by omega)
      rw [e1]
      cases b
      · exact ⟨_, rfl⟩
      · obtain ⟨o1, k1, k2, k3, k4, k5⟩ := (pz_ok hT key n _ _ _ c e1 ho).2 rfl
        dsimp only at k5
        exact pz_some hT key n (10 + lev) s1 c o1 (by omega)
    · split
      · split
        · exact ⟨_, rfl⟩
        · split
          · exact ⟨_, rfl⟩
          · split
            · rename_i h8
              obtain ⟨g1, g2, g3, g4, g5, g6, g7⟩ := nx_f hT (fl_f (i := 23) (v := s.1 23 + 1) a1 (by decide)) (by rw [fl_n (by decide)]; omega)
              rw [fl_n (by decide)] at g2 g3 g5 g6 g7
              rw [fl_e] at g4
              have hq : okP (c + 1) (nx T (fl s 23 (s.1 23 + 1))) := ⟨g1, by omega, by omega, by omega, by omega⟩
              obtain ⟨⟨b, s1⟩, e1⟩ := pz_some hT key n 5 _ (c + 1) hq (by omega)
              rw [e1]
              cases b <;> exact ⟨_, rfl⟩
            · split
              · exact ⟨_, rfl⟩
              · rename_i h8
                obtain ⟨g1, g2, g3, g4, g5, g6, g7⟩ := nx_f hT (fl_f (i := 22) (v := s.1 22 + 1) a1 (by decide)) (by rw [fl_n (by decide)]; omega)
                rw [fl_n (by decide)] at g2 g4 g5 g6 g7
                rw [fl_e] at g3
                have hq : okP c (nx T (fl s 22 (s.1 22 + 1))) := ⟨g1, by omega, by omega, by omega, by omega⟩
                obtain ⟨⟨b, s1⟩, e1⟩ := pz_some hT key n 0 _ c hq (by omega)
                rw [e1]
                cases b
                · exact ⟨_, rfl⟩
                · dsimp only
                  split <;> exact ⟨_, rfl⟩
      · split
        · rename_i hs
          have h19 : s.1 19 = 3 := (of_decide_eq_true hs).1
          obtain ⟨g1, g2, g3, g4, g5, g6, g7⟩ := nx_f hT a1 (by omega)
          have hq : okP (c + 1) (nx T s) := ⟨g1, by omega, by omega, by omega, by omega⟩
          obtain ⟨⟨b, s1⟩, e1⟩ := pz_some hT key n (lev - 10 + 1) _ (c + 1) hq (by omega)
          rw [e1]
          cases b
          · exact ⟨_, rfl⟩
          · obtain ⟨⟨o1, o2, o3, o4, o5⟩, k1, k2, k3, k4, k5⟩ := (pz_ok hT key n _ _ _ (c + 1) e1 hq).2 rfl
            dsimp only at o1 o2 o3 o4 o5 k1 k2 k3 k4 k5
            obtain ⟨b1, b2, b3, b4, b5, b6, b7, b8⟩ := stp_f (w := 2) (v := s.1 21) o1
            have hq2 : okP c (stp s1 2 (s.1 21)) := ⟨b1, by omega, by omega, by omega, by omega⟩
            dsimp only
            split
            · exact ⟨_, rfl⟩
            · exact pz_some hT key n lev _ c hq2 (by omega)
        · exact ⟨_, rfl⟩
