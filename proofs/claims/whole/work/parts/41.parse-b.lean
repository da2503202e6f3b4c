-- PARSE B: all levels at once
theorem pz_c {G : zG} {M : zMem} {X : zX} (hk : kM X) {T : Nat → Nat} (hT : tpN M T) (hT2 : ∀ i, T i ≤ 255) {key : Nat} (hkey : key ≤ 2) : ∀ n : Nat,
    (cP G M X T key miX10_either n 0 ∧ cP G M X T key miX10_both n 1 ∧ cP G M X T key miX10_test n 2 ∧ cP G M X T key miX10_sum n 3 ∧ cP G M X T key miX10_term n 4 ∧ cP G M X T key miX10_part0 n 5)
    ∧ lP G M X T key miX10_either [some (.ref 160), some (.int (nI key))] n 10 ∧ lP G M X T key miX10_both [some (.ref 160), some (.int (nI key))] n 11 ∧ lP G M X T key miX10_test [some (.ref 160), some (.int (nI key)), none] n 12 ∧ lP G M X T key miX10_sum [some (.ref 160), some (.int (nI key)), none] n 13 ∧ lP G M X T key miX10_term [some (.ref 160), some (.int (nI key)), none] n 14
  | 0 => by
    refine ⟨⟨?_, ?_, ?_, ?_, ?_, ?_⟩, ?_, ?_, ?_, ?_, ?_⟩ <;> (intro F p r c e h; cases h)
  | n + 1 => by
    obtain ⟨⟨e0, e1, e2, e3, e4, e5⟩, l0, l1, l2, l3, l4⟩ := pz_c hk hT hT2 hkey n
    exact ⟨⟨ee_either hk hT hT2 hkey e1 l0, ee_both hk hT hT2 hkey e2 l1, ee_test hk hT hT2 hkey e3 l2, ee_sum hk hT hT2 hkey e4 l3, ee_term hk hT hT2 hkey e5 l4, ee_part0 hk hT hT2 hkey e5 e0⟩, ll_either hk hT hT2 hkey e1 l0, ll_both hk hT hT2 hkey e2 l1, ll_test hk hT hT2 hkey e3 l2, ll_sum hk hT hT2 hkey e4 l3, ll_term hk hT hT2 hkey e5 l4⟩
