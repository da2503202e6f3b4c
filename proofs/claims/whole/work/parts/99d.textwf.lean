-- TEXTWF: the text that parse laid is as a text must be
theorem ptext_v {T F p : Nat → Nat} (hp : p 1 < 14) (k3 : (parseS T F p).2 < 3) : p_text T F p (100 + 200 * p 1) = (parseS T F p).2 ∧ p_text T F p (101 + 200 * p 1) = (parseS T F p).1.1 26 ∧ p_text T F p (102 + 200 * p 1) = (parseS T F p).1.1 24 ∧ (∀ i, 104 + 200 * p 1 ≤ i → p_text T F p i = (parseS T F p).1.2 i) ∧ p_text T F p 1 = p 1 + 1 := by
  unfold p_text
  rw [if_neg (by omega)]
  refine ⟨?_, ?_, ?_, fun i hi => ?_, ?_⟩
  · rw [pu_ne _ _ (by omega), pu_ne _ _ (by omega), pu_ne _ _ (by omega), pu_eq]
  · rw [pu_ne _ _ (by omega), pu_ne _ _ (by omega), show 101 + 200 * p 1 = 100 + 200 * p 1 + 1 by omega, pu_eq]
  · rw [pu_ne _ _ (by omega), show 102 + 200 * p 1 = 100 + 200 * p 1 + 2 by omega, pu_eq]
  · rw [pu_ne _ _ (by omega), pu_ne _ _ (by omega), pu_ne _ _ (by omega), pu_ne _ _ (by omega)]
  · rw [pu_eq]
theorem ptext_wf {T F p : Nat → Nat} (hp : p 1 < 14) (k3 : (parseS T F p).2 < 3) (b24 : (parseS T F p).1.1 24 ≤ 95) (b26 : (parseS T F p).1.1 26 ≤ (parseS T F p).1.1 24) (hg : gR (parseS T F p).2 (lst (parseS T F p).1) 1 ((parseS T F p).1.1 26)) (h25 : (parseS T F p).1.1 25 = psF p F 25) : wfX (p_text T F p) (p 1) ∧ ∀ k, k < (parseS T F p).1.1 24 → stW (parseS T F p).2 (p_text T F p) (104 + 200 * p 1) k := by
  obtain ⟨v0, v1, v2, v3, v4⟩ := ptext_v (T := T) (F := F) hp k3
  have e25 : (parseS T F p).1.1 25 = 104 + 200 * p 1 := by
    rw [h25]
    unfold psF
    rw [pu_eq, if_pos hp]
    omega
  have hl : (lst (parseS T F p).1).reverse.length = (parseS T F p).1.1 24 := by rw [List.length_reverse, lst_len]
  have ha : agr (parseS T F p).1.2 (104 + 200 * p 1) (lst (parseS T F p).1).reverse := by
    unfold lst
    rw [e25]
    exact agr_lst _ _ _
  have ha2 := agr_cg (p2 := p_text T F p) (fun i h1 h2 => v3 i h1) ha
  obtain ⟨d1, d2, d3, d4⟩ := gR_dep _ _ _ hg ha2
  rw [hl] at d1 d2 d3
  refine ⟨⟨by rw [v0]; omega, by rw [v1]; omega, by rw [v2]; omega, by rw [v2]; exact d1, fun k hk => ?_, fun k hk => ?_⟩, d3⟩
  · rw [v1]
    rw [v2] at hk
    exact d2 k hk
  · rw [v2] at hk
    obtain ⟨s1, s2, s3, s4, s5, s6⟩ := d3 k hk
    exact ⟨s1, s2, fun z => by rw [v0]; exact s3 z, s4, s5⟩
