-- FAULT: findFault's answer in parse's words
def fndP (N : zMem) (X2 : zX) (T F p : Nat → Nat) (r : Int32) (M1 : zMem) (X1 : zX) : Prop := X1 = X2 ∧ ∃ q R o, M1 = pq N q R o ∧ (((parseS T F p).2 = 3 ∧ r = nI ((parseS T F p).1.1 17) ∧ (parseS T F p).1.1 17 ≤ 96) ∨ ((parseS T F p).2 < 3 ∧ r = -1 ∧ q 6 = (parseS T F p).2 ∧ q 7 = (parseS T F p).1.1 26 ∧ q 9 = (parseS T F p).1.1 24 ∧ (parseS T F p).1.1 24 ≤ 95 ∧ (parseS T F p).1.1 26 ≤ (parseS T F p).1.1 24 ∧ lay (parseS T F p).2 R (lst (parseS T F p).1) ∧ gR (parseS T F p).2 (lst (parseS T F p).1) 1 ((parseS T F p).1.1 26) ∧ (parseS T F p).1.1 25 = psF p F 25))
theorem lst_len (s : PSt) : (lst s).length = s.1 24 := by
  unfold lst
  rw [List.length_map, List.length_range]
theorem gR_le {key : Nat} {R : Sps} {d l : Nat} (h : gR key R d l) : l ≤ R.length := by
  have : ∀ (Q : Sps) (d l : Nat), gRv key Q d l → l ≤ Q.length := by
    intro Q
    induction Q with
    | nil => intro d l h; rw [h.2]; exact Nat.zero_le _
    | cons x Q ih =>
      intro d l h
      rw [List.length_cons]
      rcases h with ⟨_, _, _, _, h⟩ | ⟨_, _, _, _, h⟩ | ⟨_, _, _, h⟩ | ⟨_, _, _, h⟩
      · have := ih _ _ h; omega
      · have := ih _ _ h; omega
      · have := ih _ _ h; omega
      · have := ih _ _ h; omega
  have := this _ _ _ h
  rw [List.length_reverse] at this
  exact this
theorem ffP_par {N : zMem} {X2 : zX} {T F p : Nat → Nat} {r : Int32} {M1 : zMem} {X1 : zX} (hT : ∀ i, T i ≤ 255) (h16 : F 16 ≤ 96) (h20 : F 20 ≤ 5287680) (h21 : F 21 ≤ 255) (hp : p 1 ≤ 14) (h : ffP N X2 T (psF p F) r M1 X1) : fndP N X2 T F p r M1 X1 := by
  obtain ⟨hX, q, R, o, hM, h⟩ := h
  refine ⟨hX, q, R, o, hM, ?_⟩
  obtain ⟨-, n22, n23, n24, n26, -⟩ := ok_s0 (T := T) hT h16 h20 h21 hp
  rcases h with ⟨k3, hr⟩ | ⟨k3, k6, s1, rc, h17, h⟩
  · left
    have hS : parseS T F p = ((pu (nextF T (psF p F)) 16 0, p), 3) := by
      unfold parseS
      dsimp only
      rw [if_pos k3]
    have ok := (psF_ok (T := T) (p := p) hT h16 h20 h21 hp).1
    rw [hS]
    have e : pu (nextF T (psF p F)) 16 0 17 = nextF T (psF p F) 17 := pu_ne _ _ (by decide)
    refine ⟨rfl, by rw [hr]; exact congrArg nI e.symm, ?_⟩
    show pu (nextF T (psF p F)) 16 0 17 ≤ 96
    rw [e]
    obtain ⟨a1, a2, a3, _⟩ := ok
    omega
  · have hs := par_sim hT h16 h20 h21 hp rfl (by omega) rc
    rcases h with ⟨hj, hr⟩ | ⟨a1, a2, a3, hr, a7, O2, hps⟩
    · left
      obtain ⟨b1, b2⟩ := hs.1 hj
      exact ⟨b1, by rw [hr, b2], by rw [b2]; exact h17⟩
    · right
      obtain ⟨b1, b2, b3, b4, b5, b6⟩ := hs.2 a1 a2 a3
      have hg := (rch_gI rc ⟨trivial, n23.symm, n22.symm, by show nextF T (nextF T (psF p F)) 22 ≤ 8; omega, by show nextF T (nextF T (psF p F)) 23 ≤ 8; omega, fun x hx => absurd hx List.not_mem_nil⟩ (next_9 T _) (by
        show gR _ [] 0 (nextF T (nextF T (psF p F)) 26)
        rw [n26]
        exact ⟨rfl, rfl⟩)).2
      unfold gI at hg
      rw [a2, if_neg Bool.false_ne_true] at hg
      have hg2 := gR_clD (lv := 1) (Nat.le_refl _) _ _ hg
      rw [b3, ← b2, ← b4] at hg2
      have hg3 : gR (keyW T (nextF T (psF p F))) (lst (parseS T F p).1) 1 ((parseS T F p).1.1 26) := hg2
      have hle := gR_le hg3
      rw [lst_len] at hle
      rw [← b2] at hps
      refine ⟨by rw [b1]; exact k3, hr, by rw [b1]; exact k6, by rw [b4]; exact a7, by rw [hps.1, lst_len], b5, hle, by rw [b1]; exact hps.2.2.1, by rw [b1]; exact hg3, b6⟩
theorem pq_self (N : zMem) : pq N (fun k => tN (N 118 k)) (N 120) (fun i => tN (N 121 i)) = N := by
  funext a
  by_cases h1 : a = 118
  · subst h1
    funext k
    rw [pq_q, nI_tN]
  · by_cases h2 : a = 120
    · subst h2
      rw [pq_R]
    · by_cases h3 : a = 121
      · subst h3
        funext k
        rw [pq_o, nI_tN]
      · exact pq_n _ _ _ _ h1 h2 h3
theorem k_fnd (d : Nat) (G : zG) (N : zMem) (X : zX) (hr : kR X) (T : Nat → Nat) (hT : tpC N T) (hT2 : ∀ i, T i ≤ 255) (hf : zFm G) (n : Nat) (F p : Nat → Nat) (e16 : F 16 = n) (hn : n ≤ 96) (h20 : F 20 ≤ 5287680) (h21 : F 21 ≤ 255) (hp : p 1 ≤ 14) : zCall G miX2_findFault (d + 6) [.ref 118, .ref 122, .int (nI n)] (zIr (fndP N (XP X) T F p)) N X 0 0 := by
  have h := k_findFault d G N X hr (fun k => tN (N 118 k)) (N 120) (fun i => tN (N 121 i)) T hT hT2 hf n hn (psF p F) (show psF p F 16 = n from e16) rfl rfl rfl rfl
  rw [pq_self] at h
  exact zCall.post h (fun v M1 X1 hh => by
    obtain ⟨r, rfl, hh⟩ := hh
    exact ⟨r, rfl, ffP_par hT2 (by omega) h20 h21 hp hh⟩)
