-- PARSIM: what findFault says is what parse says
theorem stuck_eq {T : Nat → Nat} {key : Nat} {s a b : CSt} (h1 : rch T key s a) (h2 : rch T key s b) (ha : cs key a = none) (hb : cs key b = none) : a = b := by
  obtain ⟨m, e1⟩ := h1
  obtain ⟨n, e2⟩ := h2
  have key1 : ∀ (m n : Nat) (x y : CSt), cit T key m s = some x → cit T key n s = some y → cs key x = none → m ≤ n → x = y := by
    intro m n x y q1 q2 q3 hmn
    have q4 := cit_add T key m (n - m) s x q1
    rw [show m + (n - m) = n by omega, q2] at q4
    cases hd : n - m with
    | zero =>
      rw [hd] at q4
      exact (Option.some.inj q4).symm
    | succ k =>
      rw [hd, cit, q3] at q4
      cases q4
  by_cases hmn : m ≤ n
  · exact key1 m n a b e1 e2 ha hmn
  · exact (key1 n m b a e2 e1 hb (by omega)).symm
theorem fl_ne (s : PSt) {i j : Nat} (v : Nat) (h : j ≠ i) : (fl s i v).1 j = s.1 j := if_neg h
theorem agE_rf (F : Nat → Nat) : agE 0 F F := ⟨fun _ _ => rfl, rfl, rfl, rfl⟩
theorem ok_s0 {T F p : Nat → Nat} (hT : ∀ i, T i ≤ 255) (h16 : F 16 ≤ 96) (h20 : F 20 ≤ 5287680) (h21 : F 21 ≤ 255) (hp : p 1 ≤ 14) : okP 0 (nextF T (nextF T (psF p F)), p) ∧ nextF T (nextF T (psF p F)) 22 = 0 ∧ nextF T (nextF T (psF p F)) 23 = 0 ∧ nextF T (nextF T (psF p F)) 24 = 0 ∧ nextF T (nextF T (psF p F)) 26 = 0 ∧ (¬ keyW T (nextF T (psF p F)) = 3 → okP 1 (nextF T (nextF T (psF p F)), p)) := by
  obtain ⟨n1, hq, n22, n23⟩ := psF_ok (T := T) (p := p) hT h16 h20 h21 hp
  obtain ⟨b1, b2, b3, b4, b5⟩ := hq
  dsimp only at b1 b2 b3 b4 b5
  obtain ⟨f16, f17, f18, f19, f20, f21, f0⟩ := n1
  obtain ⟨g1, g2, g3, g4⟩ := next_ok0 hT (F := nextF T (psF p F)) f16 f18 f20 f21
  have i22 := g4 22 (by decide)
  have i23 := g4 23 (by decide)
  have i24 := g4 24 (by decide)
  have i25 := g4 25 (by decide)
  have i26 := g4 26 (by decide)
  have j24 : nextF T (psF p F) 24 = 0 := by
    rw [next_i _ _ _ (by decide)]
    unfold psF
    repeat (first | rw [pu_eq] | rw [pu_ne _ _ (by decide)])
  have j26 : nextF T (psF p F) 26 = 0 := by
    rw [next_i _ _ _ (by decide)]
    unfold psF
    repeat (first | rw [pu_eq] | rw [pu_ne _ _ (by decide)])
  exact ⟨⟨g1, by dsimp only; omega, by dsimp only; omega, by dsimp only; omega, by dsimp only; omega⟩, by omega, by omega, by omega, by omega, fun hk => by
    have := f0 (by rw [keyW_1 hk]; decide)
    exact ⟨g1, by dsimp only; omega, by dsimp only; omega, by dsimp only; omega, by dsimp only; omega⟩⟩
theorem par_sim {T F p : Nat → Nat} (hT : ∀ i, T i ≤ 255) (h16 : F 16 ≤ 96) (h20 : F 20 ≤ 5287680) (h21 : F 21 ≤ 255) (hp : p 1 ≤ 14) {key : Nat} (hkey : key = keyW T (nextF T (psF p F))) (hk : ¬ key = 3) {s1 : CSt} (rc : rch T key (true, nextF T (nextF T (psF p F)), [], []) s1) :
    (jam key s1 → (parseS T F p).2 = 3 ∧ (parseS T F p).1.1 17 = s1.2.1 17) ∧
    (s1.2.1 19 = 0 → s1.1 = false → s1.2.1 22 = 0 → (parseS T F p).2 = key ∧ lst (parseS T F p).1 = (clD 1 s1.2.2.2 s1.2.2.1).2 ∧ (clD 1 s1.2.2.2 s1.2.2.1).1 = [] ∧ (parseS T F p).1.1 26 = s1.2.1 26 ∧ (parseS T F p).1.1 24 ≤ 95 ∧ (parseS T F p).1.1 25 = psF p F 25) := by
  obtain ⟨-, n22, n23, n24, n26, hq⟩ := ok_s0 (T := T) hT h16 h20 h21 hp
  have hq := hq (by rw [← hkey]; exact hk)
  obtain ⟨r, er⟩ := pz_some hT key 1000 0 (nextF T (nextF T (psF p F)), p) 1 hq (.inl ⟨by decide, by dsimp only; omega⟩)
  obtain ⟨o1, o2⟩ := pz_ok hT key 1000 0 _ r 1 er hq
  have hl : lst (nextF T (nextF T (psF p F)), p) = [] := by
    unfold lst
    dsimp only
    rw [n24]
    rfl
  obtain ⟨g1, g2⟩ := (sim_all hT key 1000).1.1 _ r 1 (nextF T (nextF T (psF p F))) [] er hq (agE_rf _) rfl (Nat.le_refl _)
  rw [hl] at g1 g2
  have h25 : r.2.1 25 = psF p F 25 := by
    have := (pz_p key 0 1000 0 _ r er (next_i T) (by
      show 0 < nextF T (nextF T (psF p F)) 25
      rw [next_i _ _ _ (by decide), next_i _ _ _ (by decide)]
      unfold psF
      rw [pu_eq]
      split <;> omega)).2
    rw [this]
    show nextF T (nextF T (psF p F)) 25 = _
    rw [next_i _ _ _ (by decide), next_i _ _ _ (by decide)]
  obtain ⟨b, s2⟩ := r
  have hS : parseS T F p = (fl s2 16 0, if b = true ∧ s2.1 19 = 0 then key else 3) := by
    unfold parseS
    dsimp only
    rw [← hkey, if_neg hk, er]
    cases b with
    | true =>
      dsimp only
      congr 1
      by_cases e : s2.1 19 = 0
      · rw [if_pos e, if_pos ⟨rfl, e⟩]
      · rw [if_neg e, if_neg (fun z => e z.2)]
    | false => rfl
  rw [hS]
  cases b with
  | false =>
    obtain ⟨S1, q1, q2, q3⟩ := g2 rfl
    refine ⟨fun hj => ⟨if_neg (t := key) (fun (z : false = true ∧ s2.1 19 = 0) => (by have := z.1; cases this)), ?_⟩, fun a1 a2 a3 => ?_⟩
    · have := stuck_eq rc q1 hj.1 q2.1
      rw [this, q3]
      exact fl_ne s2 (i := 16) 0 (by decide)
    · have := stuck_eq rc q1 (cs_e (.inl a1)) q2.1
      rw [← this] at q2
      exact (q2.2.elim (fun z => z a1) (fun z => z.elim (fun z => by rw [a2] at z; cases z) (fun z => z a3))).elim
  | true =>
    obtain ⟨E1, R1, P, q1, q2, q3, q4, q5⟩ := g1 rfl
    have okr := o2 rfl
    have k22 : s2.1 22 = 0 := okr.2.1.trans n22
    by_cases e0 : s2.1 19 = 0
    · have hst : cs key (false, E1, R1, P ++ []) = none := cs_e (.inl ((q2.1 19 (by decide)).trans e0))
      have hclD : clD 1 (P ++ []) R1 = ([], R1 ++ flu P) := by
        rw [clD_app 1 P [] R1 q4]
        rfl
      refine ⟨fun hj => ?_, fun a1 a2 a3 => ?_⟩
      · have := stuck_eq rc q1 hj.1 hst
        rw [this] at hj
        exact (hj.2.elim (fun z => z ((q2.1 19 (by decide)).trans e0)) (fun z => z.elim (fun z => by cases z) (fun z => z (q2.2.1.trans k22)))).elim
      · have := stuck_eq rc q1 (cs_e (.inl a1)) hst
        rw [this]
        dsimp only
        rw [hclD, if_pos ⟨rfl, e0⟩]
        refine ⟨rfl, (lst_fl s2 (by decide) (by decide)).trans q3, rfl, ?_, ?_, ?_⟩
        · exact (fl_ne s2 (i := 16) 0 (by decide)).trans q2.2.2.2.symm
        · have a4 := okr.1.2.1
          have a5 := okr.1.1
          have e24 : (fl s2 16 0).1 24 = s2.1 24 := fl_ne s2 (i := 16) 0 (by decide)
          rw [e24]
          have := a5.1
          have := a5.2.1
          have := a5.2.2.1
          dsimp only at *
          omega
        · exact (fl_ne s2 (i := 16) 0 (by decide)).trans h25
    · have e0' : ¬ E1 19 = 0 := fun z => e0 ((q2.1 19 (by decide)).symm.trans z)
      have hps : pstL 0 E1 P := by
        refine ⟨fun l h1 h2 h3 => ?_, fun h1 h2 => ?_⟩
        · have := q5.1 l h1 h2 h3
          unfold sgL at this ⊢
          rw [q2.1 19 (by decide), q2.1 21 (by decide)]
          exact this
        · refine q5.2 h1 ?_
          unfold sgL at h2 ⊢
          rw [q2.1 19 (by decide), q2.1 21 (by decide)] at h2
          exact h2
      have hjm : jam key (false, E1, R1, P ++ []) := jam_of hps (.inr (q2.2.1.trans k22)) (.inl e0')
      refine ⟨fun hj => ⟨if_neg (fun z => e0 z.2), ?_⟩, fun a1 a2 a3 => ?_⟩
      · have := stuck_eq rc q1 hj.1 hjm.1
        rw [this]
        exact (fl_ne s2 (i := 16) 0 (by decide)).trans (q2.1 17 (by decide)).symm
      · have := stuck_eq rc q1 (cs_e (.inl a1)) hjm.1
        rw [this] at a1
        exact (e0' a1).elim
