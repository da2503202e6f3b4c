-- OPS F: text
section OPF
variable {G : zG} {M N : zMem} {X Y : zX} {p c f T F : Nat → Nat} {b : Nat}
theorem nextF_k (T F : Nat → Nat) {i : Nat} (hi : i < 16 ∨ 22 ≤ i) : nextF T F i = F i := by
  unfold nextF nextB
  repeat' split
  all_goals (repeat rw [pu_ne _ _ (by omega)])
theorem pz_q {T : Nat → Nat} (key : Nat) {i : Nat} (hi : i < 16 ∨ 27 ≤ i) : ∀ (n lev : Nat) (s : PSt) (r : Bool × PSt), pz T key n lev s = some r → r.2.1 i = s.1 i
  | 0, lev, s, r, h => by cases h
  | n + 1, lev, s, r, h => by
    have hx : ∀ u : PSt, (nx T u).1 i = u.1 i := fun u => nextF_k T u.1 (by omega)
    have hs : ∀ (u : PSt) (w v : Nat), (stp u w v).1 i = u.1 i := fun u w v => pu_ne _ _ (by omega)
    have hf : ∀ (u : PSt) (j v : Nat), 22 ≤ j → j < 27 → (fl u j v).1 i = u.1 i := fun u j v h1 h2 => pu_ne _ _ (by omega)
    rw [pz] at h
    split at h
    · split at h
      · rename_i s1 e1
        exact (pz_q key hi n _ _ _ h).trans (pz_q key hi n _ _ _ e1)
      · exact pz_q key hi n _ _ _ h
    · split at h
      · split at h
        · cases h
          exact (hx _).trans ((hf _ _ _ (by decide) (by decide)).trans (hs _ _ _))
        · split at h
          · cases h
            exact (hx _).trans ((hf _ _ _ (by decide) (by decide)).trans (hs _ _ _))
          · split at h
            · have q : (nx T (fl s 23 (s.1 23 + 1))).1 i = s.1 i := (hx _).trans (hf _ _ _ (by decide) (by decide))
              split at h
              · rename_i s1 e1
                have z := pz_q key hi n _ _ _ e1
                cases h
                exact (hs _ _ _).trans ((hf _ _ _ (by decide) (by decide)).trans (z.trans q))
              · exact (pz_q key hi n _ _ _ h).trans q
            · split at h
              · cases h
                rfl
              · have q : (nx T (fl s 22 (s.1 22 + 1))).1 i = s.1 i := (hx _).trans (hf _ _ _ (by decide) (by decide))
                split at h
                · rename_i s1 e1
                  have z := pz_q key hi n _ _ _ e1
                  split at h
                  · cases h
                    exact (hx _).trans ((hf _ _ _ (by decide) (by decide)).trans (z.trans q))
                  · cases h
                    exact z.trans q
                · exact (pz_q key hi n _ _ _ h).trans q
      · split at h
        · split at h
          · rename_i s1 e1
            have z := (pz_q key hi n _ _ _ e1).trans (hx s)
            split at h
            · cases h
              exact (hs _ _ _).trans z
            · exact (pz_q key hi n _ _ _ h).trans ((hs _ _ _).trans z)
          · exact (pz_q key hi n _ _ _ h).trans (hx s)
        · cases h
          rfl
theorem parse_all (hT : ∀ i, T i ≤ 255) (h16 : F 16 ≤ 96) (h20 : F 20 ≤ 5287680) (h21 : F 21 ≤ 255) (hp : p 1 ≤ 14) : (parseS T F p).1.1 16 = 0 ∧ (parseS T F p).1.1 20 ≤ 5287680 ∧ (parseS T F p).1.1 21 ≤ 255 ∧ (∀ i, i < 16 ∨ 27 ≤ i → (parseS T F p).1.1 i = F i) ∧ ∀ i, i < 100 + 200 * p 1 → (parseS T F p).1.2 i = p i := by
  obtain ⟨n1, o1, e22, e23⟩ := psF_ok (p := p) hT h16 h20 h21 hp
  have ps : ∀ i, i < 16 ∨ 27 ≤ i → psF p F i = F i := fun i hi => by
    unfold psF
    repeat rw [pu_ne _ _ (by omega)]
  have p25 : 100 + 200 * p 1 ≤ psF p F 25 := by
    unfold psF
    rw [pu_eq]
    split <;> omega
  by_cases hk3 : keyW T (nextF T (psF p F)) = 3
  · have hR : parseS T F p = ((pu (nextF T (psF p F)) 16 0, p), 3) := by unfold parseS; dsimp only; rw [if_pos hk3]
    rw [hR]
    dsimp only
    refine ⟨pu_eq _ _ _, ?_, ?_, fun i hi => ?_, fun i _ => rfl⟩
    · rw [pu_ne _ _ (by decide)]; exact n1.2.2.2.2.1
    · rw [pu_ne _ _ (by decide)]; exact n1.2.2.2.2.2.1
    · rw [pu_ne _ _ (by omega), nextF_k T _ (by omega), ps i hi]
  · have h191 := keyW_1 hk3
    obtain ⟨a1, a2, a3, a4, a5⟩ := o1
    dsimp only at a1 a2 a3 a4 a5
    obtain ⟨g1, g2, g3, g4, g5, g6, g7⟩ := nx_f (s := (nextF T (psF p F), p)) hT n1 (by dsimp only; omega)
    dsimp only [nx] at g1 g2 g3 g4 g5 g6 g7
    have hq : okP 0 (nextF T (nextF T (psF p F)), p) := ⟨g1, by dsimp only; omega, by dsimp only; omega, by dsimp only; omega, by dsimp only; omega⟩
    obtain ⟨⟨bb, G1, p1⟩, hz⟩ := pz_some hT (keyW T (nextF T (psF p F))) 1000 0 _ 0 hq (by omega)
    have hof := (pz_ok hT _ 1000 0 _ _ 0 hz hq).1
    have hR1 : (parseS T F p).1 = (pu G1 16 0, p1) := by
      unfold parseS
      dsimp only
      rw [if_neg hk3, hz]
      cases bb <;> rfl
    rw [hR1]
    dsimp only at hof ⊢
    refine ⟨pu_eq _ _ _, ?_, ?_, fun i hi => ?_, fun i hi => ?_⟩
    · rw [pu_ne _ _ (by decide)]; exact hof.2.2.2.2.1
    · rw [pu_ne _ _ (by decide)]; exact hof.2.2.2.2.2.1
    · have z := pz_q _ hi 1000 0 _ _ hz
      dsimp only at z
      rw [pu_ne _ _ (by omega), z, nextF_k T _ (by omega), nextF_k T _ (by omega), ps i hi]
    · exact (pz_p _ i 1000 0 _ _ hz (fun F j hj => nextF_k T F (.inr hj)) (by dsimp only; rw [nextF_k T _ (by omega), nextF_k T _ (by omega)]; omega)).1
/-- references of old cells stay -/
def geX (X Y : zX) : Prop := (∀ a, 181 ≤ a → a < xz X → xR Y a = xR X a ∧ xc Y a = xc X a ∧ xl Y a = xl X a) ∧ xz X ≤ xz Y
theorem txt_ge {a t : Nat} (h : txt M X a c t) (hM : ∀ q, 181 ≤ q → q < xz X → N q = M q) (hX : geX X Y) : txt N Y a c t := by
  obtain ⟨⟨h1, h1b, h1c⟩, h2, h3, h4, h5, h6, h7, h8, h9, h10⟩ := h
  have e0 := hX.1 a h1 (by omega)
  have e1 := hX.1 (a + 1) (by omega) (by omega)
  have e2 := hX.1 (a + 2) (by omega) (by omega)
  have m0 := hM a h1 (by omega)
  have m1 := hM (a + 1) (by omega) (by omega)
  have hz := hX.2
  refine ⟨⟨h1, by omega, h1c⟩, by rw [e0.2.1]; exact h2, by rw [e0.1]; exact h3, by rw [e0.1]; exact h4, ⟨by rw [e1.2.1]; exact h5.1, by rw [e1.2.2]; exact h5.2⟩, ⟨by rw [e2.2.1]; exact h6.1, by rw [e2.2.2]; exact h6.2⟩, by rw [m0]; exact h7, by rw [m0]; exact h8, by rw [m0]; exact h9, fun k hk => by rw [m1]; exact h10 k hk⟩
theorem tx_ge {B : Nat} (h : tx M X B c) (hM : ∀ q, 181 ≤ q → q < xz X → N q = M q) (hX : geX X Y) (r3 : xR Y (B + 3) = xR X (B + 3)) (r4 : xR Y (B + 4) = xR X (B + 4)) : tx N Y B c := by
  refine ⟨fun t ht => ?_, fun key hk => ?_⟩
  · obtain ⟨a, e1, e2⟩ := h.1 t ht
    exact ⟨a, by rw [r3]; exact e1, txt_ge e2 hM hX⟩
  · rw [r3, r4]
    exact h.2 key hk
theorem tR_ge {B : Nat} (h : tR X B) (hX : geX X Y) (r3 : xR Y (B + 3) = xR X (B + 3)) (r4 : xR Y (B + 4) = xR X (B + 4)) : tR Y B := fun k q hq => by
  rw [r3, r4] at hq
  obtain ⟨h1, h2, h3⟩ := h k q hq
  exact ⟨by rw [(hX.1 q h2 h3).2.1]; exact h1, h2, Nat.lt_of_lt_of_le h3 hX.2⟩
theorem geX_XP (X : zX) : geX X (XP X) := ⟨fun a h1 h2 => ⟨zsR_ne _ _ (by omega), rfl, rfl⟩, Nat.le_refl _⟩
theorem XP_r (X : zX) {a : Nat} (h : a ≠ 118) : xR (XP X) a = xR X a := zsR_ne _ _ h
theorem sk_XP (h : skX X) : skX (XP X) := by
  obtain ⟨h1, h2, ⟨h3, h4, h5⟩, h6⟩ := h
  exact ⟨kR_ex (exX_XP X) h1, kM_ex (exX_XP X) h2, ⟨tR_ge h3 (geX_XP X) (XP_r X (by decide)) (XP_r X (by decide)), tR_ge h4 (geX_XP X) (XP_r X (by decide)) (XP_r X (by decide)), tR_ge h5 (geX_XP X) (XP_r X (by decide)) (XP_r X (by decide))⟩, h6⟩
theorem txX_z (X : zX) (t key s n : Nat) : xz (txX X t key s n) = xz X + 3 := rfl
theorem geX_tx (hz : 181 ≤ xz X) (t key s n : Nat) : geX X (txX (XP X) t key s n) := by
  refine ⟨fun a h1 h2 => ?_, by rw [txX_z]; show xz X ≤ xz X + 3; omega⟩
  have g := mkX_o (X := XP X) s n (b := a) h2
  exact ⟨(txX_o t key s n (by omega) (by omega)).trans (g.1.trans (zsR_ne _ _ (by omega))), g.2.1, g.2.2⟩
theorem txX_r (hz : 181 ≤ xz X) (t key s n : Nat) {a : Nat} (h1 : a ≠ 20) (h2 : a ≠ 21) (h3 : a ≠ 118) (h4 : a < 181) : xR (txX (XP X) t key s n) a = xR X a :=
  (txX_o t key s n h1 h2).trans ((mkX_o (X := XP X) s n (b := a) (show a < xz X by omega)).1.trans (zsR_ne _ _ h3))
theorem sk_tx (h : skX X) {t key s n : Nat} : skX (txX (XP X) t key s n) := by
  obtain ⟨h1, h2, ⟨h3, h4, h5⟩, h6⟩ := h
  have hz : 181 ≤ xz X := h2.1
  have ex : exX X (txX (XP X) t key s n) := ((exX_XP X).tr (exX_mk (X := XP X) hz s n)).tr ((exX_20 _ _ (.inl rfl)).tr (exX_20 _ _ (.inr rfl)))
  have g := geX_tx hz t key s n
  refine ⟨kR_ex ex h1, kM_ex ex h2, ⟨fun k q hq => ?_, tR_ge h4 g (txX_r hz t key s n (by decide) (by decide) (by decide) (by decide)) (txX_r hz t key s n (by decide) (by decide) (by decide) (by decide)), tR_ge h5 g (txX_r hz t key s n (by decide) (by decide) (by decide) (by decide)) (txX_r hz t key s n (by decide) (by decide) (by decide) (by decide))⟩, by rw [txX_z]; show (xz X + 3 - 181) % 3 = 0; omega⟩
  have hnew : xc (txX (XP X) t key s n) (xz X) = 5 := mkX_c (XP X) s n
  have hold : ∀ q, xR X 20 k = some q ∨ xR X 21 k = some q → xc (txX (XP X) t key s n) q = 5 ∧ 181 ≤ q ∧ q < xz (txX (XP X) t key s n) := fun q hq => by
    obtain ⟨a1, a2, a3⟩ := h3 k q hq
    exact ⟨by rw [(g.1 q a2 a3).2.1]; exact a1, a2, Nat.lt_of_lt_of_le a3 g.2⟩
  have e20 : xR (txX (XP X) t key s n) 20 k = if k = t then some (xz X) else xR X 20 k := (txX_20 (X := XP X) hz t key s n k).trans (by rw [XP_r X (by decide)]; rfl)
  have e21 : xR (txX (XP X) t key s n) 21 k = if k = key then some (xz X) else xR X 21 k := (txX_21 (X := XP X) hz t key s n k).trans (by rw [XP_r X (by decide)]; rfl)
  have hz2 : xz X < xz (txX (XP X) t key s n) := by rw [txX_z]; show xz X < xz X + 3; omega
  rcases hq with hq | hq
  · rw [show 17 + 3 = 20 from rfl, e20] at hq
    split at hq
    · cases hq
      exact ⟨hnew, hz, hz2⟩
    · exact hold q (.inl hq)
  · rw [show 17 + 4 = 21 from rfl, e21] at hq
    split at hq
    · cases hq
      exact ⟨hnew, hz, hz2⟩
    · exact hold q (.inr hq)
theorem wfX_us {e : Nat → Nat} {t : Nat} (hx : wfX c t) (u0 : e (100 + 200 * t) = c (100 + 200 * t)) (u1 : e (101 + 200 * t) = c (101 + 200 * t)) (u2 : e (102 + 200 * t) = c (102 + 200 * t)) (u3 : ∀ k, k < c (102 + 200 * t) → e (104 + 200 * t + 2 * k) = c (104 + 200 * t + 2 * k) ∧ e (104 + 200 * t + 2 * k + 1) = c (104 + 200 * t + 2 * k + 1)) : wfX e t := by
  obtain ⟨h1, h2, h3, h4, h5, h6⟩ := hx
  have hd := dep_us (c := c) (e := e) u3
  refine ⟨by rw [u0]; exact h1, by rw [u1]; exact h2, by rw [u2]; exact h3, by rw [u2, hd _ (Nat.le_refl _)]; exact h4, fun k hk => ?_, fun k hk => ?_⟩
  · rw [u2] at hk
    rw [u1, hd k hk]
    exact h5 k hk
  · rw [u2] at hk
    rw [u0, hd k (by omega), (u3 k hk).1, (u3 k hk).2]
    exact h6 k hk
theorem wfX_lo {e : Nat → Nat} {t : Nat} (hx : wfX c t) (ha : ∀ i, i < 300 + 200 * t → e i = c i) : wfX e t :=
  wfX_us hx (ha _ (by omega)) (ha _ (by omega)) (ha _ (by omega)) (fun k hk => by
    have := hx.2.2.1
    exact ⟨ha _ (by omega), ha _ (by omega)⟩)
theorem wf_1 {q : Nat → Nat} {D : Nat} (h : wf p b D) (hT : wfT q) (e : ∀ i, i < 100 → i ≠ 1 → q i = p i) : wf q b D := by
  obtain ⟨h1, h2, h3, h4, h5, h6, h7, h8, h9⟩ := h
  refine ⟨⟨by rw [e 0 (by omega) (by omega)]; exact h1.1, fun k hk => ?_⟩, ⟨by rw [e 8 (by omega) (by omega)]; exact h2.1, fun k hk => ?_⟩, hT, ?_⟩
  · rw [e 0 (by omega) (by omega)] at hk
    have := h1.1
    rw [e _ (by omega) (by omega), e _ (by omega) (by omega), e _ (by omega) (by omega), e _ (by omega) (by omega), e _ (by omega) (by omega)]
    exact h1.2 k hk
  · rw [e 8 (by omega) (by omega)] at hk
    have := h2.1
    rw [e _ (by omega) (by omega), e _ (by omega) (by omega), e _ (by omega) (by omega), e _ (by omega) (by omega), e _ (by omega) (by omega)]
    exact h2.2 k hk
  · rw [e 2 (by omega) (by omega), e 3 (by omega) (by omega), e 4 (by omega) (by omega), e 5 (by omega) (by omega), e 6 (by omega) (by omega), e 7 (by omega) (by omega)]
    exact ⟨h4, h5, h6, h7, h8, h9⟩
/-- the class' town with another row's texts -/
def wiT (c q : Nat → Nat) : Nat → Nat := fun i => if i < 100 then c i else q i
theorem wiT_lo (c q : Nat → Nat) {i : Nat} (h : i < 100) : wiT c q i = c i := if_pos h
theorem wiT_hi (c q : Nat → Nat) {i : Nat} (h : 100 ≤ i) : wiT c q i = q i := if_neg (by omega)
theorem txN_at (M : zMem) (q : Nat → Nat) (R : Nat → Int32) (o : Nat → Nat) : txN M q R o 16 = upd (M 16) 7 (nI 0) ∧ ∀ a, a ≠ 16 → a ≠ 118 → a ≠ 120 → a ≠ 121 → txN M q R o a = M a := by
  unfold txN
  refine ⟨by rw [zs_eq, pq_n _ _ _ _ (by decide) (by decide) (by decide)], fun a h1 h2 h3 h4 => by rw [zs_ne _ _ h1, pq_n _ _ _ _ h2 h3 h4]⟩
/-- behind text: what both sides share -/
theorem Iv_text {M1 M4 : zMem} {X1 : zX} {c2 p2 F2 : Nat → Nat} (hv : Iv M X p c f b) (sk : skX X1) (g : geX X X1) (r51 : xR X1 51 = xR X 51) (r52 : xR X1 52 = xR X 52) (m1 : ∀ a, ¬ (17 ≤ a ∧ a < 48) → a ≠ 16 → a ≠ 118 → a ≠ 120 → a ≠ 121 → a < xz X → M1 a = M a) (m2 : M1 16 = upd (M 16) 7 (nI 0)) (h4 : M4 = mf M1 F2 p2) (hc : cm M1 17 c2 = M1) (hl : lvE p2 c2) (hw : wf p2 b 9999) (hx : tx M1 X1 17 c2) (F : Nat → Nat) (hF : M 160 = nIf F) (y2 : F 3 ≤ 1) (y3 : F 31 ≤ 60) (y4 : M 16 3 = nI (F 3)) (y5 : M 16 11 = nI (F 31)) (z1 : F2 16 = 0) (z2 : F2 20 ≤ 5287680) (z3 : F2 21 ≤ 255) (z4 : ∀ i, i < 16 ∨ 27 ≤ i → F2 i = F i) : Iv M4 X1 p2 c2 f b := by
  obtain ⟨i1, i2, i3, i4, i5, i6, i7, i8⟩ := hv
  have hz : 181 ≤ xz X := i1.2.1.1
  have w160 : M4 160 = nIf F2 := by rw [h4]; unfold mf; rw [mm_ne _ _ (by decide), zs_eq]
  have wo : ∀ a, a ≠ 160 → a ≠ 161 → M4 a = M1 a := fun a h1 h2 => by rw [h4]; unfold mf; rw [mm_ne _ _ h2, zs_ne _ _ h1]
  have w16 : M4 16 = upd (M 16) 7 (nI 0) := (wo 16 (by decide) (by decide)).trans m2
  have w2 : ∀ a, a ≠ 160 → a ≠ 161 → ¬ (17 ≤ a ∧ a < 48) → a ≠ 16 → a ≠ 118 → a ≠ 120 → a ≠ 121 → a < xz X → M4 a = M a := fun a h1 h2 h3 h4 h5 h6 h7 h8 => (wo a h1 h2).trans (m1 a h3 h4 h5 h6 h7 h8)
  have hA : Ax M4 := by
    refine ⟨tapR_of i8.1 (w2 _ (by omega) (by omega) (by omega) (by omega) (by omega) (by omega) (by omega) (by omega)) (w2 _ (by omega) (by omega) (by omega) (by omega) (by omega) (by omega) (by omega) (by omega)), ⟨F2, w160, by omega, z2, z3, by rw [z4 3 (by omega)]; exact y2, by rw [z4 31 (by omega)]; exact y3, ?_, ?_, ?_⟩, waiR_of i8.2.2.1 (w2 _ (by omega) (by omega) (by omega) (by omega) (by omega) (by omega) (by omega) (by omega)) (w2 _ (by omega) (by omega) (by omega) (by omega) (by omega) (by omega) (by omega) (by omega)), sheR_of i8.2.2.2.1 (fun a ha => w2 a (by omega) (by omega) (by omega) (by omega) (by omega) (by omega) (by omega) (by omega)), sloR_of i8.2.2.2.2 (fun a ha => w2 a (by omega) (by omega) (by omega) (by omega) (by omega) (by omega) (by omega) (by omega))⟩
    · rw [w16, upd_o _ _ (by decide), z4 3 (by omega)]; exact y4
    · rw [w16, upd_i, z1]
    · rw [w16, upd_o _ _ (by decide), z4 31 (by omega)]; exact y5
  refine ⟨sk, mm_of (by rw [h4]; unfold mf mm; exact zs_eq _ _ _), cm_in hc (fun a h1 h2 => wo a (by omega) (by omega)), hl, hw, tx_of hx (fun a ha => wo a (by unfold txA at ha; omega) (by unfold txA at ha; omega)), ⟨cm_in i7.1 (fun a h1 h2 => w2 a (by omega) (by omega) (by omega) (by omega) (by omega) (by omega) (by omega) (by omega)), ?_⟩, hA⟩
  rw [w16, upd_o _ _ (by decide), imP_of (w2 162 (by omega) (by omega) (by omega) (by omega) (by omega) (by omega) (by omega) (by omega))]
  rcases i7.2 with h | ⟨h1, h2, h3⟩
  · exact .inl h
  · exact .inr ⟨h1, h2, tx_ge h3 (fun q k1 k2 => w2 q (by omega) (by omega) (by omega) (by omega) (by omega) (by omega) (by omega) k2) g r51 r52⟩
theorem op_text (hv : Iv M X p c f b) (hf : zFm G) : OpC G miX9_text miX10_text [] M X (IvE b) 3 197 := by
  obtain ⟨i1, i2, i3, i4, i5, i6, i7, i8⟩ := id hv
  obtain ⟨T, t1, t2, t3⟩ := i8.1
  obtain ⟨F, y1, y2, y3, y4, y5, y6, y7, y8, y9⟩ := i8.2.1
  have w := lvE_wf i4 i5
  have hp1 := i5.2.2.1.1
  have c1 : c 1 = p 1 := i4.n (by decide)
  have hz : 181 ≤ xz X := i1.2.1.1
  obtain ⟨a1, a2, a3, a4, a5⟩ := parse_all (T := T) (F := F) (p := p) t1 y2 y3 y4 hp1
  have hC := k_text 0 G M X i1.1 c (by omega) T t3 t1 hf (F 16) y8 y2 F p rfl y3 y4 hp1
  rw [i3] at hC
  have hrr : ∀ r0 M1 X1, txP M X c T F p r0 M1 X1 → r0 = r_text T F p := by
    intro r0 M1 X1 h
    obtain ⟨q, R, o, h | h | h⟩ := h
    · rw [h.2.1]; unfold r_text; rw [if_pos h.1]
    · rw [h.2.2.1]; unfold r_text; rw [if_neg (by omega), if_pos (by omega)]
    · rw [h.2.2.1]; unfold r_text; rw [if_neg (by omega), if_neg (by omega), c1]
  refine ⟨_, 0 + 66, r_text T F p, fun M1 X1 => txP M X c T F p (r_text T F p) M1 X1, by decide, by decide, hC.post (fun v M1 X1 h => ?_), fun M1 X1 h1 => ?_⟩
  · obtain ⟨r0, e1, e2⟩ := h
    have := hrr r0 M1 X1 e2
    exact ⟨r0, e1, this, this ▸ e2⟩
  · have key : (skX X1 ∧ geX X X1 ∧ xR X1 51 = xR X 51 ∧ xR X1 52 = xR X 52) ∧ (∀ a, ¬ (17 ≤ a ∧ a < 48) → a ≠ 16 → a ≠ 118 → a ≠ 120 → a ≠ 121 → a < xz X → M1 a = M a) ∧ M1 16 = upd (M 16) 7 (nI 0) ∧ ∃ c2, cm M1 17 c2 = M1 ∧ lvE (p_text T F p) c2 ∧ wf (p_text T F p) b 9999 ∧ tx M1 X1 17 c2 := by
      obtain ⟨q, R, o, h⟩ := h1
      obtain ⟨n16, no⟩ := txN_at M q R o
      have soft : p_text T F p = (parseS T F p).1.2 → M1 = cm (txN M q R o) 17 c → X1 = XP X → (skX X1 ∧ geX X X1 ∧ xR X1 51 = xR X 51 ∧ xR X1 52 = xR X 52) ∧ (∀ a, ¬ (17 ≤ a ∧ a < 48) → a ≠ 16 → a ≠ 118 → a ≠ 120 → a ≠ 121 → a < xz X → M1 a = M a) ∧ M1 16 = upd (M 16) 7 (nI 0) ∧ ∃ c2, cm M1 17 c2 = M1 ∧ lvE (p_text T F p) c2 ∧ wf (p_text T F p) b 9999 ∧ tx M1 X1 17 c2 := by
        intro ep eM eX
        subst eX
        have mo : ∀ a, ¬ (17 ≤ a ∧ a < 48) → a ≠ 16 → a ≠ 118 → a ≠ 120 → a ≠ 121 → M1 a = M a := fun a k1 k2 k3 k4 k5 => by rw [eM, cm_o (ix_n (by omega)), no a k2 k3 k4 k5]
        rw [ep]
        refine ⟨⟨sk_XP i1, geX_XP X, XP_r X (by decide), XP_r X (by decide)⟩, fun a k1 k2 k3 k4 k5 _ => mo a k1 k2 k3 k4 k5, by rw [eM, cm_o (ix_n (by omega)), n16], wiT c (parseS T F p).1.2, ?_, fun i hi => ?_, ?_, ?_⟩
        · rw [eM, cm_cm]
          exact cm_lo (fun i hi => wiT_lo _ _ hi)
        · by_cases h100 : i < 100
          · rw [wiT_lo _ _ h100, a5 i (by omega)]
            refine i4 i ?_
            unfold liv at hi ⊢
            rw [a5 0 (by omega), a5 8 (by omega)] at hi
            exact hi
          · rw [wiT_hi _ _ (by omega)]
        · refine wf_1 i5 ⟨by rw [a5 1 (by omega)]; exact hp1, fun t ht => ?_⟩ (fun i h100 _ => a5 i (by omega))
          rw [a5 1 (by omega)] at ht
          exact wfX_lo (i5.2.2.1.2 t ht) (fun i hi => a5 i (by omega))
        · refine tx_ge (tx_us i6 (wiT_lo _ _ (by omega)) (fun t ht => ?_)) (fun a k1 k2 => mo a (by omega) (by omega) (by omega) (by omega) (by omega)) (geX_XP X) (XP_r X (by decide)) (XP_r X (by decide))
          have hh : ∀ i, 100 ≤ i → i < 300 + 200 * t → wiT c (parseS T F p).1.2 i = c i := fun i k1 k2 => by rw [wiT_hi _ _ k1, a5 i (by omega), i4.t k1]
          have h96 := (w.2.2.1.2 t ht).2.2.1
          exact ⟨hh _ (by omega) (by omega), hh _ (by omega) (by omega), hh _ (by omega) (by omega), fun k hk => ⟨hh _ (by omega) (by omega), hh _ (by omega) (by omega)⟩⟩
      rcases h with ⟨k3, -, eM, eX⟩ | ⟨k3, k14, -, eM, eX⟩ | ⟨k3, k14, -, eM, eX, b24, b26, hlay, hg, h25⟩
      · exact soft (by unfold p_text; rw [if_pos (.inl k3)]) eM eX
      · exact soft (by unfold p_text; rw [if_pos (.inr (by omega))]) eM eX
      · have hp14 : p 1 < 14 := by omega
        obtain ⟨v0, v1, v2, v3, v4⟩ := ptext_v (T := T) (F := F) hp14 k3
        obtain ⟨wx, ws⟩ := ptext_wf hp14 k3 b24 b26 hg h25
        have e25 : (parseS T F p).1.1 25 = 104 + 200 * p 1 := by
          rw [h25]
          unfold psF
          rw [pu_eq, if_pos hp14]
          omega
        have plo : ∀ i, i < 100 + 200 * p 1 → i ≠ 1 → p_text T F p i = p i := fun i hi h1 => by
          unfold p_text
          rw [if_neg (by omega), pu_ne _ _ h1, pu_ne _ _ (by omega), pu_ne _ _ (by omega), pu_ne _ _ (by omega), a5 i hi]
        subst eX
        have mo : ∀ a, ¬ (17 ≤ a ∧ a < 48) → a ≠ 16 → a ≠ 118 → a ≠ 120 → a ≠ 121 → a < xz X → M1 a = M a := fun a k1 k2 k3 k4 k5 k6 => by
          rw [eM, cm_o (ix_n (by omega))]
          unfold mkM
          rw [zs_ne _ _ (by omega), zs_ne _ _ (by omega), zs_ne _ _ (by omega), no a k2 k3 k4 k5]
        refine ⟨⟨sk_tx i1, geX_tx hz _ _ _ _, txX_r hz _ _ _ _ (by decide) (by decide) (by decide) (by decide), txX_r hz _ _ _ _ (by decide) (by decide) (by decide) (by decide)⟩, mo, ?_, wiT (pu c 1 (c 1 + 1)) (p_text T F p), ?_, fun i hi => ?_, ?_, ?_⟩
        · rw [eM, cm_o (ix_n (by omega))]
          unfold mkM
          rw [zs_ne _ _ (by omega), zs_ne _ _ (by omega), zs_ne _ _ (by omega), n16]
        · rw [eM, cm_cm]
          exact cm_lo (fun i hi => wiT_lo _ _ hi)
        · by_cases h100 : i < 100
          · rw [wiT_lo _ _ h100]
            by_cases e1 : i = 1
            · subst e1
              rw [pu_eq, v4, c1]
            · rw [pu_ne _ _ e1, plo i (by omega) e1]
              refine i4 i ?_
              unfold liv at hi ⊢
              rw [plo 0 (by omega) (by omega), plo 8 (by omega) (by omega)] at hi
              exact hi
          · rw [wiT_hi _ _ (by omega)]
        · refine wf_1 i5 ⟨by rw [v4]; omega, fun t ht => ?_⟩ (fun i h100 h1 => plo i (by omega) h1)
          rw [v4] at ht
          by_cases et : t = p 1
          · rw [et]; exact wx
          · have hxt := i5.2.2.1.2 t (by omega)
            have h96 := hxt.2.2.1
            exact wfX_us hxt (plo _ (by omega) (by omega)) (plo _ (by omega) (by omega)) (plo _ (by omega) (by omega)) (fun k hk => ⟨plo _ (by omega) (by omega), plo _ (by omega) (by omega)⟩)
        · rw [eM]
          refine tx_text i1.1 i1.2.2.2 i6 q R o (t := c 1) rfl k3 ?_ (fun i k1 k2 => ?_) ?_ ?_ ?_ (fun k hk => ?_) (fun t1 h1 => (w.2.2.1.2 t1 h1).2.2.1) _
          · rw [wiT_lo _ _ (by decide), pu_eq]
          · rw [wiT_hi _ _ k1, plo i (by omega) (by omega), i4.t k1]
          · rw [wiT_hi _ _ (by omega), c1]; exact v0
          · rw [wiT_hi _ _ (by omega), c1]; exact v1
          · rw [wiT_hi _ _ (by omega), c1]; exact v2
          · rw [wiT_hi _ _ (by omega), wiT_hi _ _ (by omega), c1]
            refine ⟨?_, (ws k hk).2.2.2.2.2⟩
            have hl := hlay k (by rw [lst_len]; exact hk)
            rw [hl]
            unfold lst
            rw [List.getD_eq_getElem?_getD, List.getElem?_map, List.getElem?_range hk]
            show encS _ ((parseS T F p).1.2 ((parseS T F p).1.1 25 + 2 * k)) ((parseS T F p).1.2 ((parseS T F p).1.1 25 + 2 * k + 1)) = _
            rw [e25, v3 _ (by omega), v3 _ (by omega)]
    obtain ⟨⟨sk, g, r51, r52⟩, m1, m2, c2, hc2, hl2, hw2, hx2⟩ := key
    have hk := sk.2.1
    have e160 : M1 160 = nIf F := by rw [m1 160 (by omega) (by omega) (by omega) (by omega) (by omega) (by omega)]; exact y1
    have hm : mf M1 F p = M1 := by
      unfold mf
      rw [← e160, zs_id]
      exact mm_of (by rw [m1 161 (by omega) (by omega) (by omega) (by omega) (by omega) (by omega)]; exact mm_161 i2)
    have t2' : tpN M1 T := by
      unfold tpN
      rw [m1 175 (by omega) (by omega) (by omega) (by omega) (by omega) (by omega)]
      exact t2
    have hR := c_text 0 G M1 X1 hk T t2' t1 F p y2 y3 y4 hp1
    rw [hm] at hR
    refine ⟨⟨hk.2.1, kM_lt hk⟩, hR.post (fun v M4 X4 h => ⟨r_text T F p, h.1, rfl, p_text T F p, c2, f, ?_⟩)⟩
    rw [h.2.2]
    exact Iv_text hv sk g r51 r52 m1 m2 h.2.1 hc2 hl2 hw2 hx2 F y1 y5 y6 y7 y9 a1 a2 a3 a4
end OPF
