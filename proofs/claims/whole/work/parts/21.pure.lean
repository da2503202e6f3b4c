-- PURE: a day keeps a town as it must be
/-- what no part of a day writes but the day's end -/
def fixd (i : Nat) : Prop := i = 0 ∨ i = 1 ∨ i = 2 ∨ i = 6 ∨ i = 7 ∨ i = 8 ∨ 100 ≤ i
def keepP (p q : Nat → Nat) : Prop := ∀ i, fixd i → q i = p i
theorem keepP.rf (p : Nat → Nat) : keepP p p := fun _ _ => rfl
theorem keepP.tr {p q r : Nat → Nat} (h1 : keepP p q) (h2 : keepP q r) : keepP p r := fun i hi => (h2 i hi).trans (h1 i hi)
theorem keepP.pu {p q : Nat → Nat} (h : keepP p q) {i v : Nat} (hi : i = 3 ∨ i = 4 ∨ i = 5 ∨ i = 9 ∨ (10 ≤ i ∧ i < 100)) : keepP p (pu q i v) := fun j hj => by
  unfold fixd at hj
  rw [pu_ne _ _ (by omega)]
  exact h j hj
theorem keepP.n0 {p q : Nat → Nat} (h : keepP p q) : q 0 = p 0 := h 0 (by unfold fixd; omega)
theorem keepP.n1 {p q : Nat → Nat} (h : keepP p q) : q 1 = p 1 := h 1 (by unfold fixd; omega)
theorem keepP.n2 {p q : Nat → Nat} (h : keepP p q) : q 2 = p 2 := h 2 (by unfold fixd; omega)
theorem keepP.n8 {p q : Nat → Nat} (h : keepP p q) : q 8 = p 8 := h 8 (by unfold fixd; omega)
theorem keep_draw (p : Nat → Nat) : keepP p (drawZ p) := (keepP.rf p).pu (by omega)
theorem keep_tries {p : Nat → Nat} (k : Nat) (h8 : p 8 ≤ 10) : keepP p (triesP p k) := by
  unfold triesP
  split
  · split
    · refine ((keep_draw p).pu ?_).pu (by omega)
      omega
    · exact keep_draw p
  · exact keepP.rf p
theorem keep_go {p : Nat → Nat} {k l : Nat} (hk : k < 8) (hs : p (50 + 5 * l + 2) ≤ 2) : keepP p (goP p k l) := (((keepP.rf p).pu (by omega)).pu (by omega)).pu (by omega)
theorem keep_more {p : Nat → Nat} {k j b : Nat} (hk : k < 8) (hj : j ≤ 2) : keepP p (moreP p k j b) := (keepP.rf p).pu (by omega)
theorem keep_halves {p : Nat → Nat} {k : Nat} (hk : k < 8) : keepP p (halvesP p k) := (((keepP.rf p).pu (by omega)).pu (by omega)).pu (by omega)
theorem wf.day {p : Nat → Nat} {b D : Nat} (h : wf p b D) : p 2 ≤ D := h.2.2.2.1
theorem wf_T {p q : Nat → Nat} (h : keepP p q) (ht : wfT p) : wfT q := wfT_same h.n1 (fun i hi => h i (by unfold fixd; omega)) ht
theorem wf_mono {p : Nat → Nat} {b b' D D' : Nat} (h : wf p b D) (hb : b ≤ b') (hD : D ≤ D') : wf p b' D' := by
  obtain ⟨h1, h2, h3, h4, h5, h6, h7, h8, h9⟩ := h
  exact ⟨h1, h2, h3, by omega, by omega, by omega, by omega, h8, h9⟩
theorem wf_draw {p : Nat → Nat} {b D : Nat} (h : wf p b D) : wf (drawZ p) b D := by
  obtain ⟨h1, h2, h3, h4, h5, h6, h7, h8, h9⟩ := h
  refine ⟨wfO_off h1 (by omega) (by omega), wfL_off h2 (by omega) (by omega), wf_T (keep_draw p) h3, ?_⟩
  rw [drawZ_ne _ (by omega), drawZ_ne _ (by omega), drawZ_ne _ (by omega), drawZ_ne _ (by omega), drawZ_ne _ (by omega), drawZ_ne _ (by omega)]
  exact ⟨h4, h5, h6, h7, h8, h9⟩
theorem wf_tries {p : Nat → Nat} {b D : Nat} (h : wf p b D) (k : Nat) : wf (triesP p k) (b + 1) D ∧ triesP p k 3 = p 3 ∧ triesP p k 4 = p 4 := by
  have hd := wf_draw h
  have h8 := h.2.1.1
  have hb5 := h.2.2.2.2.2.2.1
  have hk := keep_tries (p := p) k h8
  unfold triesP at hk ⊢
  split
  · rename_i hF
    split
    · rename_i hv
      rw [if_pos hF, if_pos hv] at hk
      obtain ⟨h1, h2, h3, h4, h5, h6, h7, h9, h10⟩ := hd
      refine ⟨⟨wfO_off (wfO_off h1 (by omega) (by omega)) (by omega) (by omega), wfL_off (wfL_jam h2 (by omega)) (by omega) (by omega), wf_T hk h.2.2.1, ?_⟩, ?_⟩
      · rw [pu_ne _ _ (by omega), pu_ne _ _ (by omega), pu_ne _ _ (by omega), pu_ne _ _ (by omega), pu_ne _ _ (by omega), pu_ne _ _ (by omega), pu_eq, pu_ne _ _ (by omega), pu_ne _ _ (by omega), pu_ne _ _ (by omega), pu_ne _ _ (by omega)]
        exact ⟨h4, by omega, by omega, by omega, h9, h10⟩
      · rw [pu_ne _ _ (by omega), pu_ne _ _ (by omega), pu_ne _ _ (by omega), pu_ne _ _ (by omega), drawZ_ne _ (by omega), drawZ_ne _ (by omega)]
        exact ⟨rfl, rfl⟩
    · exact ⟨wf_mono hd (by omega) (Nat.le_refl _), drawZ_ne _ (by omega), drawZ_ne _ (by omega)⟩
  · exact ⟨wf_mono h (by omega) (Nat.le_refl _), rfl, rfl⟩
theorem wornP_le (p : Nat → Nat) {k r s : Nat} (h : r ≤ 99) : wornP p k r s ≤ 99 := by unfold wornP; omega
theorem wf_go {p : Nat → Nat} {b D : Nat} (h : wf p b D) {k l : Nat} (hk : k < p 0) (hl : l < p 8) (h3b : p 3 + 1 ≤ b) : wf (goP p k l) b D := by
  obtain ⟨h1, h2, h3, h4, h5, h6, h7, h8, h9⟩ := h
  have hl5 := h2.2 l hl
  have h0 := h1.1
  have hr := h1.reg hk (j := p (50 + 5 * l + 2)) (by omega)
  have ho := wfO_reg h1 (k := k) (j := p (50 + 5 * l + 2)) (v := wornP p (p (10 + 5 * k + 0)) (p (10 + 5 * k + (2 + p (50 + 5 * l + 2)))) (p (50 + 5 * l + 2))) hk (by omega) (wornP_le p hr)
  have ho2 := wfO_room ho (k := k) (v := p (50 + 5 * l + 1)) (by omega) (by rw [pu_ne _ _ (by omega)]; exact hk)
  refine ⟨wfO_off ho2 (by omega) (by omega), wfL_off (wfL_off (wfL_off h2 (by omega) (by omega)) (by omega) (by omega)) (by omega) (by omega), wf_T (keep_go (by omega) (by omega)) h3, ?_⟩
  unfold goP
  rw [pu_eq]
  repeat rw [pu_ne _ _ (by omega)]
  exact ⟨h4, by omega, h6, h7, h8, h9⟩
theorem wf_more {p : Nat → Nat} {b D : Nat} (h : wf p b D) {k j a : Nat} (hk : k < p 0) (hj : j ≤ 2) : wf (moreP p k j a) b D := by
  obtain ⟨h1, h2, h3, h4, h5, h6, h7, h8, h9⟩ := h
  have h0 := h1.1
  refine ⟨wfO_reg h1 hk hj (by omega), wfL_off h2 (by omega) (by omega), wf_T (keep_more (by omega) hj) h3, ?_⟩
  unfold moreP
  repeat rw [pu_ne _ _ (by omega)]
  exact ⟨h4, h5, h6, h7, h8, h9⟩
theorem wf_halves {p : Nat → Nat} {b D : Nat} (h : wf p b D) {k : Nat} (hk : k < p 0) : wf (halvesP p k) b D := by
  obtain ⟨h1, h2, h3, h4, h5, h6, h7, h8, h9⟩ := h
  have h0 := h1.1
  have hr := h1.2 k hk
  have o1 := wfO_reg h1 (k := k) (j := 0) (v := p (10 + 5 * k + 2) / 2) hk (by omega) (by omega)
  have o2 := wfO_reg o1 (k := k) (j := 1) (v := p (10 + 5 * k + 3) / 2) (by rw [pu_ne _ _ (by omega)]; exact hk) (by omega) (by omega)
  have o3 := wfO_reg o2 (k := k) (j := 2) (v := p (10 + 5 * k + 4) / 2) (by rw [pu_ne _ _ (by omega), pu_ne _ _ (by omega)]; exact hk) (by omega) (by omega)
  refine ⟨o3, wfL_off (wfL_off (wfL_off h2 (by omega) (by omega)) (by omega) (by omega)) (by omega) (by omega), wf_T (keep_halves (by omega)) h3, ?_⟩
  unfold halvesP
  repeat rw [pu_ne _ _ (by omega)]
  exact ⟨h4, h5, h6, h7, h8, h9⟩
theorem doorP_le (p : Nat → Nat) (k : Nat) : doorP p k ≤ p 8 := by
  have := fi_le (fun l => p (50 + 5 * l + 0) = p (10 + 5 * k + 1) ∧ p (50 + 5 * l + 4) = 0 ∧ p (50 + 5 * l + 3) ≤ feelsN (p (10 + 5 * k + 0)) (p (10 + 5 * k + (2 + p (50 + 5 * l + 2))))) (p 8 - 0) 0
  unfold doorP
  omega
theorem wf_on {p : Nat → Nat} {b D : Nat} (h : wf p b D) {k : Nat} (hk : k < p 0) (h3b : p 3 + 1 ≤ b) (h4b : p 4 + 1 ≤ b) : wf (onP p k) b D ∧ keepP p (onP p k) := by
  have h0 := h.1.1
  unfold onP
  split
  · rename_i hd
    exact ⟨wf_go h hk hd h3b, keep_go (by omega) ((h.2.1.2 _ hd).2.2.1)⟩
  · have h1 : wf (pu p 4 (p 4 + 1)) b D := by
      obtain ⟨h1, h2, h3, h4, h5, h6, h7, h8, h9⟩ := h
      refine ⟨wfO_off h1 (by omega) (by omega), wfL_off h2 (by omega) (by omega), wfT_off h3 (by omega) (by omega), ?_⟩
      rw [pu_eq]
      repeat rw [pu_ne _ _ (by omega)]
      exact ⟨h4, h5, h4b, h7, h8, h9⟩
    exact ⟨wf_more h1 (by rw [pu_ne _ _ (by omega)]; exact hk) (by omega), ((keepP.rf p).pu (by omega)).tr (keep_more (by omega) (by omega))⟩
theorem wf_person {p : Nat → Nat} {b D : Nat} (h : wf p b D) {k : Nat} (hk : k < p 0) : wf (personP p k) (b + 1) D ∧ keepP p (personP p k) := by
  have h0 := h.1.1
  have h8 := h.2.1.1
  have hb3 := h.2.2.2.2.1
  have hb4 := h.2.2.2.2.2.1
  unfold personP
  split
  · obtain ⟨t1, t2, t3⟩ := wf_tries h k
    have kt := keep_tries (p := p) k h8
    have := wf_on t1 (k := k) (by rw [kt.n0]; exact hk) (by omega) (by omega)
    exact ⟨this.1, kt.tr this.2⟩
  · exact wf_on (wf_mono h (b' := b + 1) (by omega) (Nat.le_refl _)) hk (by omega) (by omega)
theorem wf_people {p : Nat → Nat} {b D : Nat} (h : wf p b D) : ∀ k, k ≤ p 0 → wf (peopleP p k) (b + k) D ∧ keepP p (peopleP p k)
  | 0, _ => ⟨h, keepP.rf p⟩
  | k + 1, hk => by
    obtain ⟨i1, i2⟩ := wf_people h k (by omega)
    have := wf_person i1 (k := k) (by rw [i2.n0]; omega)
    exact ⟨this.1, i2.tr this.2⟩
theorem wf_deed {p : Nat → Nat} {b D : Nat} (h : wf p b D) : wf (deedP p) b D ∧ keepP p (deedP p) := by
  have h0 := h.1.1
  unfold deedP
  split
  · rename_i hc
    have hm : drawV (drawZ p) % p 0 < p 0 := Nat.mod_lt _ hc.2
    have k3 := ((keep_draw p).tr (keep_draw (drawZ p))).tr (keep_draw (drawZ (drawZ p)))
    exact ⟨wf_more (wf_draw (wf_draw (wf_draw h))) (by rw [k3.n0]; exact hm) (by omega), k3.tr (keep_more (by omega) (by omega))⟩
  · exact ⟨wf_draw h, keep_draw p⟩
theorem wf_pardon {p : Nat → Nat} {b D : Nat} (h : wf p b D) : wf (pardonP p) b D ∧ keepP p (pardonP p) := by
  have h0 := h.1.1
  unfold pardonP
  split
  · rename_i hc
    have hm : drawV (drawZ p) % p 0 < p 0 := Nat.mod_lt _ hc.2
    have k2 := (keep_draw p).tr (keep_draw (drawZ p))
    exact ⟨wf_halves (wf_draw (wf_draw h)) (by rw [k2.n0]; exact hm), k2.tr (keep_halves (by omega))⟩
  · exact ⟨wf_draw h, keep_draw p⟩
theorem wf_mend {p : Nat → Nat} {b D : Nat} (h : wf p b D) : ∀ k, k ≤ 10 → wf (mendP p k) b D ∧ keepP p (mendP p k)
  | 0, _ => ⟨h, keepP.rf p⟩
  | k + 1, hk => by
    obtain ⟨⟨h1, h2, h3, h4, h5, h6, h7, h8, h9⟩, i2⟩ := wf_mend h k (by omega)
    refine ⟨⟨wfO_off h1 (by omega) (by omega), wfL_jam h2 (by omega), wfT_off h3 (by omega) (by omega), ?_⟩, i2.pu (by omega)⟩
    rw [mendP]
    repeat rw [pu_ne _ _ (by omega)]
    exact ⟨h4, h5, h6, h7, h8, h9⟩
/-- a day from where all have gone on -/
def restP (p : Nat → Nat) : Nat → Nat := pu (if pardonP (deedP p) 2 % 5 = 4 then mendP (pardonP (deedP p)) (pardonP (deedP p) 8) else pardonP (deedP p)) 2 (pardonP (deedP p) 2 + 1)
theorem dayP_eq (p : Nat → Nat) : dayP p = restP (peopleP p (p 0)) := rfl
theorem wf_rest {p : Nat → Nat} {b D : Nat} (h : wf p b D) : wf (restP p) b (D + 1) := by
  obtain ⟨d1, d2⟩ := wf_deed h
  obtain ⟨e1, e2⟩ := wf_pardon d1
  have h8 := e1.2.1.1
  have hq : wf (if pardonP (deedP p) 2 % 5 = 4 then mendP (pardonP (deedP p)) (pardonP (deedP p) 8) else pardonP (deedP p)) b D := by
    split
    · exact (wf_mend e1 _ h8).1
    · exact e1
  have hday := e1.day
  unfold restP
  generalize (if pardonP (deedP p) 2 % 5 = 4 then mendP (pardonP (deedP p)) (pardonP (deedP p) 8) else pardonP (deedP p)) = q at hq ⊢
  obtain ⟨h1, h2, h3, h4, h5, h6, h7, h8, h9⟩ := hq
  refine ⟨wfO_off h1 (by omega) (by omega), wfL_off h2 (by omega) (by omega), wfT_off h3 (by omega) (by omega), ?_⟩
  rw [pu_eq]
  repeat rw [pu_ne _ _ (by omega)]
  exact ⟨by omega, h5, h6, h7, h8, h9⟩
theorem wf_day {p : Nat → Nat} {b D : Nat} (h : wf p b D) : wf (dayP p) (b + 8) (D + 1) := by
  have h0 := h.1.1
  rw [dayP_eq]
  exact wf_mono (wf_rest (wf_people h (p 0) (Nat.le_refl _)).1) (by omega) (Nat.le_refl _)
theorem wf_days {p : Nat → Nat} {b D : Nat} (h : wf p b D) : ∀ n, wf (daysP p n) (b + 8 * n) (D + n)
  | 0 => h
  | n + 1 => wf_mono (wf_day (wf_days h n)) (by omega) (by omega)
