-- LIVE: what lives in a town decides of all that it does
def liv (p : Nat → Nat) (i : Nat) : Prop := i < 10 ∨ 100 ≤ i ∨ (i < 50 ∧ i < 10 + 5 * p 0) ∨ (50 ≤ i ∧ i < 50 + 5 * p 8)
def lvE (p q : Nat → Nat) : Prop := ∀ i, liv p i → q i = p i
theorem lvE.rf (p : Nat → Nat) : lvE p p := fun _ _ => rfl
theorem lvE.n {p q : Nat → Nat} (h : lvE p q) {i : Nat} (hi : i < 10) : q i = p i := h i (.inl hi)
theorem lvE.t {p q : Nat → Nat} (h : lvE p q) {i : Nat} (hi : 100 ≤ i) : q i = p i := h i (.inr (.inl hi))
theorem lvE.o {p q : Nat → Nat} (h : lvE p q) (h0 : p 0 ≤ 8) {k j : Nat} (hk : k < p 0) (hj : j < 5) : q (10 + 5 * k + j) = p (10 + 5 * k + j) := h _ (by unfold liv; omega)
theorem lvE.l {p q : Nat → Nat} (h : lvE p q) {k j : Nat} (hk : k < p 8) (hj : j < 5) : q (50 + 5 * k + j) = p (50 + 5 * k + j) := h _ (by unfold liv; omega)
theorem lvE.tr {p q r : Nat → Nat} (h1 : lvE p q) (h2 : lvE q r) : lvE p r := fun i hi => (h2 i (by unfold liv at hi ⊢; rw [h1.n (by decide), h1.n (by decide)]; exact hi)).trans (h1 i hi)
theorem lvE.sy {p q : Nat → Nat} (h1 : lvE p q) : lvE q p := fun i hi => (h1 i (by unfold liv at hi ⊢; rw [h1.n (by decide), h1.n (by decide)] at hi; exact hi)).symm
theorem lvE_pu {p q : Nat → Nat} (h : lvE p q) {i v w : Nat} (h0 : i ≠ 0) (h8 : i ≠ 8) (hv : w = v) : lvE (pu p i v) (pu q i w) := fun j hj => by
  subst hv
  unfold liv at hj
  rw [pu_ne _ _ (Ne.symm h0), pu_ne _ _ (Ne.symm h8)] at hj
  unfold pu
  split
  · rfl
  · exact h j hj
theorem fi_congr {P Q : Nat → Prop} [DecidablePred P] [DecidablePred Q] : ∀ (j k : Nat), (∀ i, k ≤ i → i < k + j → (P i ↔ Q i)) → fi P j k = fi Q j k
  | 0, k, _ => rfl
  | j + 1, k, h => by
    have hk := h k (Nat.le_refl _) (by omega)
    have ih := fi_congr j (k + 1) (fun i h1 h2 => h i (by omega) (by omega))
    unfold fi
    by_cases hp : P k
    · rw [if_pos hp, if_pos (hk.mp hp)]
    · rw [if_neg hp, if_neg (fun z => hp (hk.mpr z)), ih]
theorem lv_drawV {p q : Nat → Nat} (h : lvE p q) : drawV q = drawV p := by unfold drawV; rw [h.n (by decide)]
theorem lv_draw {p q : Nat → Nat} (h : lvE p q) : lvE (drawZ p) (drawZ q) := lvE_pu h (by decide) (by decide) (by rw [h.n (by decide)])
theorem lv_plain {p q : Nat → Nat} (h : lvE p q) (r s : Nat) : plainP q r s = plainP p r s := by
  unfold plainP
  rw [h.n (show 1 < 10 by decide), cnt_same (p := p) (p' := q) (fun i hi => h.t hi), h.n (show 2 < 10 by decide)]
  cases cnt p 0 (p 1) with
  | none => rfl
  | some t =>
    dsimp only
    rw [evT_same (p := p) (p' := q) (fun i hi => h.t hi)]
theorem lv_worn {p q : Nat → Nat} (h : lvE p q) (k r s : Nat) : wornP q k r s = wornP p k r s := by unfold wornP; rw [lv_plain h]
theorem lv_wfO {p q : Nat → Nat} (h : lvE p q) (hw : wfO p) : wfO q := by
  refine ⟨by rw [h.n (by decide)]; exact hw.1, fun k hk => ?_⟩
  rw [h.n (by decide)] at hk
  rw [h.o hw.1 hk (by decide), h.o hw.1 hk (by decide), h.o hw.1 hk (by decide), h.o hw.1 hk (by decide), h.o hw.1 hk (by decide)]
  exact hw.2 k hk
theorem lv_wfL {p q : Nat → Nat} (h : lvE p q) (hw : wfL p) : wfL q := by
  refine ⟨by rw [h.n (by decide)]; exact hw.1, fun k hk => ?_⟩
  rw [h.n (by decide)] at hk
  rw [h.l hk (by decide), h.l hk (by decide), h.l hk (by decide), h.l hk (by decide), h.l hk (by decide)]
  exact hw.2 k hk
theorem lvE_wf {p q : Nat → Nat} {b D : Nat} (h : lvE p q) (hw : wf p b D) : wf q b D := by
  obtain ⟨h1, h2, h3, h4⟩ := hw
  refine ⟨lv_wfO h h1, lv_wfL h h2, wfT_same (h.n (by decide)) (fun i hi => h.t hi) h3, ?_⟩
  rw [h.n (by decide), h.n (by decide), h.n (by decide), h.n (by decide), h.n (by decide), h.n (by decide)]
  exact h4
theorem lv_reg {p q : Nat → Nat} (h : lvE p q) (h0 : p 0 ≤ 8) {k j : Nat} (hk : k < p 0) (hj : j ≤ 2) : q (10 + 5 * k + (2 + j)) = p (10 + 5 * k + (2 + j)) := h.o h0 hk (by omega)
theorem lv_go {p q : Nat → Nat} (h : lvE p q) (hO : wfO p) (hL : wfL p) {k l : Nat} (hk : k < p 0) (hl : l < p 8) : lvE (goP p k l) (goP q k l) := by
  have hs := (hL.2 l hl).2.2.1
  have h0 := hO.1
  have e0 := h.o h0 hk (show 0 < 5 by decide)
  have e2 := h.l hl (show 2 < 5 by decide)
  have e1 := h.l hl (show 1 < 5 by decide)
  have er := lv_reg h h0 hk hs
  unfold goP
  rw [e2, e1, er, e0, lv_worn h, h.n (show 3 < 10 by decide)]
  exact lvE_pu (lvE_pu (lvE_pu h (by omega) (by omega) rfl) (by omega) (by omega) rfl) (by decide) (by decide) rfl
theorem lv_door {p q : Nat → Nat} (h : lvE p q) (hO : wfO p) (hL : wfL p) {k : Nat} (hk : k < p 0) : doorP q k = doorP p k := by
  unfold doorP
  rw [h.n (show 8 < 10 by decide)]
  refine fi_congr _ _ (fun l _ hl => ?_)
  have hl : l < p 8 := by omega
  have hs := (hL.2 l hl).2.2.1
  rw [h.l hl (by decide), h.l hl (by decide), h.l hl (by decide), h.l hl (by decide), h.o hO.1 hk (by decide), h.o hO.1 hk (by decide), lv_reg h hO.1 hk hs]
theorem lv_more {p q : Nat → Nat} (h : lvE p q) (h0 : p 0 ≤ 8) {k j a : Nat} (hk : k < p 0) (hj : j ≤ 2) : lvE (moreP p k j a) (moreP q k j a) := by
  unfold moreP
  exact lvE_pu h (by omega) (by omega) (by rw [lv_reg h h0 hk hj])
theorem lv_halves {p q : Nat → Nat} (h : lvE p q) (h0 : p 0 ≤ 8) {k : Nat} (hk : k < p 0) : lvE (halvesP p k) (halvesP q k) := by
  unfold halvesP
  rw [h.o h0 hk (show 2 < 5 by decide), h.o h0 hk (show 3 < 5 by decide), h.o h0 hk (show 4 < 5 by decide)]
  exact lvE_pu (lvE_pu (lvE_pu h (by omega) (by omega) rfl) (by omega) (by omega) rfl) (by omega) (by omega) rfl
theorem lv_tries {p q : Nat → Nat} (h : lvE p q) (hO : wfO p) {k : Nat} (hk : k < p 0) : lvE (triesP p k) (triesP q k) := by
  have hf : fi (fun l => q (50 + 5 * l + 0) = q (10 + 5 * k + 1) ∧ ¬ q (50 + 5 * l + 4) = 1) (q 8 - 0) 0 = fi (fun l => p (50 + 5 * l + 0) = p (10 + 5 * k + 1) ∧ ¬ p (50 + 5 * l + 4) = 1) (p 8 - 0) 0 := by
    rw [h.n (show 8 < 10 by decide)]
    refine fi_congr _ _ (fun l _ hl => ?_)
    have hl : l < p 8 := by omega
    rw [h.l hl (by decide), h.l hl (by decide), h.o hO.1 hk (by decide)]
  unfold triesP
  rw [hf, lv_drawV h, h.n (show 8 < 10 by decide), h.n (show 5 < 10 by decide)]
  split
  · split
    · exact lvE_pu (lvE_pu (lv_draw h) (by omega) (by omega) rfl) (by decide) (by decide) rfl
    · exact lv_draw h
  · exact h
theorem lv_on {p q : Nat → Nat} (h : lvE p q) (hO : wfO p) (hL : wfL p) {k : Nat} (hk : k < p 0) : lvE (onP p k) (onP q k) := by
  unfold onP
  rw [lv_door h hO hL hk, h.n (show 8 < 10 by decide), h.n (show 4 < 10 by decide), h.n (show 2 < 10 by decide)]
  split
  · rename_i hl
    exact lv_go h hO hL hk hl
  · exact lv_more (lvE_pu h (by decide) (by decide) rfl) (by rw [pu_ne _ _ (by decide)]; exact hO.1) (by rw [pu_ne _ _ (by decide)]; exact hk) (by omega)
theorem lv_person {p q : Nat → Nat} {b D : Nat} (h : lvE p q) (hw : wf p b D) {k : Nat} (hk : k < p 0) : lvE (personP p k) (personP q k) := by
  unfold personP
  rw [h.o hw.1.1 hk (by decide)]
  split
  · have t := (wf_tries hw k).1
    have kt := keep_tries (p := p) k hw.2.1.1
    exact lv_on (lv_tries h hw.1 hk) t.1 t.2.1 (by rw [kt.n0]; exact hk)
  · exact lv_on h hw.1 hw.2.1 hk
theorem lv_people {p q : Nat → Nat} {b D : Nat} (h : lvE p q) (hw : wf p b D) : ∀ k, k ≤ p 0 → lvE (peopleP p k) (peopleP q k)
  | 0, _ => h
  | k + 1, hk => by
    obtain ⟨w, kk⟩ := wf_people hw k (by omega)
    exact lv_person (lv_people h hw k (by omega)) w (by rw [kk.n0]; omega)
theorem lv_deed {p q : Nat → Nat} {b D : Nat} (h : lvE p q) (hw : wf p b D) : lvE (deedP p) (deedP q) := by
  have h1 := lv_draw h
  have h2 := lv_draw h1
  have h3 := lv_draw h2
  have k3 := ((keep_draw p).tr (keep_draw (drawZ p))).tr (keep_draw (drawZ (drawZ p)))
  unfold deedP
  rw [lv_drawV h, lv_drawV h1, lv_drawV h2, h.n (show 6 < 10 by decide), h.n (show 0 < 10 by decide)]
  split
  · rename_i hc
    exact lv_more h3 (by rw [k3.n0]; exact hw.1.1) (by rw [k3.n0]; exact Nat.mod_lt _ hc.2) (by omega)
  · exact h1
theorem lv_pardon {p q : Nat → Nat} {b D : Nat} (h : lvE p q) (hw : wf p b D) : lvE (pardonP p) (pardonP q) := by
  have h1 := lv_draw h
  have h2 := lv_draw h1
  have k2 := (keep_draw p).tr (keep_draw (drawZ p))
  unfold pardonP
  rw [lv_drawV h, lv_drawV h1, h.n (show 7 < 10 by decide), h.n (show 0 < 10 by decide)]
  split
  · rename_i hc
    exact lv_halves h2 (by rw [k2.n0]; exact hw.1.1) (by rw [k2.n0]; exact Nat.mod_lt _ hc.2)
  · exact h1
theorem lv_mend {p q : Nat → Nat} (h : lvE p q) : ∀ k, lvE (mendP p k) (mendP q k)
  | 0 => h
  | k + 1 => lvE_pu (lv_mend h k) (by omega) (by omega) rfl
theorem lv_day {p q : Nat → Nat} {b D : Nat} (h : lvE p q) (hw : wf p b D) : lvE (dayP p) (dayP q) := by
  obtain ⟨w1, k1⟩ := wf_people hw (p 0) (Nat.le_refl _)
  obtain ⟨w2, k2⟩ := wf_deed w1
  have l1 := lv_people h hw (p 0) (Nat.le_refl _)
  have l3 := lv_pardon (lv_deed l1 w1) w2
  rw [dayP_eq, dayP_eq, h.n (show 0 < 10 by decide)]
  unfold restP
  rw [l3.n (show 2 < 10 by decide), l3.n (show 8 < 10 by decide)]
  refine lvE_pu ?_ (by decide) (by decide) rfl
  split
  · exact lv_mend l3 _
  · exact l3
theorem lv_days {p q : Nat → Nat} {b D : Nat} (h : lvE p q) (hw : wf p b D) : ∀ n, lvE (daysP p n) (daysP q n)
  | 0 => h
  | n + 1 => lv_day (lv_days h hw n) (wf_days hw n)
theorem lv_as (c e : Nat → Nat) : lvE e (asP c e) := fun i hi => by
  unfold asP liv at *
  by_cases h1 : i < 10
  · rw [if_pos h1]
  · rw [if_neg h1]
    by_cases h2 : i < 50
    · rw [if_pos h2, if_pos (by omega)]
    · rw [if_neg h2]
      by_cases h3 : i < 100
      · rw [if_pos h3, if_pos (by omega)]
      · rw [if_neg h3]
-- a memory as a town's
def tG (i : Nat) : Nat := match i with
  | 0 => 1 | 8 => 3 | 1 => 5 | 6 => 7 | 7 => 8 | 3 => 9 | 4 => 10 | 5 => 11 | 2 => 12 | _ => 13
def uxA (B i : Nat) : Nat := if i < 10 then B else if i < 50 then (if (i - 10) % 5 < 2 then B + 5 + 2 * ((i - 10) / 5) else B + 6 + 2 * ((i - 10) / 5)) else B + 21 + (i - 50) / 5
def uxK (i : Nat) : Nat := if i < 10 then tG i else if i < 50 then (if (i - 10) % 5 < 2 then (i - 10) % 5 else (i - 10) % 5 - 2) else (i - 50) % 5
/-- the numbers of the town at B as they lie in a memory -/
def rdT (M : zMem) (B : Nat) : Nat → Nat := fun i => tN (M (uxA B i) (uxK i))
theorem ux_ok {B a k i : Nat} (h : ix B a k = some i) : uxA B i = a ∧ uxK i = k := by
  unfold uxA uxK
  rcases ix_some h with ⟨e1, e2, e3⟩ | ⟨q, e1, e2, e3, e4⟩ | ⟨q, e1, e2, e3, e4⟩ | ⟨q, e1, e2, e3, e4⟩
  · rw [if_pos e3, if_pos e3]
    refine ⟨e1.symm, ?_⟩
    rcases tF_some e2 with ⟨rfl, rfl⟩ | ⟨rfl, rfl⟩ | ⟨rfl, rfl⟩ | ⟨rfl, rfl⟩ | ⟨rfl, rfl⟩ | ⟨rfl, rfl⟩ | ⟨rfl, rfl⟩ | ⟨rfl, rfl⟩ | ⟨rfl, rfl⟩ | ⟨rfl, rfl⟩ <;> rfl
  · exact ⟨by rw [if_neg (by omega), if_pos (by omega), if_pos (by omega)]; omega, by rw [if_neg (by omega), if_pos (by omega), if_pos (by omega)]; omega⟩
  · exact ⟨by rw [if_neg (by omega), if_pos (by omega), if_neg (by omega)]; omega, by rw [if_neg (by omega), if_pos (by omega), if_neg (by omega)]; omega⟩
  · exact ⟨by rw [if_neg (by omega), if_neg (by omega)]; omega, by rw [if_neg (by omega), if_neg (by omega)]; omega⟩
theorem cm_rd (M : zMem) (B : Nat) : cm M B (rdT M B) = M := by
  funext a k
  cases hj : ix B a k with
  | none => exact cm_k hj
  | some i =>
    rw [cm_r hj]
    unfold rdT
    rw [(ux_ok hj).1, (ux_ok hj).2, nI_tN]
