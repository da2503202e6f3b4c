-- THINK: what is laid by and laid back; what days leave as it is
def scq (a : Nat) : Prop := a = 163 ∨ a = 172 ∨ a = 173 ∨ a = 174 ∨ a = 176 ∨ a = 177 ∨ a = 178 ∨ a = 180
/-- nothing but the reference's scratch rows is otherwise -/
def scw (M M1 : zMem) : Prop := ∀ a, ¬ scq a → M1 a = M a
theorem scw.rf (M : zMem) : scw M M := fun _ _ => rfl
theorem scw.tr {M M1 M2 : zMem} (h1 : scw M M1) (h2 : scw M1 M2) : scw M M2 := fun a h => (h2 a h).trans (h1 a h)
theorem scr.w {M M1 : zMem} (h : scr M M1) : scw M M1 := fun a ha => h a (fun z => ha (by unfold scq; omega)) (fun z => ha (by unfold scq; omega))
theorem scw.s (M : zMem) {a : Nat} (f : Nat → Int32) (h : scq a) : scw M (zs M a f) := fun b hb => zs_ne M f (fun z => hb (by rw [z]; exact h))
/-- the first k places of c, then q -/
def bkP (c q : Nat → Nat) (k : Nat) : Nat → Nat := fun i => if i < k then c i else q i
theorem bkP_0 (c q : Nat → Nat) : bkP c q 0 = q := by
  funext i
  simp [bkP]
theorem bkP_s (c q : Nat → Nat) (k : Nat) : pu (bkP c q k) k (c k) = bkP c q (k + 1) := by
  funext i
  unfold pu bkP
  by_cases h1 : i = k
  · subst h1; simp
  · rw [if_neg h1]
    by_cases h2 : i < k
    · rw [if_pos h2, if_pos (by omega)]
    · rw [if_neg h2, if_neg (by omega)]
theorem bkP_all {c q : Nat → Nat} (h : ∀ i, 100 ≤ i → q i = c i) : bkP c q 100 = c := by
  funext i
  unfold bkP
  split
  · rfl
  · exact h i (by omega)
theorem day_hi {p : Nat → Nat} {b D : Nat} (h : wf p b D) {i : Nat} (hi : 100 ≤ i) : dayP p i = p i := by
  obtain ⟨w1, k1⟩ := wf_people h (p 0) (Nat.le_refl _)
  obtain ⟨w2, k2⟩ := wf_deed w1
  obtain ⟨w3, k3⟩ := wf_pardon w2
  have hf : fixd i := by unfold fixd; omega
  rw [dayP_eq]
  unfold restP
  rw [pu_ne _ _ (by omega)]
  have e := ((k1.tr k2).tr k3) i hf
  split
  · rw [(wf_mend w3 _ w3.2.1.1).2 i hf, e]
  · exact e
theorem days_hi {p : Nat → Nat} {b D : Nat} (h : wf p b D) {i : Nat} (hi : 100 ≤ i) : ∀ n, daysP p n i = p i
  | 0 => rfl
  | n + 1 => by rw [daysP, day_hi (wf_days h n) hi, days_hi h hi n]
theorem wfL_set {p : Nat → Nat} (h : wfL p) {l v : Nat} (hv : v ≤ 99) : wfL (pu p (50 + 5 * l + 3) v) := by
  refine ⟨by rw [pu_ne _ _ (by omega)]; exact h.1, fun q hq => ?_⟩
  rw [pu_ne _ _ (by omega)] at hq
  obtain ⟨h0, h1, h2, h3, h4⟩ := h.2 q hq
  have e : ∀ i b, p (50 + 5 * q + i) ≤ b → i ≤ 4 → (i = 3 → 99 ≤ b) → pu p (50 + 5 * l + 3) v (50 + 5 * q + i) ≤ b := by
    intro i b hi hi4 hb2
    unfold pu
    split
    · omega
    · exact hi
  exact ⟨e 0 7 h0 (by omega) (by omega), e 1 7 h1 (by omega) (by omega), e 2 2 h2 (by omega) (by omega), e 3 99 h3 (by omega) (by omega), e 4 1 h4 (by omega) (by omega)⟩
theorem wfO_kind {p : Nat → Nat} (h : wfO p) {k v : Nat} (hv : v ≤ 5) (hk : k < p 0) : wfO (pu p (10 + 5 * k + 0) v) := by
  refine ⟨by rw [pu_ne _ _ (by omega)]; exact h.1, fun q hq => ?_⟩
  rw [pu_ne _ _ (by omega)] at hq
  obtain ⟨h0, h1, h2, h3, h4⟩ := h.2 q hq
  have e : ∀ i b, p (10 + 5 * q + i) ≤ b → i ≤ 4 → (i = 0 → 5 ≤ b) → pu p (10 + 5 * k + 0) v (10 + 5 * q + i) ≤ b := by
    intro i b hi hi4 hb2
    unfold pu
    split
    · omega
    · exact hi
  exact ⟨e 0 5 h0 (by omega) (by omega), e 1 7 h1 (by omega) (by omega), e 2 99 h2 (by omega) (by omega), e 3 99 h3 (by omega) (by omega), e 4 99 h4 (by omega) (by omega)⟩
theorem wf_off {p : Nat → Nat} {b D : Nat} (h : wf p b D) {i v : Nat} (hO : wfO (pu p i v)) (hL : wfL (pu p i v)) (hi : 10 ≤ i ∧ i < 100) : wf (pu p i v) b D := by
  obtain ⟨h1, h2, h3, h4, h5, h6, h7, h8, h9⟩ := h
  refine ⟨hO, hL, wfT_off h3 (by omega) (by omega), ?_⟩
  repeat rw [pu_ne _ _ (by omega)]
  exact ⟨h4, h5, h6, h7, h8, h9⟩
theorem wf_set0 {p : Nat → Nat} {b D : Nat} (h : wf p b D) {l : Nat} (hl : l < p 8) : wf (pu p (50 + 5 * l + 3) 0) b D := by
  have h8 := h.2.1.1
  exact wf_off h (wfO_off h.1 (by omega) (by omega)) (wfL_set h.2.1 (by omega)) (by omega)
theorem wf_kind {p : Nat → Nat} {b D : Nat} (h : wf p b D) {k v : Nat} (hk : k < p 0) (hv : v ≤ 5) : wf (pu p (10 + 5 * k + 0) v) b D := by
  have h8 := h.1.1
  exact wf_off h (wfO_kind h.1 hv hk) (wfL_off h.2.1 (by omega) (by omega)) (by omega)
/-- the best of the first n by f, and its f -/
def bst (b0 : Int32) (f : Nat → Nat) : Nat → Int32 × Int32
  | 0 => (b0, -1)
  | k + 1 => if (bst b0 f k).2.toInt < (f k : Int) then (nI k, nI (f k)) else bst b0 f k
theorem one_shl : ∀ n, n ≤ 8 → (nI 1 <<< (nI n &&& 31)) = nI (2 ^ n) := by decide
