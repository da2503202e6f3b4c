-- CLASS: a town becomes as another
theorem cm_lo {M : zMem} {B : Nat} {c e : Nat → Nat} (h : ∀ i, i < 100 → c i = e i) : cm M B c = cm M B e := by
  funext a k
  cases hj : ix B a k with
  | none => rw [cm_k hj, cm_k hj]
  | some i =>
    have hi : i < 100 := by
      rcases ix_some hj with ⟨e1, e2, e3⟩ | ⟨q, e1, e2, e3, e4⟩ | ⟨q, e1, e2, e3, e4⟩ | ⟨q, e1, e2, e3, e4⟩ <;> omega
    rw [cm_r hj, cm_r hj, h i hi]
/-- n places from lo on are e's -/
def cpP (c e : Nat → Nat) (lo n : Nat) : Nat → Nat := fun i => if lo ≤ i ∧ i < lo + n then e i else c i
theorem cpP_0 (c e : Nat → Nat) (lo : Nat) : cpP c e lo 0 = c := by
  funext i
  unfold cpP
  rw [if_neg (by omega)]
theorem cpP_s (c e : Nat → Nat) (lo n : Nat) : pu (cpP c e lo n) (lo + n) (e (lo + n)) = cpP c e lo (n + 1) := by
  funext i
  unfold pu cpP
  by_cases h : i = lo + n
  · subst h
    rw [if_pos rfl, if_pos (by omega)]
  · rw [if_neg h]
    by_cases h2 : lo ≤ i ∧ i < lo + n
    · rw [if_pos h2, if_pos (by omega)]
    · rw [if_neg h2, if_neg (by omega)]
theorem cpP_5 (c e : Nat → Nat) (lo k : Nat) : pu (pu (pu (pu (pu (cpP c e lo (5 * k)) (lo + 5 * k + 0) (e (lo + 5 * k + 0))) (lo + 5 * k + 1) (e (lo + 5 * k + 1))) (lo + 5 * k + 2) (e (lo + 5 * k + 2))) (lo + 5 * k + 3) (e (lo + 5 * k + 3))) (lo + 5 * k + 4) (e (lo + 5 * k + 4)) = cpP c e lo (5 * (k + 1)) := by
  have h0 := cpP_s c e lo (5 * k)
  have h1 := cpP_s c e lo (5 * k + 1)
  have h2 := cpP_s c e lo (5 * k + 2)
  have h3 := cpP_s c e lo (5 * k + 3)
  have h4 := cpP_s c e lo (5 * k + 4)
  simp only [← Nat.add_assoc] at h1 h2 h3 h4
  rw [Nat.add_zero, h0, h1, h2, h3, h4]
  exact congrArg (cpP c e lo) (by omega)
/-- a town that becomes as another: what lives in the other -/
def asP (c e : Nat → Nat) : Nat → Nat := fun i => if i < 10 then e i else if i < 50 then (if i < 10 + 5 * e 0 then e i else c i) else if i < 100 then (if i < 50 + 5 * e 8 then e i else c i) else e i
def cpO (f g : Nat → Option Nat) (k : Nat) : Nat → Option Nat := fun i => if i < k then f i else g i
theorem cpO_0 (f g : Nat → Option Nat) : cpO f g 0 = g := by
  funext i
  unfold cpO
  rw [if_neg (by omega)]
theorem cpO_s (f g : Nat → Option Nat) (k : Nat) : zup (cpO f g k) k (f k) = cpO f g (k + 1) := by
  funext i
  unfold zup cpO
  by_cases h : i = k
  · subst h
    rw [if_pos rfl, if_pos (by omega)]
  · rw [if_neg h]
    by_cases h2 : i < k
    · rw [if_pos h2, if_pos (by omega)]
    · rw [if_neg h2, if_neg (by omega)]
theorem zsR_ne (X : zX) {a b : Nat} (f : Nat → Option Nat) (h : b ≠ a) : xR (zsR X a f) b = xR X b := if_neg h
theorem zsR_zsR (X : zX) (a : Nat) (f g : Nat → Option Nat) : zsR (zsR X a f) a g = zsR X a g := by
  unfold zsR
  refine Prod.ext ?_ rfl
  funext b
  show (if b = a then g else if b = a then f else xR X b) = if b = a then g else xR X b
  by_cases h : b = a
  · rw [if_pos h, if_pos h]
  · rw [if_neg h, if_neg h, if_neg h]
theorem zsR_id (X : zX) (a : Nat) : zsR X a (xR X a) = X := by
  unfold zsR
  refine Prod.ext ?_ rfl
  funext b
  show (if b = a then xR X a else xR X b) = xR X b
  by_cases h : b = a
  · rw [if_pos h, h]
  · rw [if_neg h]
theorem isP_R {X : zX} {a : Nat} (h : isP X a) {b : Nat} (f : Nat → Option Nat) (hb : b ≠ a) : isP (zsR X b f) a := by
  obtain ⟨h1, h2, h3, h4, h5, h6⟩ := h
  exact ⟨h1, h2, h3, by rw [zsR_ne X f (Ne.symm hb)]; exact h4, h5, h6⟩
theorem isS_R {X : zX} {a : Nat} (h : isS X a) {b : Nat} (f : Nat → Option Nat) (hb : b ≠ a) : isS (zsR X b f) a := by
  obtain ⟨h1, h2, h3, h4, h5, h6⟩ := h
  exact ⟨h1, h2, h3, by rw [zsR_ne X f (Ne.symm hb)]; exact h4, h5, h6⟩
theorem kT_R {X : zX} {B : Nat} (h : kT X B) {b : Nat} (f : Nat → Option Nat) (hb : b < B ∨ b = B + 3 ∨ b = B + 4 ∨ B + 31 ≤ b) : kT (zsR X b f) B := by
  have e : ∀ a, a ≠ b → xR (zsR X b f) a = xR X a := fun a ha => zsR_ne X f ha
  obtain ⟨h1, h2, h3, h4, h5, h6, h7, h8, h9, h10, h11, h12, h13, h14⟩ := h
  refine ⟨h1, h2, h3, h4, by rw [e _ (by omega)]; exact h5, by rw [e _ (by omega)]; exact h6, by rw [e _ (by omega)]; exact h7, by rw [e _ (by omega)]; exact h8, h9, h10, h11, h12, fun k hk => ⟨by rw [e _ (by omega)]; exact (h13 k hk).1, isP_R (h13 k hk).2 f (by omega)⟩, fun k hk => ⟨by rw [e _ (by omega)]; exact (h14 k hk).1, (h14 k hk).2⟩⟩
/-- what stands in the rows of texts and laws are texts -/
def tR (X : zX) (B : Nat) : Prop := ∀ k b, (xR X (B + 3) k = some b ∨ xR X (B + 4) k = some b) → xc X b = 5 ∧ 181 ≤ b ∧ b < xz X
/-- the references as the town B has become as the town F -/
def cpX (X : zX) (B F : Nat) : zX := zsR (zsR X (B + 3) (cpO (xR X (F + 3)) (xR X (B + 3)) 14)) (B + 4) (cpO (xR X (F + 4)) (xR X (B + 4)) 3)
theorem cpX_3 (X : zX) (B F : Nat) : xR (cpX X B F) (B + 3) = cpO (xR X (F + 3)) (xR X (B + 3)) 14 := by
  unfold cpX
  rw [zsR_ne _ _ (by omega), zsR_eq]
theorem cpX_4 (X : zX) (B F : Nat) : xR (cpX X B F) (B + 4) = cpO (xR X (F + 4)) (xR X (B + 4)) 3 := by
  unfold cpX
  rw [zsR_eq]
theorem cpX_o (X : zX) (B F : Nat) {a : Nat} (h3 : a ≠ B + 3) (h4 : a ≠ B + 4) : xR (cpX X B F) a = xR X a := by
  unfold cpX
  rw [zsR_ne _ _ h4, zsR_ne _ _ h3]
theorem kT_cpX {X : zX} {B F D : Nat} (h : kT X D) (hB : B = D ∨ B + 31 ≤ D ∨ D + 31 ≤ B) : kT (cpX X B F) D :=
  kT_R (kT_R h _ (by omega)) _ (by omega)
theorem tR_cpX {X : zX} {B F D : Nat} (h : tR X D) (hF : tR X F) (hb : tR X B) (hB : B = D ∨ B + 31 ≤ D ∨ D + 31 ≤ B) : tR (cpX X B F) D := by
  intro k b hk
  show xc X b = 5 ∧ 181 ≤ b ∧ b < xz X
  rcases hB with rfl | hB
  · rw [cpX_3, cpX_4] at hk
    unfold cpO at hk
    split at hk
    · rename_i h1
      rcases hk with hk | hk
      · exact hF k b (.inl hk)
      · split at hk
        · exact hF k b (.inr hk)
        · exact h k b (.inr hk)
    · rename_i h1
      rw [if_neg (by omega)] at hk
      exact h k b hk
  · rw [cpX_o _ _ _ (by omega) (by omega), cpX_o _ _ _ (by omega) (by omega)] at hk
    exact h k b hk
/-- the texts go over -/
theorem tx_cpX {M : zMem} {X : zX} {B F : Nat} {c e : Nat → Nat} (hF : tx M X F e) (hB : B + 31 ≤ 160) (h1 : e 1 ≤ 14) : tx M (cpX X B F) B (asP c e) := by
  have e1 : asP c e 1 = e 1 := by unfold asP; rw [if_pos (by omega)]
  have eh : ∀ i, 100 ≤ i → asP c e i = e i := fun i hi => by unfold asP; rw [if_neg (by omega), if_neg (by omega), if_neg (by omega)]
  have et : ∀ {a t : Nat}, txt M X a e t → txt M (cpX X B F) a e t := fun {a t} h => by
    obtain ⟨g1, g2, g3, g4, g5, g6, g7⟩ := h
    exact ⟨g1, g2, by rw [cpX_o _ _ _ (by omega) (by omega)]; exact g3, by rw [cpX_o _ _ _ (by omega) (by omega)]; exact g4, g5, g6, g7⟩
  refine ⟨fun t ht => ?_, fun key hk => ?_⟩
  · rw [e1] at ht
    obtain ⟨a, a1, a2⟩ := hF.1 t ht
    refine ⟨a, ?_, (et a2).same eh⟩
    rw [cpX_3]
    unfold cpO
    rw [if_pos (by omega)]
    exact a1
  · rw [e1, cnt_same eh, cpX_4]
    unfold cpO
    rw [if_pos hk, hF.2 key hk]
    cases hc : cnt e key (e 1) with
    | none => rfl
    | some t =>
      have := (cnt_lt hc).1
      dsimp only
      rw [cpX_3]
      unfold cpO
      rw [if_pos (by omega)]
