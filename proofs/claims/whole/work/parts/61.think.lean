-- CLASS THINK: the town of thoughts
theorem tx_cm {M : zMem} {X : zX} {B : Nat} {c : Nat → Nat} (h : tx M X B c) (F : Nat) (e : Nat → Nat) (hF : F + 31 ≤ 160) : tx (cm M F e) X B c :=
  ⟨fun t ht => by obtain ⟨a, e1, e2⟩ := h.1 t ht; exact ⟨a, e1, txt_cm e2 F e hF⟩, h.2⟩
theorem txt_scx {M M1 : zMem} {X : zX} {a : Nat} {c : Nat → Nat} {t : Nat} (h : txt M X a c t) (hs : scx M M1) : txt M1 X a c t := by
  obtain ⟨h1, h2, h3, h4, h5, h6, h7, h8, h9, h10⟩ := h
  have e0 : M1 a = M a := hs a (fun z => by unfold scz at z; omega)
  have e1 : M1 (a + 1) = M (a + 1) := hs (a + 1) (fun z => by unfold scz at z; omega)
  refine ⟨h1, h2, h3, h4, h5, h6, by rw [e0]; exact h7, by rw [e0]; exact h8, by rw [e0]; exact h9, fun k hk => ?_⟩
  rw [e1]
  exact h10 k hk
theorem tx_scx {M M1 : zMem} {X : zX} {B : Nat} {c : Nat → Nat} (h : tx M X B c) (hs : scx M M1) : tx M1 X B c :=
  ⟨fun t ht => by obtain ⟨a, e1, e2⟩ := h.1 t ht; exact ⟨a, e1, txt_scx e2 hs⟩, h.2⟩
theorem txt_cpX {M : zMem} {X : zX} {a : Nat} {c : Nat → Nat} {t : Nat} (h : txt M X a c t) (B F : Nat) (hB : B + 31 ≤ 160) : txt M (cpX X B F) a c t := by
  obtain ⟨g1, g2, g3, g4, g5, g6, g7⟩ := h
  exact ⟨g1, g2, by rw [cpX_o _ _ _ (by omega) (by omega)]; exact g3, by rw [cpX_o _ _ _ (by omega) (by omega)]; exact g4, g5, g6, g7⟩
theorem tx_cpX_o {M : zMem} {X : zX} {B F D : Nat} {c : Nat → Nat} (h : tx M X D c) (hB : B + 31 ≤ 160) (hD : B + 31 ≤ D ∨ D + 31 ≤ B) : tx M (cpX X B F) D c := by
  have e3 : xR (cpX X B F) (D + 3) = xR X (D + 3) := cpX_o _ _ _ (by omega) (by omega)
  have e4 : xR (cpX X B F) (D + 4) = xR X (D + 4) := cpX_o _ _ _ (by omega) (by omega)
  refine ⟨fun t ht => ?_, fun key hk => ?_⟩
  · obtain ⟨a, e1, e2⟩ := h.1 t ht
    exact ⟨a, by rw [e3]; exact e1, txt_cpX e2 B F hB⟩
  · rw [e4, e3]
    exact h.2 key hk
theorem kR_cpX {X : zX} (h : kR X) {B F : Nat} (hB : B = 17 ∨ B = 48 ∨ B = 79) : kR (cpX X B F) := by
  have e : ∀ a, a ≠ B + 3 → a ≠ B + 4 → xR (cpX X B F) a = xR X a := fun a h3 h4 => cpX_o X B F h3 h4
  obtain ⟨⟨h1, h2, h3⟩, h4, h5, h6, h7, h8, h9, h10, h11, h12⟩ := h
  have pP : ∀ a, isP X a → 110 ≤ a → isP (cpX X B F) a := fun a hp ha => by
    obtain ⟨g1, g2, g3, g4, g5, g6⟩ := hp
    exact ⟨g1, g2, g3, by rw [e _ (by omega) (by omega)]; exact g4, g5, g6⟩
  have pS : ∀ a, isS X a → 110 ≤ a → isS (cpX X B F) a := fun a hp ha => by
    obtain ⟨g1, g2, g3, g4, g5, g6⟩ := hp
    exact ⟨g1, g2, g3, by rw [e _ (by omega) (by omega)]; exact g4, g5, g6⟩
  refine ⟨⟨kT_cpX h1 (by omega), kT_cpX h2 (by omega), kT_cpX h3 (by omega)⟩, h4, fun k hk => by rw [e _ (by omega) (by omega)]; exact h5 k hk, h6, fun k hk => by rw [e _ (by omega) (by omega)]; exact h7 k hk, fun i hi => by rw [e _ (by omega) (by omega)]; exact h8 i hi, ⟨by rw [e _ (by omega) (by omega)]; exact h9.1, by rw [e _ (by omega) (by omega)]; exact h9.2⟩, fun i hi => ⟨by rw [e _ (by omega) (by omega)]; exact (h10 i hi).1, pS _ (h10 i hi).2 (by omega)⟩, fun i hi => ?_, h12⟩
  obtain ⟨g1, g2, g3, g4, g5, g6⟩ := h11 i hi
  exact ⟨by rw [e _ (by omega) (by omega)]; exact g1, g2, by rw [e _ (by omega) (by omega)]; exact g3, by rw [e _ (by omega) (by omega)]; exact g4, pP _ g5 (by omega), pS _ g6 (by omega)⟩
theorem cpX_cpX (X : zX) {B F : Nat} (hBF : B + 31 ≤ F ∨ F + 31 ≤ B) : cpX (cpX X B F) B F = cpX X B F := by
  have e3 : xR (cpX X B F) (F + 3) = xR X (F + 3) := cpX_o _ _ _ (by omega) (by omega)
  have e4 : xR (cpX X B F) (F + 4) = xR X (F + 4) := cpX_o _ _ _ (by omega) (by omega)
  have c3 : ∀ f g : Nat → Option Nat, ∀ n, cpO f (cpO f g n) n = cpO f g n := fun f g n => by
    funext i
    unfold cpO
    by_cases h : i < n
    · rw [if_pos h, if_pos h]
    · rw [if_neg h, if_neg h]
  refine Prod.ext ?_ rfl
  funext b
  by_cases h3 : b = B + 3
  · subst h3
    show xR (cpX (cpX X B F) B F) (B + 3) = xR (cpX X B F) (B + 3)
    rw [cpX_3, e3, cpX_3, c3]
  · by_cases h4 : b = B + 4
    · subst h4
      show xR (cpX (cpX X B F) B F) (B + 4) = xR (cpX X B F) (B + 4)
      rw [cpX_4, e4, cpX_4, c3]
    · exact cpX_o _ _ _ h3 h4
/-- behind a thought: the town that is, and scratch -/
theorem th_end {M M3 : zMem} {c x : Nat → Nat} (h : scT M M3) : ∃ M2, scx M M2 ∧ cm (cm M3 17 c) 79 x = cm M2 17 c :=
  ⟨cm M3 79 x, fun a ha => by
    rw [cm_o (ix_n (by unfold scz at ha; omega))]
    exact h a (fun z => ha (by unfold stk at z; unfold scz; omega)), cm_comm _ _ _ (by decide)⟩
theorem bst_1 (b : Int32) (f : Nat → Nat) : bst b f 1 = (nI 0, nI (f 0)) := by
  show (if ((-1 : Int32)).toInt < (f 0 : Int) then (nI 0, nI (f 0)) else (b, -1)) = _
  rw [if_pos (by rw [show ((-1 : Int32)).toInt = -1 by decide]; omega)]
theorem bst_s (b b' : Int32) (f : Nat → Nat) : ∀ n, bst b f (n + 1) = bst b' f (n + 1)
  | 0 => by rw [bst_1, bst_1]
  | n + 1 => by
    show (if (bst b f (n + 1)).2.toInt < (f (n + 1) : Int) then (nI (n + 1), nI (f (n + 1))) else bst b f (n + 1)) = (if (bst b' f (n + 1)).2.toInt < (f (n + 1) : Int) then (nI (n + 1), nI (f (n + 1))) else bst b' f (n + 1))
    rw [bst_s b b' f n]
theorem bst_k (b : Int32) (f : Nat → Nat) : ∀ n, ∃ k, k ≤ n ∧ bst b f (n + 1) = (nI k, nI (f k))
  | 0 => ⟨0, Nat.le_refl _, bst_1 b f⟩
  | n + 1 => by
    obtain ⟨k, hk, e⟩ := bst_k b f n
    by_cases h : (bst b f (n + 1)).2.toInt < (f (n + 1) : Int)
    · exact ⟨n + 1, Nat.le_refl _, if_pos h⟩
    · exact ⟨k, by omega, (if_neg h).trans e⟩
theorem bst_congr (b : Int32) {f g : Nat → Nat} : ∀ n, (∀ k, k < n → f k = g k) → bst b f n = bst b g n
  | 0, _ => rfl
  | n + 1, h => by
    show (if (bst b f n).2.toInt < (f n : Int) then (nI n, nI (f n)) else bst b f n) = (if (bst b g n).2.toInt < (g n : Int) then (nI n, nI (g n)) else bst b g n)
    rw [bst_congr b n (fun k hk => h k (by omega)), h n (by omega)]
