-- EXX: references that change under the object: the parser's tape, rows of texts, new cells
def exX (X Y : zX) : Prop := (∀ a, a < 181 → xc Y a = xc X a ∧ xl Y a = xl X a) ∧ xz X ≤ xz Y ∧ (∀ a, a < 181 → (a < 17 ∨ (a - 17) % 31 ≠ 3 ∨ 110 ≤ a) → (a < 17 ∨ (a - 17) % 31 ≠ 4 ∨ 110 ≤ a) → a ≠ 118 → xR Y a = xR X a) ∧ ∀ k, 0 < k → xR Y 118 k = xR X 118 k
theorem exX.rf (X : zX) : exX X X := ⟨fun _ _ => ⟨rfl, rfl⟩, Nat.le_refl _, fun _ _ _ _ _ => rfl, fun _ _ => rfl⟩
theorem exX.tr {X Y Z : zX} (h : exX X Y) (g : exX Y Z) : exX X Z := ⟨fun a ha => ⟨(g.1 a ha).1.trans (h.1 a ha).1, (g.1 a ha).2.trans (h.1 a ha).2⟩, Nat.le_trans h.2.1 g.2.1, fun a h1 h2 h3 h4 => (g.2.2.1 a h1 h2 h3 h4).trans (h.2.2.1 a h1 h2 h3 h4), fun k hk => (g.2.2.2 k hk).trans (h.2.2.2 k hk)⟩
theorem isP_ex {X Y : zX} (h : exX X Y) {a : Nat} (ha : a + 1 < 181) (h3 : a < 17 ∨ (a - 17) % 31 ≠ 3 ∨ 110 ≤ a) (h4 : a < 17 ∨ (a - 17) % 31 ≠ 4 ∨ 110 ≤ a) (h5 : a ≠ 118) (g : isP X a) : isP Y a :=
  ⟨g.1, Nat.lt_of_lt_of_le g.2.1 h.2.1, (h.1 a (by omega)).1.trans g.2.2.1, (congrFun (h.2.2.1 a (by omega) h3 h4 h5) _).trans g.2.2.2.1, (h.1 _ ha).1.trans g.2.2.2.2.1, (h.1 _ ha).2.trans g.2.2.2.2.2⟩
theorem isS_ex {X Y : zX} (h : exX X Y) {a : Nat} (ha : a + 1 < 181) (h3 : a < 17 ∨ (a - 17) % 31 ≠ 3 ∨ 110 ≤ a) (h4 : a < 17 ∨ (a - 17) % 31 ≠ 4 ∨ 110 ≤ a) (h5 : a ≠ 118) (g : isS X a) : isS Y a :=
  ⟨g.1, Nat.lt_of_lt_of_le g.2.1 h.2.1, (h.1 a (by omega)).1.trans g.2.2.1, (congrFun (h.2.2.1 a (by omega) h3 h4 h5) _).trans g.2.2.2.1, (h.1 _ ha).1.trans g.2.2.2.2.1, (h.1 _ ha).2.trans g.2.2.2.2.2⟩
theorem kT_ex {X Y : zX} (h : exX X Y) {B : Nat} (hB : B = 17 ∨ B = 48 ∨ B = 79) (g : kT X B) : kT Y B := by
  obtain ⟨g1, g2, g3, g4, g5, g6, g7, g8, g9, g10, g11, g12, g13, g14⟩ := g
  have hR : ∀ a, a < 110 → 17 ≤ a → (a - 17) % 31 ≠ 3 → (a - 17) % 31 ≠ 4 → xR Y a = xR X a := fun a h1 h2 h3 h4 => h.2.2.1 a (by omega) (.inr (.inl h3)) (.inr (.inl h4)) (by omega)
  have hc : ∀ a, a < 181 → xc Y a = xc X a ∧ xl Y a = xl X a := h.1
  refine ⟨g1, g2, Nat.le_trans g3 h.2.1, (hc B (by omega)).1.trans g4, ?_, ?_, ?_, ?_, ?_, ?_, ?_, ?_, ?_, ?_⟩
  · rw [hR B (by omega) (by omega) (by omega) (by omega)]; exact g5
  · rw [hR B (by omega) (by omega) (by omega) (by omega)]; exact g6
  · rw [hR B (by omega) (by omega) (by omega) (by omega)]; exact g7
  · rw [hR B (by omega) (by omega) (by omega) (by omega)]; exact g8
  · exact ⟨(hc _ (by omega)).1.trans g9.1, (hc _ (by omega)).2.trans g9.2⟩
  · exact ⟨(hc _ (by omega)).1.trans g10.1, (hc _ (by omega)).2.trans g10.2⟩
  · exact ⟨(hc _ (by omega)).1.trans g11.1, (hc _ (by omega)).2.trans g11.2⟩
  · exact ⟨(hc _ (by omega)).1.trans g12.1, (hc _ (by omega)).2.trans g12.2⟩
  · intro k hk
    exact ⟨by rw [hR (B + 1) (by omega) (by omega) (by omega) (by omega)]; exact (g13 k hk).1, isP_ex h (by omega) (by omega) (by omega) (by omega) (g13 k hk).2⟩
  · intro k hk
    exact ⟨by rw [hR (B + 2) (by omega) (by omega) (by omega) (by omega)]; exact (g14 k hk).1, (hc _ (by omega)).1.trans (g14 k hk).2⟩
theorem sC_lt {a : Nat} (h : 0 < sC a) : a < 181 := by
  unfold sC at h
  split at h <;> first | omega | simp at h
theorem kR_ex {X Y : zX} (h : exX X Y) (g : kR X) : kR Y := by
  obtain ⟨⟨g1, g2, g3⟩, g4, g5, g6, g7, g8, ⟨g9, g10⟩, g11, g12, g13⟩ := g
  have hR : ∀ a, a < 181 → (a < 17 ∨ 110 ≤ a) → a ≠ 118 → xR Y a = xR X a := fun a h1 h2 h3 => h.2.2.1 a h1 (by omega) (by omega) h3
  have hc : ∀ a, a < 181 → xc Y a = xc X a ∧ xl Y a = xl X a := h.1
  refine ⟨⟨kT_ex h (.inl rfl) g1, kT_ex h (.inr (.inl rfl)) g2, kT_ex h (.inr (.inr rfl)) g3⟩, (hc 16 (by decide)).1.trans g4, fun k hk => ?_, fun a ha => ?_, fun k hk => ?_, fun i hi => ?_, ⟨(h.2.2.2 8 (by decide)).trans g9, (h.2.2.2 10 (by decide)).trans g10⟩, fun i hi => ?_, fun i hi => ?_, Nat.le_trans g13 h.2.1⟩
  · rw [hR 16 (by decide) (by decide) (by decide)]; exact g5 k hk
  · have := sC_lt ha
    exact ⟨(hc a this).1.trans (g6 a ha).1, (hc a this).2.trans (g6 a ha).2⟩
  · rw [hR 110 (by decide) (by decide) (by decide)]; exact g7 k hk
  · rw [hR 113 (by decide) (by decide) (by decide)]; exact g8 i hi
  · exact ⟨by rw [hR 123 (by decide) (by decide) (by decide)]; exact (g11 i hi).1, isS_ex h (by omega) (by omega) (by omega) (by omega) (g11 i hi).2⟩
  · obtain ⟨a1, a2, a3, a4, a5, a6⟩ := g12 i hi
    exact ⟨by rw [hR 124 (by decide) (by decide) (by decide)]; exact a1, (hc _ (by omega)).1.trans a2, by rw [hR _ (by omega) (by omega) (by omega)]; exact a3, by rw [hR _ (by omega) (by omega) (by omega)]; exact a4, isP_ex h (by omega) (by omega) (by omega) (by omega) a5, isS_ex h (by omega) (by omega) (by omega) (by omega) a6⟩
abbrev XP (X : zX) : zX := zsR X 118 (zup (xR X 118) 0 (some 122))
theorem exX_XP (X : zX) : exX X (XP X) := ⟨fun _ _ => ⟨rfl, rfl⟩, Nat.le_refl _, fun a _ _ _ h => zsR_ne _ _ h, fun k hk => by
  show xR (zsR X 118 (zup (xR X 118) 0 (some 122))) 118 k = _
  rw [zsR_eq]
  exact if_neg (by omega)⟩
theorem XP_0 (X : zX) : xR (XP X) 118 0 = some 122 := by
  show xR (zsR X 118 (zup (xR X 118) 0 (some 122))) 118 0 = _
  rw [zsR_eq]
  exact if_pos rfl
theorem kM_ex {X Y : zX} (h : exX X Y) (g : kM X) : kM Y := by
  obtain ⟨g1, g2, g3, g4⟩ := g
  refine ⟨Nat.le_trans g1 h.2.1, (h.1 160 (by decide)).1.trans g2, fun a ha => ?_, fun k hk => ?_⟩
  · have := mA_lt ha
    exact ⟨(h.1 a this.2).1.trans (g3 a ha).1, (h.1 a this.2).2.trans (g3 a ha).2⟩
  · rw [h.2.2.1 160 (by decide) (by decide) (by decide) (by decide)]
    exact g4 k hk
