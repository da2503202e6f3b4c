-- INV: what holds between two calls of the law
def tapR (M : zMem) : Prop := ∃ T : Nat → Nat, (∀ i, T i ≤ 255) ∧ tpN M T ∧ tpC M T
def fldR (M : zMem) : Prop := ∃ F : Nat → Nat, M 160 = nIf F ∧ F 16 ≤ 96 ∧ F 20 ≤ 5287680 ∧ F 21 ≤ 255 ∧ F 3 ≤ 1 ∧ F 31 ≤ 60 ∧ M 16 3 = nI (F 3) ∧ M 16 7 = nI (F 16) ∧ M 16 11 = nI (F 31)
def waiR (M : zMem) : Prop := ∀ i, i < 60 → M 125 i = M 179 i
def sheR (M : zMem) : Prop := ∀ i, i < 4 → M (127 + 2 * i) 0 = M 164 i ∧ M (127 + 2 * i) 1 = M 165 i ∧ (-1 ≤ (M 164 i).toInt ∧ (M 164 i).toInt ≤ 1) ∧ tN (M 165 i) ≤ 24 ∧ ∀ j, j < 24 → M (127 + 2 * i + 1) j = M 166 (24 * i + j)
def sloR (M : zMem) : Prop := ∀ i, i < 5 → M (135 + 5 * i) 0 = M 167 i ∧ tN (M 167 i) ≤ 3 ∧ tN (M 170 i) ≤ 24 ∧ tN (M (138 + 5 * i) 1) ≤ 24 ∧
  (tN (M 167 i) = 1 → M (136 + 5 * i) 0 = M 168 i ∧ tN (M 168 i) ≤ 5 ∧ (tN (M (136 + 5 * i + 1) 0) ≤ 99 ∧ tN (M (136 + 5 * i + 1) 1) ≤ 99 ∧ tN (M (136 + 5 * i + 1) 2) ≤ 99) ∧ slW M i = M 169 i) ∧
  (tN (M 167 i) = 2 → M (138 + 5 * i) 1 = M 170 i ∧ ∀ j, j < 24 → M (138 + 5 * i + 1) j = M 171 (24 * i + j)) ∧ (tN (M 167 i) = 3 → M (135 + 5 * i) 3 = M 168 i)
def Ax (M : zMem) : Prop := tapR M ∧ fldR M ∧ waiR M ∧ sheR M ∧ sloR M
def axA (a : Nat) : Prop := a = 16 ∨ a = 122 ∨ a = 125 ∨ (127 ≤ a ∧ a ≤ 160) ∨ (164 ≤ a ∧ a ≤ 171) ∨ a = 175 ∨ a = 179
theorem tapR_of {M M1 : zMem} (h : tapR M) (e1 : M1 122 = M 122) (e2 : M1 175 = M 175) : tapR M1 := by
  obtain ⟨T, h1, h2, h3⟩ := h
  refine ⟨T, h1, ?_, ?_⟩
  · unfold tpN
    rw [e2]
    exact h2
  · unfold tpC
    rw [e1]
    exact h3
theorem fldR_of {M M1 : zMem} (h : fldR M) (e1 : M1 16 = M 16) (e2 : M1 160 = M 160) : fldR M1 := by
  unfold fldR
  rw [e1, e2]
  exact h
theorem waiR_of {M M1 : zMem} (h : waiR M) (e1 : M1 125 = M 125) (e2 : M1 179 = M 179) : waiR M1 := by
  unfold waiR
  rw [e1, e2]
  exact h
theorem sheR_of {M M1 : zMem} (h : sheR M) (e : ∀ a, (127 ≤ a ∧ a < 135) ∨ (164 ≤ a ∧ a ≤ 166) → M1 a = M a) : sheR M1 := fun i hi => by
  rw [e (127 + 2 * i) (by omega), e (127 + 2 * i + 1) (by omega), e 164 (by omega), e 165 (by omega), e 166 (by omega)]
  exact h i hi
theorem slW_of {M M1 : zMem} {i : Nat} (e1 : M1 (136 + 5 * i) = M (136 + 5 * i)) (e2 : M1 (136 + 5 * i + 1) = M (136 + 5 * i + 1)) : slW M1 i = slW M i := by
  unfold slW
  rw [e1, e2]
theorem sloR_of {M M1 : zMem} (h : sloR M) (e : ∀ a, (135 ≤ a ∧ a < 160) ∨ (167 ≤ a ∧ a ≤ 171) → M1 a = M a) : sloR M1 := fun i hi => by
  rw [slW_of (M := M) (e _ (by omega)) (e _ (by omega)), e (135 + 5 * i) (by omega), e (136 + 5 * i) (by omega), e (136 + 5 * i + 1) (by omega), e (138 + 5 * i) (by omega), e (138 + 5 * i + 1) (by omega), e 167 (by omega), e 168 (by omega), e 169 (by omega), e 170 (by omega), e 171 (by omega)]
  exact h i hi
theorem Ax_of {M M1 : zMem} (h : Ax M) (e : ∀ a, axA a → M1 a = M a) : Ax M1 :=
  ⟨tapR_of h.1 (e _ (by unfold axA; omega)) (e _ (by unfold axA; omega)), fldR_of h.2.1 (e _ (by unfold axA; omega)) (e _ (by unfold axA; omega)), waiR_of h.2.2.1 (e _ (by unfold axA; omega)) (e _ (by unfold axA; omega)), sheR_of h.2.2.2.1 (fun a ha => e a (by unfold axA; omega)), sloR_of h.2.2.2.2 (fun a ha => e a (by unfold axA; omega))⟩
/-- texts' cells that are no stacks -/
def txA (a : Nat) : Prop := 181 ≤ a ∧ (a - 181) % 3 ≠ 2
theorem txt_of {M M1 : zMem} {X : zX} {a : Nat} {c : Nat → Nat} {t : Nat} (h : txt M X a c t) (e : ∀ a, txA a → M1 a = M a) : txt M1 X a c t := by
  obtain ⟨h1, h2, h3, h4, h5, h6, h7, h8, h9, h10⟩ := h
  have e0 : M1 a = M a := e a (by unfold txA; omega)
  have e1 : M1 (a + 1) = M (a + 1) := e (a + 1) (by unfold txA; omega)
  refine ⟨h1, h2, h3, h4, h5, h6, by rw [e0]; exact h7, by rw [e0]; exact h8, by rw [e0]; exact h9, fun k hk => ?_⟩
  rw [e1]
  exact h10 k hk
theorem tx_of {M M1 : zMem} {X : zX} {B : Nat} {c : Nat → Nat} (h : tx M X B c) (e : ∀ a, txA a → M1 a = M a) : tx M1 X B c :=
  ⟨fun t ht => by obtain ⟨a, e1, e2⟩ := h.1 t ht; exact ⟨a, e1, txt_of e2 e⟩, h.2⟩
theorem cm_in {M M1 : zMem} {B : Nat} {c : Nat → Nat} (h : cm M B c = M) (e : ∀ a, B ≤ a → a < B + 31 → M1 a = M a) : cm M1 B c = M1 := by
  funext a k
  cases hj : ix B a k with
  | none => exact cm_k hj
  | some i =>
    have hr : B ≤ a ∧ a < B + 31 := by rcases ix_some hj with ⟨e1, e2, e3⟩ | ⟨q, e1, e2, e3, e4⟩ | ⟨q, e1, e2, e3, e4⟩ | ⟨q, e1, e2, e3, e4⟩ <;> omega
    rw [cm_r hj, e a hr.1 hr.2]
    have := congrFun (congrFun h a) k
    rw [cm_r hj] at this
    exact this
def imgR (M : zMem) (X : zX) (f : Nat → Nat) (b : Nat) : Prop := cm M 48 f = M ∧ (tN (M 16 3) = 0 ∨ ((∀ i, i < 2900 → liv (imP M) i → f i = imP M i) ∧ wf (imP M) b 9999 ∧ tx M X 48 f))
/-- the references may be as they were, or the town of thoughts became as another -/
def thX (X X1 : zX) : Prop := X1 = X ∨ X1 = cpX X 79 17 ∨ X1 = cpX X 79 48
theorem imP_of {M M1 : zMem} (e : M1 162 = M 162) : imP M1 = imP M := by
  unfold imP
  rw [e]
theorem tx_th {M : zMem} {X X1 : zX} {B : Nat} {c : Nat → Nat} (h : tx M X B c) (hX : thX X X1) (hB : B = 17 ∨ B = 48) : tx M X1 B c := by
  rcases hX with rfl | rfl | rfl
  · exact h
  · exact tx_cpX_o h (by omega) (by omega)
  · exact tx_cpX_o h (by omega) (by omega)
theorem imgR_of {M M1 : zMem} {X X1 : zX} {f : Nat → Nat} {b b1 : Nat} (h : imgR M X f b) (hb : b ≤ b1) (e : ∀ a, 48 ≤ a → a < 79 → M1 a = M a) (e2 : M1 162 = M 162) (e3 : M1 16 3 = M 16 3) (e4 : ∀ a, txA a → M1 a = M a) (hX : thX X X1) : imgR M1 X1 f b1 := by
  refine ⟨cm_in h.1 e, ?_⟩
  rw [e3, imP_of e2]
  rcases h.2 with h1 | ⟨h1, h2, h3⟩
  · exact .inl h1
  · exact .inr ⟨h1, wf_mono h2 hb (Nat.le_refl _), tx_th (tx_of h3 e4) hX (.inr rfl)⟩
def Iv (M : zMem) (X : zX) (p c f : Nat → Nat) (b : Nat) : Prop := (kR X ∧ kM X ∧ (tR X 17 ∧ tR X 48 ∧ tR X 79) ∧ (xz X - 181) % 3 = 0) ∧ mm M p = M ∧ cm M 17 c = M ∧ lvE p c ∧ wf p b 9999 ∧ tx M X 17 c ∧ imgR M X f b ∧ Ax M
theorem exX_cpX (X : zX) {B F : Nat} (hB : B = 17 ∨ B = 48 ∨ B = 79) : exX X (cpX X B F) :=
  ⟨fun _ _ => ⟨rfl, rfl⟩, Nat.le_refl _, fun a _ h1 h2 _ => cpX_o X B F (by omega) (by omega), fun k _ => congrFun (cpX_o X B F (by omega) (by omega)) k⟩
theorem kM_cpX {X : zX} (h : kM X) {B F : Nat} (hB : B = 17 ∨ B = 48 ∨ B = 79) : kM (cpX X B F) := kM_ex (exX_cpX X hB) h
def skX (X : zX) : Prop := kR X ∧ kM X ∧ (tR X 17 ∧ tR X 48 ∧ tR X 79) ∧ (xz X - 181) % 3 = 0
theorem skX_cp {X : zX} (h : skX X) {B F : Nat} (hB : B = 17 ∨ B = 48 ∨ B = 79) (hF : F = 17 ∨ F = 48) : skX (cpX X B F) := by
  obtain ⟨h1, h2, ⟨h3, h4, h5⟩, h6⟩ := h
  have hf : tR X F := by rcases hF with rfl | rfl <;> assumption
  have hb : tR X B := by rcases hB with rfl | rfl | rfl <;> assumption
  exact ⟨kR_cpX h1 hB, kM_cpX h2 hB, ⟨tR_cpX h3 hf hb (by omega), tR_cpX h4 hf hb (by omega), tR_cpX h5 hf hb (by omega)⟩, h6⟩
theorem skX_th {X X1 : zX} (h : skX X) (hX : thX X X1) : skX X1 := by
  rcases hX with rfl | rfl | rfl
  · exact h
  · exact skX_cp h (by omega) (by omega)
  · exact skX_cp h (by omega) (by omega)
section IVS
variable {M M1 M2 M3 M4 : zMem} {X X1 : zX} {p c f p1 c1 : Nat → Nat} {b b1 : Nat}
theorem mm_161 (h : mm M p = M) : M 161 = nIf p := by rw [← h]; exact zs_eq _ _ _
theorem mm_of (h : M 161 = nIf p) : mm M p = M := by
  unfold mm
  rw [← h, zs_id]
/-- the next state, by what may differ -/
theorem Iv_next (h : Iv M X p c f b) (hX : thX X X1) (e : ∀ a, (48 ≤ a ∧ a < 79) ∨ a = 162 ∨ txA a → M1 a = M a) (h3 : M1 16 3 = M 16 3) (hp : M1 161 = nIf p1) (hc : cm M1 17 c1 = M1) (hn : nxt p c b1 p1 c1) (hb : b ≤ b1) (hA : Ax M1) : Iv M1 X1 p1 c1 f b1 := by
  obtain ⟨i1, i2, i3, i4, i5, i6, i7, i8⟩ := h
  refine ⟨skX_th i1 hX, mm_of hp, hc, hn.1, hn.2.1, ?_, imgR_of i7 hb (fun a h1 h2 => e a (.inl ⟨h1, h2⟩)) (e 162 (by omega)) h3 (fun a ha => e a (.inr (.inr ha))) hX, hA⟩
  exact tx_th ((tx_of i6 (fun a ha => e a (.inr (.inr ha)))).same hn.2.2.1 hn.2.2.2) hX (.inl rfl)
/-- the class' call over the town that is -/
def clDn (M : zMem) (X : zX) (c1 : Nat → Nat) (M1 : zMem) (X1 : zX) : Prop := thX X X1 ∧ ∃ M2, scx M M2 ∧ M1 = cm M2 17 c1
theorem cl_at (h : clDn M X c1 M1 X1) {a : Nat} (h1 : ¬ (17 ≤ a ∧ a < 48)) (h2 : ¬ scz a) : M1 a = M a := by
  obtain ⟨_, M2, s, rfl⟩ := h
  rw [cm_o (ix_n (by omega))]
  exact s a h2
theorem cl_mm (h : clDn M X c1 M1 X1) (hp : mm M p = M) : mm M1 p = M1 := mm_of (by rw [cl_at h (by omega) (by unfold scz; omega)]; exact mm_161 hp)
theorem cl_cm (h : clDn M X c1 M1 X1) : cm M1 17 c1 = M1 := by
  obtain ⟨_, M2, s, rfl⟩ := h
  exact cm_cm _ _ _ _
/-- then the reference's, over its row -/
theorem Iv_town (h : Iv M X p c f b) (h1 : clDn M X c1 M1 X1) (s2 : scw M1 M3) (e2 : M4 = mm M3 p1) (hn : nxt p c b1 p1 c1) (hb : b ≤ b1) : Iv M4 X1 p1 c1 f b1 := by
  have e : ∀ a, a ≠ 161 → ¬ scq a → M4 a = M1 a := fun a ha hq => by rw [e2, mm_ne _ _ ha]; exact s2 a hq
  have e' : ∀ a, a ≠ 161 → ¬ scq a → ¬ (17 ≤ a ∧ a < 48) → ¬ scz a → M4 a = M a := fun a ha hq hr hz => (e a ha hq).trans (cl_at h1 hr hz)
  refine Iv_next h h1.1 (fun a ha => e' a ?_ ?_ ?_ ?_) (congrFun (e' 16 (by omega) (by unfold scq; omega) (by omega) (by unfold scz; omega)) 3) (by rw [e2]; exact zs_eq _ _ _) (cm_in (cl_cm h1) (fun a h1 h2 => e a (by omega) (by unfold scq; omega))) hn hb (Ax_of h.2.2.2.2.2.2.2 (fun a ha => e' a ?_ ?_ ?_ ?_))
  all_goals (try unfold txA at ha); (try unfold axA at ha); (try unfold scq); (try unfold scz); omega
end IVS
