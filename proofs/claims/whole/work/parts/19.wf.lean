-- WF: what a town keeps to, and that single writes keep it
theorem drawZ_ne (p : Nat → Nat) {i : Nat} (h : i ≠ 9) : drawZ p i = p i := pu_ne _ _ h
theorem wfO_reg {p : Nat → Nat} (h : wfO p) {k j v : Nat} (hk : k < p 0) (hj : j ≤ 2) (hv : v ≤ 99) : wfO (pu p (10 + 5 * k + (2 + j)) v) := by
  refine ⟨by rw [pu_ne _ _ (by omega)]; exact h.1, fun q hq => ?_⟩
  rw [pu_ne _ _ (by omega)] at hq
  obtain ⟨h0, h1, h2, h3, h4⟩ := h.2 q hq
  have hb := h.1
  have e : ∀ i b, p (10 + 5 * q + i) ≤ b → i ≤ 4 → (2 ≤ i → 99 ≤ b) → pu p (10 + 5 * k + (2 + j)) v (10 + 5 * q + i) ≤ b := by
    intro i b hi hi4 hb2
    unfold pu
    split
    · omega
    · exact hi
  exact ⟨e 0 5 h0 (by omega) (by omega), e 1 7 h1 (by omega) (by omega), e 2 99 h2 (by omega) (by omega), e 3 99 h3 (by omega) (by omega), e 4 99 h4 (by omega) (by omega)⟩
theorem wfO_room {p : Nat → Nat} (h : wfO p) {k v : Nat} (hv : v ≤ 7) (hk : k < p 0) : wfO (pu p (10 + 5 * k + 1) v) := by
  refine ⟨by rw [pu_ne _ _ (by omega)]; exact h.1, fun q hq => ?_⟩
  rw [pu_ne _ _ (by omega)] at hq
  obtain ⟨h0, h1, h2, h3, h4⟩ := h.2 q hq
  have e : ∀ i b, p (10 + 5 * q + i) ≤ b → i ≤ 4 → (i = 1 → 7 ≤ b) → pu p (10 + 5 * k + 1) v (10 + 5 * q + i) ≤ b := by
    intro i b hi hi4 hb2
    unfold pu
    split
    · omega
    · exact hi
  exact ⟨e 0 5 h0 (by omega) (by omega), e 1 7 h1 (by omega) (by omega), e 2 99 h2 (by omega) (by omega), e 3 99 h3 (by omega) (by omega), e 4 99 h4 (by omega) (by omega)⟩
theorem wfO_off {p : Nat → Nat} (h : wfO p) {i v : Nat} (h0 : i ≠ 0) (hi : i < 10 ∨ 50 ≤ i) : wfO (pu p i v) := by
  refine ⟨by rw [pu_ne _ _ (by omega)]; exact h.1, fun q hq => ?_⟩
  rw [pu_ne _ _ (by omega)] at hq
  have hb := h.1
  rw [pu_ne _ _ (by omega), pu_ne _ _ (by omega), pu_ne _ _ (by omega), pu_ne _ _ (by omega), pu_ne _ _ (by omega)]
  exact h.2 q hq
theorem wfL_off {p : Nat → Nat} (h : wfL p) {i v : Nat} (h0 : i ≠ 8) (hi : i < 50 ∨ 100 ≤ i) : wfL (pu p i v) := by
  refine ⟨by rw [pu_ne _ _ (by omega)]; exact h.1, fun q hq => ?_⟩
  rw [pu_ne _ _ (by omega)] at hq
  have hb := h.1
  rw [pu_ne _ _ (by omega), pu_ne _ _ (by omega), pu_ne _ _ (by omega), pu_ne _ _ (by omega), pu_ne _ _ (by omega)]
  exact h.2 q hq
theorem wfL_jam {p : Nat → Nat} (h : wfL p) {l v : Nat} (hv : v ≤ 1) : wfL (pu p (50 + 5 * l + 4) v) := by
  refine ⟨by rw [pu_ne _ _ (by omega)]; exact h.1, fun q hq => ?_⟩
  rw [pu_ne _ _ (by omega)] at hq
  obtain ⟨h0, h1, h2, h3, h4⟩ := h.2 q hq
  have e : ∀ i b, p (50 + 5 * q + i) ≤ b → i ≤ 4 → (i = 4 → 1 ≤ b) → pu p (50 + 5 * l + 4) v (50 + 5 * q + i) ≤ b := by
    intro i b hi hi4 hb2
    unfold pu
    split
    · omega
    · exact hi
  exact ⟨e 0 7 h0 (by omega) (by omega), e 1 7 h1 (by omega) (by omega), e 2 2 h2 (by omega) (by omega), e 3 99 h3 (by omega) (by omega), e 4 1 h4 (by omega) (by omega)⟩
/-- what lies from 100 on decides of the texts -/
theorem dep_same {p p' : Nat → Nat} {q : Nat} (h : ∀ i, q ≤ i → p' i = p i) : ∀ k, dep p' q k = dep p q k
  | 0 => rfl
  | k + 1 => by rw [dep, dep, dep_same h k, h _ (by omega), h _ (by omega)]
theorem evS_same {p p' : Nat → Nat} {q : Nat} {nm : Nat → Int32} (h : ∀ i, q ≤ i → p' i = p i) : ∀ k, evS p' q nm k = evS p q nm k
  | 0 => rfl
  | k + 1 => by rw [evS, evS, evS_same h k, dep_same h k, h _ (by omega), h _ (by omega)]
theorem cnt_same {p p' : Nat → Nat} (h : ∀ i, 100 ≤ i → p' i = p i) (key : Nat) : ∀ n, cnt p' key n = cnt p key n
  | 0 => rfl
  | n + 1 => by rw [cnt, cnt, cnt_same h key n, h _ (by omega)]
theorem evT_same {p p' : Nat → Nat} (h : ∀ i, 100 ≤ i → p' i = p i) (t : Nat) (a b c : Int32) : evT p' t a b c = evT p t a b c := by
  unfold evT
  rw [h _ (by omega), h _ (by omega), evS_same (fun i hi => h i (by omega))]
theorem wfX_same {p p' : Nat → Nat} (h : ∀ i, 100 ≤ i → p' i = p i) {t : Nat} (hx : wfX p t) : wfX p' t := by
  have hd := dep_same (p := p) (p' := p') (q := 104 + 200 * t) (fun i hi => h i (by omega))
  obtain ⟨h1, h2, h3, h4, h5, h6⟩ := hx
  refine ⟨by rw [h _ (by omega)]; exact h1, by rw [h _ (by omega)]; exact h2, by rw [h _ (by omega)]; exact h3, by rw [hd, h _ (by omega)]; exact h4, fun k hk => ?_, fun k hk => ?_⟩
  · rw [h _ (by omega)] at hk
    rw [hd, h _ (by omega)]
    exact h5 k hk
  · rw [h _ (by omega)] at hk
    rw [hd, h _ (by omega), h _ (by omega), h _ (by omega)]
    exact h6 k hk
theorem wfT_same {p p' : Nat → Nat} (h1 : p' 1 = p 1) (h : ∀ i, 100 ≤ i → p' i = p i) (hx : wfT p) : wfT p' :=
  ⟨by rw [h1]; exact hx.1, fun t ht => wfX_same h (hx.2 t (by rw [← h1]; exact ht))⟩
theorem wfT_off {p : Nat → Nat} (h : wfT p) {i v : Nat} (h0 : i ≠ 1) (hi : i < 100) : wfT (pu p i v) := wfT_same (pu_ne _ _ (by omega)) (fun j hj => pu_ne _ _ (by omega)) h
/-- a town as it must be; b bounds its counters, D its day -/
def wf (p : Nat → Nat) (b D : Nat) : Prop := wfO p ∧ wfL p ∧ wfT p ∧ p 2 ≤ D ∧ p 3 ≤ b ∧ p 4 ≤ b ∧ p 5 ≤ b ∧ p 6 ≤ 100 ∧ p 7 ≤ 100
/-- the first of j numbers from k on of which P holds -/
def fi (P : Nat → Prop) [DecidablePred P] : Nat → Nat → Nat
  | 0, k => k
  | j + 1, k => if P k then k else fi P j (k + 1)
theorem fi_le (P : Nat → Prop) [DecidablePred P] : ∀ j k, fi P j k ≤ k + j
  | 0, k => Nat.le_refl _
  | j + 1, k => by
    have := fi_le P j (k + 1)
    unfold fi
    split <;> omega
theorem fi_at (P : Nat → Prop) [DecidablePred P] : ∀ j k, fi P j k < k + j → P (fi P j k)
  | 0, k, h => absurd h (by unfold fi; omega)
  | j + 1, k, h => by
    unfold fi at h ⊢
    split
    · assumption
    · rename_i h1
      rw [if_neg h1] at h
      exact fi_at P j (k + 1) (by omega)
theorem fi_s {P : Nat → Prop} [DecidablePred P] {n k : Nat} (h : k < n) (hp : ¬ P k) : fi P (n - k) k = fi P (n - (k + 1)) (k + 1) := by
  rw [show n - k = (n - (k + 1)) + 1 by omega, fi, if_neg hp]
theorem fi_t {P : Nat → Prop} [DecidablePred P] {n k : Nat} (h : k < n) (hp : P k) : fi P (n - k) k = k := by
  rw [show n - k = (n - (k + 1)) + 1 by omega, fi, if_pos hp]
theorem fi_n {P : Nat → Prop} [DecidablePred P] {n k : Nat} (h : n ≤ k) : fi P (n - k) k = k := by
  rw [show n - k = 0 by omega, fi]
-- the parts of a day
def triesP (p : Nat → Nat) (k : Nat) : Nat → Nat :=
  if fi (fun l => p (50 + 5 * l + 0) = p (10 + 5 * k + 1) ∧ ¬ p (50 + 5 * l + 4) = 1) (p 8 - 0) 0 < p 8 then
    (if drawV p % 100 < 30 then pu (pu (drawZ p) (50 + 5 * fi (fun l => p (50 + 5 * l + 0) = p (10 + 5 * k + 1) ∧ ¬ p (50 + 5 * l + 4) = 1) (p 8 - 0) 0 + 4) 1) 5 (p 5 + 1) else drawZ p)
  else p
def moreP (p : Nat → Nat) (k j b : Nat) : Nat → Nat := pu p (10 + 5 * k + (2 + j)) (min 99 (p (10 + 5 * k + (2 + j)) + b))
def halvesP (p : Nat → Nat) (k : Nat) : Nat → Nat := pu (pu (pu p (10 + 5 * k + 2) (p (10 + 5 * k + 2) / 2)) (10 + 5 * k + 3) (p (10 + 5 * k + 3) / 2)) (10 + 5 * k + 4) (p (10 + 5 * k + 4) / 2)
/-- the first lock through which one goes, or how many there are -/
def doorP (p : Nat → Nat) (k : Nat) : Nat := fi (fun l => p (50 + 5 * l + 0) = p (10 + 5 * k + 1) ∧ p (50 + 5 * l + 4) = 0 ∧ p (50 + 5 * l + 3) ≤ feelsN (p (10 + 5 * k + 0)) (p (10 + 5 * k + (2 + p (50 + 5 * l + 2))))) (p 8 - 0) 0
def onP (p : Nat → Nat) (k : Nat) : Nat → Nat := if doorP p k < p 8 then goP p k (doorP p k) else moreP (pu p 4 (p 4 + 1)) k (p 2 % 3) 1
def personP (p : Nat → Nat) (k : Nat) : Nat → Nat := onP (if p (10 + 5 * k + 0) = 5 then triesP p k else p) k
def peopleP (p : Nat → Nat) : Nat → Nat → Nat
  | 0 => p
  | k + 1 => personP (peopleP p k) k
def deedP (p : Nat → Nat) : Nat → Nat := if drawV p % 100 < p 6 ∧ 0 < p 0 then moreP (drawZ (drawZ (drawZ p))) (drawV (drawZ p) % p 0) (drawV (drawZ (drawZ p)) % 3) 10 else drawZ p
def pardonP (p : Nat → Nat) : Nat → Nat := if drawV p % 100 < p 7 ∧ 0 < p 0 then halvesP (drawZ (drawZ p)) (drawV (drawZ p) % p 0) else drawZ p
def mendP (p : Nat → Nat) : Nat → Nat → Nat
  | 0 => p
  | k + 1 => pu (mendP p k) (50 + 5 * k + 4) 0
def dayP (p : Nat → Nat) : Nat → Nat :=
  let q := pardonP (deedP (peopleP p (p 0)))
  pu (if q 2 % 5 = 4 then mendP q (q 8) else q) 2 (q 2 + 1)
def daysP (p : Nat → Nat) : Nat → Nat → Nat
  | 0 => p
  | k + 1 => dayP (daysP p k)
theorem drawV_lt (p : Nat → Nat) : drawV p < 16777216 := by
  have := tN_lt (nI (p 9) * 1103515245 + nI 12345)
  unfold drawV
  omega
