-- CLASS TEXTS: cells of a text, the stacks as scratch
def stk (a : Nat) : Prop := 181 ≤ a ∧ (a - 181) % 3 = 2
/-- nothing but the stacks of texts is otherwise -/
def scT (M M1 : zMem) : Prop := ∀ a, ¬ stk a → M1 a = M a
theorem scT.rf (M : zMem) : scT M M := fun _ _ => rfl
theorem scT.tr {M M1 M2 : zMem} (h1 : scT M M1) (h2 : scT M1 M2) : scT M M2 := fun a h => (h2 a h).trans (h1 a h)
theorem scT.s (M : zMem) {a : Nat} (f : Nat → Int32) (h : stk a) : scT M (zs M a f) := fun b hb => zs_ne M f (fun z => hb (by rw [z]; exact h))
theorem scT.cm {M M1 : zMem} (h : scT M M1) (B : Nat) (c : Nat → Nat) (hB : B + 31 ≤ 160) : scT (cm M B c) (cm M1 B c) := fun a ha => by
  funext k
  cases hj : ix B a k with
  | none => rw [cm_k hj, cm_k hj, h a ha]
  | some i => rw [cm_r hj, cm_r hj]
def nmI (key v : Nat) : Nat := if key = 0 then (if v = 114 then 0 else if v = 115 then 1 else 2) else if key = 1 then (if v = 101 then 0 else 1) else (if v = 114 then 0 else 1)
/-- a step as the class writes it -/
def encS (key w v : Nat) : Int32 := if w = 0 then nI v else if w = 1 then nI (10000 + nmI key v) else -(nI v)
def isSg (v : Nat) : Prop := v = 33 ∨ v = 124 ∨ v = 38 ∨ v = 60 ∨ v = 61 ∨ v = 62 ∨ v = 43 ∨ v = 45 ∨ v = 42 ∨ v = 47
/-- the cell a is the text t of c -/
def txt (M : zMem) (X : zX) (a : Nat) (c : Nat → Nat) (t : Nat) : Prop := (181 ≤ a ∧ a + 2 < xz X ∧ (a - 181) % 3 = 0) ∧ xc X a = 5 ∧ xR X a 3 = some (a + 1) ∧ xR X a 4 = some (a + 2) ∧ (xc X (a + 1) = 100 ∧ xl X (a + 1) = c (102 + 200 * t)) ∧ (xc X (a + 2) = 100 ∧ xl X (a + 2) = c (101 + 200 * t)) ∧
  M a 0 = nI t ∧ M a 1 = nI (c (100 + 200 * t)) ∧ M a 2 = nI (c (101 + 200 * t)) ∧ ∀ k, k < c (102 + 200 * t) → M (a + 1) k = encS (c (100 + 200 * t)) (c (104 + 200 * t + 2 * k)) (c (104 + 200 * t + 2 * k + 1)) ∧ (c (104 + 200 * t + 2 * k) = 2 → isSg (c (104 + 200 * t + 2 * k + 1)))
/-- the texts and laws of the town at B -/
def tx (M : zMem) (X : zX) (B : Nat) (c : Nat → Nat) : Prop := (∀ t, t < c 1 → ∃ a, xR X (B + 3) t = some a ∧ txt M X a c t) ∧ ∀ key, key < 3 → xR X (B + 4) key = (match cnt c key (c 1) with
  | none => none
  | some t => xR X (B + 3) t)
theorem txt.sc {M M1 : zMem} {X : zX} {a : Nat} {c : Nat → Nat} {t : Nat} (h : txt M X a c t) (hs : scT M M1) : txt M1 X a c t := by
  obtain ⟨h1, h2, h3, h4, h5, h6, h7, h8, h9, h10⟩ := h
  have e0 : M1 a = M a := hs a (fun z => by unfold stk at z; omega)
  have e1 : M1 (a + 1) = M (a + 1) := hs (a + 1) (fun z => by unfold stk at z; omega)
  refine ⟨h1, h2, h3, h4, h5, h6, by rw [e0]; exact h7, by rw [e0]; exact h8, by rw [e0]; exact h9, fun k hk => ?_⟩
  rw [e1]
  exact h10 k hk
theorem tx.sc {M M1 : zMem} {X : zX} {B : Nat} {c : Nat → Nat} (h : tx M X B c) (hs : scT M M1) : tx M1 X B c :=
  ⟨fun t ht => by obtain ⟨a, e1, e2⟩ := h.1 t ht; exact ⟨a, e1, e2.sc hs⟩, h.2⟩
theorem txt.same {M : zMem} {X : zX} {a : Nat} {c e : Nat → Nat} {t : Nat} (h : txt M X a c t) (hi : ∀ i, 100 ≤ i → e i = c i) : txt M X a e t := by
  obtain ⟨h1, h2, h3, h4, h5, h6, h7, h8, h9, h10⟩ := h
  refine ⟨h1, h2, h3, h4, ⟨h5.1, by rw [hi _ (by omega)]; exact h5.2⟩, ⟨h6.1, by rw [hi _ (by omega)]; exact h6.2⟩, h7, by rw [hi _ (by omega)]; exact h8, by rw [hi _ (by omega)]; exact h9, fun k hk => ?_⟩
  rw [hi _ (by omega)] at hk
  rw [hi _ (by omega), hi _ (by omega), hi _ (by omega)]
  exact h10 k hk
theorem tx.same {M : zMem} {X : zX} {B : Nat} {c e : Nat → Nat} (h : tx M X B c) (h1 : e 1 = c 1) (hi : ∀ i, 100 ≤ i → e i = c i) : tx M X B e :=
  ⟨fun t ht => by obtain ⟨a, e1, e2⟩ := h.1 t (by rw [← h1]; exact ht); exact ⟨a, e1, e2.same hi⟩, fun key hk => by rw [h1, cnt_same hi]; exact h.2 key hk⟩
theorem tx.keep {M : zMem} {X : zX} {B : Nat} {c e : Nat → Nat} (h : tx M X B c) (hk : keepP c e) : tx M X B e := h.same hk.n1 (fun i hi => hk i (by unfold fixd; omega))
/-- the law that counts for a key -/
theorem tx.law {M : zMem} {X : zX} {B : Nat} {c : Nat → Nat} (h : tx M X B c) {key : Nat} (hk : key < 3) {t : Nat} (hc : cnt c key (c 1) = some t) : ∃ a, xR X (B + 4) key = some a ∧ txt M X a c t := by
  have h1 := h.2 key hk
  rw [hc] at h1
  obtain ⟨a, e1, e2⟩ := h.1 t (cnt_lt hc).1
  exact ⟨a, h1.trans e1, e2⟩
theorem tx.no {M : zMem} {X : zX} {B : Nat} {c : Nat → Nat} (h : tx M X B c) {key : Nat} (hk : key < 3) (hc : cnt c key (c 1) = none) : xR X (B + 4) key = none := by
  have h1 := h.2 key hk
  rw [hc] at h1
  exact h1
def tp (D : Nat) : Int32 := nI D + Int32.ofInt (-1)
theorem tp_s (D : Nat) : tp D + Int32.ofInt 1 = nI D := by
  unfold tp
  rw [Int32.add_assoc, show Int32.ofInt (-1) + Int32.ofInt 1 = nI 0 from by decide, nI_add, Nat.add_zero]
theorem tp_p {D : Nat} (h : 1 ≤ D) : tp D = nI (D - 1) := nI_dec1 h
theorem nm_key {key v : Nat} (h : isNm key v) (a b c : Int32) : nmV key v a b c = (if nmI key v = 0 then a else if nmI key v = 1 then b else c) := by
  unfold isNm at h
  rcases h with ⟨rfl, rfl | rfl | rfl⟩ | ⟨rfl, rfl | rfl⟩ | ⟨rfl, rfl | rfl⟩ <;> rfl
theorem nmI_le (key v : Nat) : nmI key v ≤ 2 := by
  unfold nmI
  repeat' split
  all_goals omega
theorem neg_toInt {v : Nat} (h : v < 2147483648) : (-(nI v)).toInt = -(v : Int) := by
  rw [Int32.toInt_neg, i_N h, Int.bmod_eq_of_le (by omega) (by omega)]
theorem neg_neg (x : Int32) : -(-x) = x := by
  apply Int32.toBitVec_inj.mp
  simp
