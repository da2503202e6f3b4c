-- LEX: the reference's words and signs; its fields as a row of numbers F (16 taped, 17 begin, 18 behind, 19 token, 20 number, 21 letter, 22 deep, 23 turned, 24 laid, 25 laidAt, 26 said)
def mf (M : zMem) (F p : Nat → Nat) : zMem := mm (zs M 160 (nIf F)) p
theorem mf_f (M : zMem) (F p : Nat → Nat) (i : Nat) : mf M F p 160 i = nI (F i) := by
  unfold mf
  rw [mm_ne _ _ (by decide), zs_eq]
  rfl
theorem mf_o (M : zMem) (F p : Nat → Nat) {a : Nat} (h : a ≠ 160) (h2 : a ≠ 161) : mf M F p a = M a := by
  unfold mf
  rw [mm_ne _ _ h2, zs_ne _ _ h]
theorem mf_w {M : zMem} {F F2 p : Nat → Nat} {i v : Nat} (h : pu F i v = F2) : zs (mf M F p) 160 (upd ((mf M F p) 160) i (nI v)) = mf M F2 p := by
  unfold mf
  refine mm_wo (by decide) ?_
  rw [zs_eq, zs_zs, ← h]
  congr 1
  funext j
  simp only [upd, nIf, pu]
  split <;> rfl
theorem mf_s (M : zMem) (F p : Nat → Nat) (i v : Nat) : zs (mf M F p) 161 (upd ((mf M F p) 161) i (nI v)) = mf M F (pu p i v) := mm_w _ _ _ _
theorem mf_p (M : zMem) (F p : Nat → Nat) (i : Nat) : mf M F p 161 i = nI (p i) := rfl
/-- the bytes of the tape -/
def tpN (M : zMem) (T : Nat → Nat) : Prop := ∀ i, i < 96 → M 175 i = nI (T i) ∧ T i ≤ 255
def isLet (T : Nat → Nat) (L i : Nat) : Prop := i < L ∧ 97 ≤ T i ∧ T i ≤ 122
def isDig (T : Nat → Nat) (L i : Nat) : Prop := i < L ∧ 48 ≤ T i ∧ T i ≤ 57
def skipT (T : Nat → Nat) (L b : Nat) : Nat := fi (fun i => ¬ T i = 32) (L - b) b
def letE (T : Nat → Nat) (L b : Nat) : Nat := fi (fun i => ¬ (97 ≤ T i ∧ T i ≤ 122)) (L - b) b
def digE (T : Nat → Nat) (L b : Nat) : Nat := fi (fun i => ¬ (48 ≤ T i ∧ T i ≤ 57)) (L - b) b
/-- the number of the first digits, four at most -/
def numT (T : Nat → Nat) (b : Nat) : Nat → Nat
  | 0 => 0
  | k + 1 => if k < 4 then 10 * numT T b k + T (b + k) - 48 else numT T b k
