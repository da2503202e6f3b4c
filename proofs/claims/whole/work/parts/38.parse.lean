-- PARSE: recursive descent as the reference does it, on fields and steps (F, p), by a fuel
abbrev PSt : Type := (Nat → Nat) × (Nat → Nat)
def nx (T : Nat → Nat) (s : PSt) : PSt := (nextF T s.1, s.2)
def stp (s : PSt) (w v : Nat) : PSt := (pu s.1 24 (s.1 24 + 1), pu (pu s.2 (s.1 25 + 2 * s.1 24) w) (s.1 25 + 2 * s.1 24 + 1) v)
def fl (s : PSt) (i v : Nat) : PSt := (pu s.1 i v, s.2)
/-- the signs of a level: 0 |, 1 &, 2 < = >, 3 + -, 4 * / -/
def sgL (l : Nat) (F : Nat → Nat) : Bool := decide (F 19 = 3 ∧ ((l = 0 ∧ F 21 = 124) ∨ (l = 1 ∧ F 21 = 38) ∨ (l = 2 ∧ (F 21 = 60 ∨ F 21 = 61 ∨ F 21 = 62)) ∨ (l = 3 ∧ (F 21 = 43 ∨ F 21 = 45)) ∨ (l = 4 ∧ (F 21 = 42 ∨ F 21 = 47))))
def nmL (key e : Nat) : Bool := decide ((key = 0 ∧ (e = 114 ∨ e = 115 ∨ e = 116)) ∨ (key = 1 ∧ (e = 101 ∨ e = 104)) ∨ (key = 2 ∧ (e = 114 ∨ e = 111)))
/-- levels 0 .. 4: either, both, test, sum, term; 5: part0; 10 + l: the loop of level l -/
def pz (T : Nat → Nat) (key : Nat) : Nat → Nat → PSt → Option (Bool × PSt)
  | 0, _, _ => none
  | n + 1, lev, s =>
    if lev < 5 then (match pz T key n (lev + 1) s with
      | some (true, s1) => pz T key n (10 + lev) s1
      | r => r)
    else if lev = 5 then
      (if s.1 19 = 2 then (let s1 := stp s 0 (s.1 20); some (true, nx T (fl s1 26 (s1.1 26 + 1))))
      else if s.1 19 = 1 ∧ ¬ s.1 21 = 0 ∧ nmL key (s.1 21) = true then (let s1 := stp s 1 (s.1 21); some (true, nx T (fl s1 26 (s1.1 26 + 1))))
      else if (s.1 19 = 3 ∧ s.1 21 = 33) ∧ s.1 23 < 8 then
        (match pz T key n 5 (nx T (fl s 23 (s.1 23 + 1))) with
        | some (true, s1) => some (true, stp (fl s1 23 (s1.1 23 - 1)) 2 33)
        | r => r)
      else if ¬ (s.1 19 = 3 ∧ s.1 21 = 40) ∨ s.1 22 = 8 then some (false, s)
      else (match pz T key n 0 (nx T (fl s 22 (s.1 22 + 1))) with
        | some (true, s1) => if s1.1 19 = 3 ∧ s1.1 21 = 41 then some (true, nx T (fl s1 22 (s1.1 22 - 1))) else some (false, s1)
        | r => r))
    else (if sgL (lev - 10) s.1 = true then
        (match pz T key n (lev - 10 + 1) (nx T s) with
        | some (true, s1) => if lev = 12 then some (true, stp s1 2 (s.1 21)) else pz T key n lev (stp s1 2 (s.1 21))
        | r => r)
      else some (true, s))
def okF (F : Nat → Nat) : Prop := F 16 ≤ 96 ∧ F 17 ≤ F 18 ∧ F 18 ≤ F 16 ∧ F 19 ≤ 4 ∧ F 20 ≤ 5287680 ∧ F 21 ≤ 255 ∧ (¬ F 19 = 0 → F 17 < F 18)
theorem fi_gt {P : Nat → Prop} [DecidablePred P] {n b : Nat} (h : b < n) (hp : ¬ P b) : b < fi P (n - b) b := by
  rw [fi_s h hp]
  exact fi_ge P _ _
theorem skip_b (T F : Nat → Nat) (h : F 18 ≤ F 16) : F 18 ≤ skipT T (F 16) (F 18) ∧ skipT T (F 16) (F 18) ≤ F 16 := by
  have h1 := fi_ge (fun i => ¬ T i = 32) (F 16 - F 18) (F 18)
  have h2 := fi_le (fun i => ¬ T i = 32) (F 16 - F 18) (F 18)
  unfold skipT
  omega
/-- what the next word leaves: okF, the tape's length, what isn't of the words; it begins behind the last -/
theorem next_ok {T F : Nat → Nat} (hT : ∀ i, T i ≤ 255) (h : okF F) : okF (nextF T F) ∧ nextF T F 16 = F 16 ∧ F 18 ≤ nextF T F 17 ∧ ∀ i, 22 ≤ i → nextF T F i = F i := by
  obtain ⟨h16, h17, h18, h19, h20, h21, h0⟩ := h
  have hs := skip_b T F h18
  unfold nextF
  generalize skipT T (F 16) (F 18) = b at hs ⊢
  have hTb := hT b
  unfold nextB
  split
  · rename_i e
    refine ⟨⟨?_, ?_, ?_, ?_, ?_, ?_, ?_⟩, ?_, ?_, ?_⟩
    all_goals first | (intro i hi; repeat rw [pu_ne _ _ (by omega)]) | ((repeat (first | rw [pu_eq] | rw [pu_ne _ _ (by decide)])); all_goals (first | omega | rfl))
  · rename_i e
    split
    · rename_i hl
      have hg := fi_gt (P := fun i => ¬ (97 ≤ T i ∧ T i ≤ 122)) (n := F 16) (b := b) (by omega) (fun z => z hl)
      have hle := fi_le (fun i => ¬ (97 ≤ T i ∧ T i ≤ 122)) (F 16 - b) b
      have hg' : b < letE T (F 16) b := hg
      have hle' : letE T (F 16) b ≤ b + (F 16 - b) := hle
      have a1 : (if ((0 < F 18 ∧ (F 19 = 1 ∨ F 19 = 2)) ∧ F 18 = b) then 4 else 1) ≤ 4 := by split <;> omega
      have a2 : (if letE T (F 16) b - b = 1 then T b else 0) ≤ 255 := by split <;> omega
      refine ⟨⟨?_, ?_, ?_, ?_, ?_, ?_, ?_⟩, ?_, ?_, ?_⟩
      all_goals first | (intro i hi; repeat rw [pu_ne _ _ (by omega)]) | ((repeat (first | rw [pu_eq] | rw [pu_ne _ _ (by decide)])); all_goals (first | omega | rfl))
    · split
      · rename_i hl
        have hg := fi_gt (P := fun i => ¬ (48 ≤ T i ∧ T i ≤ 57)) (n := F 16) (b := b) (by omega) (fun z => z hl)
        have hle := fi_le (fun i => ¬ (48 ≤ T i ∧ T i ≤ 57)) (F 16 - b) b
        have hg' : b < digE T (F 16) b := hg
        have hle' : digE T (F 16) b ≤ b + (F 16 - b) := hle
        have a1 : (if ((0 < F 18 ∧ (F 19 = 1 ∨ F 19 = 2)) ∧ F 18 = b) ∨ 4 < digE T (F 16) b - b then 4 else 2) ≤ 4 := by split <;> omega
        have hnl := numT_le T hT (b := b) (digE T (F 16) b - b)
        have hpw : 12 ^ min (digE T (F 16) b - b) 4 ≤ 12 ^ 4 := Nat.pow_le_pow_right (by decide) (by omega)
        have a2 : numT T b (digE T (F 16) b - b) ≤ 5287680 := by omega
        refine ⟨⟨?_, ?_, ?_, ?_, ?_, ?_, ?_⟩, ?_, ?_, ?_⟩
        all_goals first | (intro i hi; repeat rw [pu_ne _ _ (by omega)]) | ((repeat (first | rw [pu_eq] | rw [pu_ne _ _ (by decide)])); all_goals (first | omega | rfl))
      · refine ⟨⟨?_, ?_, ?_, ?_, ?_, ?_, ?_⟩, ?_, ?_, ?_⟩
        all_goals first | (intro i hi; repeat rw [pu_ne _ _ (by omega)]) | ((repeat (first | rw [pu_eq] | rw [pu_ne _ _ (by decide)])); all_goals (first | omega | rfl))
