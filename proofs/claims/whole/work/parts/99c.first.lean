-- FIRST: what the rows hold when both objects are made
def c00 : Nat → Nat := pu (pu (pu (fun _ => 0) 9 1) 6 30) 7 10
theorem ix_big {B a k : Nat} (hB : B = 17 ∨ B = 48 ∨ B = 79) (h : 110 ≤ a ∨ 14 ≤ k) : ix B a k = none := by
  have hF : 14 ≤ k → tF k = none := by
    intro hk
    unfold tF
    split <;> first | omega | rfl
  unfold ix
  rcases h with h | h
  · rw [if_neg (by omega), if_neg (by omega), if_neg (by omega)]
  · split
    · exact hF h
    · split
      · split
        · rw [if_neg (by omega)]
        · rw [if_neg (by omega)]
      · split
        · rw [if_neg (by omega)]
        · rfl
theorem Ms_17 : cm Ms 17 c00 = Ms := by
  have h : ∀ a, a < 110 → ∀ k, k < 14 → cm Ms 17 c00 a k = Ms a k := by decide +kernel
  funext a k
  by_cases z : a < 110 ∧ k < 14
  · exact h a z.1 k z.2
  · exact cm_k (ix_big (by omega) (by omega))
theorem Ms_48 : cm Ms 48 c00 = Ms := by
  have h : ∀ a, a < 110 → ∀ k, k < 14 → cm Ms 48 c00 a k = Ms a k := by decide +kernel
  funext a k
  by_cases z : a < 110 ∧ k < 14
  · exact h a z.1 k z.2
  · exact cm_k (ix_big (by omega) (by omega))
theorem Ms_79 : cm Ms 79 c00 = Ms := by
  have h : ∀ a, a < 110 → ∀ k, k < 14 → cm Ms 79 c00 a k = Ms a k := by decide +kernel
  funext a k
  by_cases z : a < 110 ∧ k < 14
  · exact h a z.1 k z.2
  · exact cm_k (ix_big (by omega) (by omega))
/-- the reference's row -/
def p00 : Nat → Nat := fun j => tN (Ms 161 j)
theorem Ms_mm : mm Ms p00 = Ms := by
  unfold mm
  have e : Ms 161 = nIf p00 := by
    funext j
    exact (nI_tN (Ms 161 j)).symm
  rw [← e]
  funext b
  by_cases h : b = 161
  · rw [h, zs_eq]
  · rw [zs_ne _ _ h]
theorem p00_c : ∀ j, j < 104 → p00 j = c00 j := by decide +kernel
