-- PARSE C: what parse does, on fields and row
def psF (p F : Nat → Nat) : Nat → Nat := pu (pu (pu (pu (pu (pu (pu F 18 0) 19 3) 22 0) 23 0) 24 0) 26 0) 25 (if p 1 < 14 then 100 + 200 * p 1 + 4 else 2900)
/-- parse: fields and row after it, and the key (3: no text) -/
def parseS (T F p : Nat → Nat) : PSt × Nat :=
  let F1 := nextF T (psF p F)
  let k := keyW T F1
  if k = 3 then ((pu F1 16 0, p), 3)
  else match pz T k 1000 0 (nextF T F1, p) with
    | some (true, s1) => (fl s1 16 0, if s1.1 19 = 0 then k else 3)
    | some (false, s1) => (fl s1 16 0, 3)
    | none => ((F, p), 3)
theorem keyW_le (T F : Nat → Nat) : keyW T F ≤ 3 := by
  unfold keyW
  repeat' split
  all_goals omega
theorem keyW_1 {T F : Nat → Nat} (h : ¬ keyW T F = 3) : F 19 = 1 := by
  unfold keyW at h
  repeat' split at h
  all_goals omega
theorem psF_ok {T F p : Nat → Nat} (hT : ∀ i, T i ≤ 255) (h16 : F 16 ≤ 96) (h20 : F 20 ≤ 5287680) (h21 : F 21 ≤ 255) (hp : p 1 ≤ 14) : okF (nextF T (psF p F)) ∧ okP 0 (nextF T (psF p F), p) ∧ nextF T (psF p F) 22 = 0 ∧ nextF T (psF p F) 23 = 0 := by
  have e : psF p F 16 = F 16 ∧ psF p F 18 = 0 ∧ psF p F 20 = F 20 ∧ psF p F 21 = F 21 ∧ psF p F 22 = 0 ∧ psF p F 23 = 0 ∧ psF p F 24 = 0 ∧ psF p F 25 = (if p 1 < 14 then 100 + 200 * p 1 + 4 else 2900) := by
    unfold psF
    refine ⟨?_, ?_, ?_, ?_, ?_, ?_, ?_, ?_⟩ <;> (repeat (first | rw [pu_eq] | rw [pu_ne _ _ (by decide)]))
  obtain ⟨e16, e18, e20, e21, e22, e23, e24, e25⟩ := e
  obtain ⟨n1, n16, n17, nr⟩ := next_ok0 hT (F := psF p F) (by omega) (by omega) (by omega) (by omega)
  have g22 := nr 22 (by decide)
  have g23 := nr 23 (by decide)
  have g24 := nr 24 (by decide)
  have g25 := nr 25 (by decide)
  have z : (if p 1 < 14 then 100 + 200 * p 1 + 4 else 2900) ≤ 2900 := by split <;> omega
  exact ⟨n1, ⟨n1, by dsimp only; omega, by dsimp only; omega, by dsimp only; omega, by dsimp only; omega⟩, by omega, by omega⟩
