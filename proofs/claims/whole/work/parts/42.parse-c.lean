-- PARSE C: what parse does, on fields and row
def psF (p F : Nat → Nat) : Nat → Nat := pu (pu (pu (pu (pu (pu (pu F 18 0) 19 3) 22 0) 23 0) 24 0) 26 0) 25 (if p 1 < 14 then 100 + 200 * p 1 + 4 else 2900)
/-- parse: fields and row after it, and the key (3: no text) -/
def parseS (T F p : Nat → Nat) : PSt × Nat :=
  let F1 := nextF T (psF p F)
  let k := keyW T F1
  if k = 3 then ((pu F1 16 0, p), 3)
  else match pz T k 1000 0 (nextF T F1, p) with
    | some (true, s1) => (fl s1 16 0, if s1.1 19 = 0 then k else 3)
    | some (false, s1) => (fl s1 16 0, 3)
    | none => ((F, p), 3)
theorem keyW_le (T F : Nat → Nat) : keyW T F ≤ 3 := by
  unfold keyW
  repeat' split
  all_goals omega
theorem keyW_1 {T F : Nat → Nat} (h : ¬ keyW T F = 3) : F 19 = 1 := by
  unfold keyW at h
  repeat' split at h
  all_goals omega
theorem psF_ok {T F p : Nat → Nat} (hT : ∀ i, T i ≤ 255) (h16 : F 16 ≤ 96) (h20 : F 20 ≤ 5287680) (h21 : F 21 ≤ 255) (hp : p 1 ≤ 14) : okF (nextF T (psF p F)) ∧ okP 0 (nextF T (psF p F), p) ∧ nextF T (psF p F) 22 = 0 ∧ nextF T (psF p F) 23 = 0 := by
  have e : psF p F 16 = F 16 ∧ psF p F 18 = 0 ∧ psF p F 20 = F 20 ∧ psF p F 21 = F 21 ∧ psF p F 22 = 0 ∧ psF p F 23 = 0 ∧ psF p F 24 = 0 ∧ psF p F 25 = (if p 1 < 14 then 100 + 200 * p 1 + 4 else 2900) := by
    unfold psF
    refine ⟨?_, ?_, ?_, ?_, ?_, ?_, ?_, ?_⟩ <;> (repeat (first | rw [pu_eq] | rw [pu_ne _ _ (by decide)]))
  obtain ⟨e16, e18, e20, e21, e22, e23, e24, e25⟩ := e
  obtain ⟨n1, n16, n17, nr⟩ := next_ok0 hT (F := psF p F) (by omega) (by omega) (by omega) (by omega)
  have g22 := nr 22 (by decide)
  have g23 := nr 23 (by decide)
  have g24 := nr 24 (by decide)
  have g25 := nr 25 (by decide)
  have z : (if p 1 < 14 then 100 + 200 * p 1 + 4 else 2900) ≤ 2900 := by split <;> omega
  exact ⟨n1, ⟨n1, by dsimp only; omega, by dsimp only; omega, by dsimp only; omega, by dsimp only; omega⟩, by omega, by omega⟩
/-- the row's places under those of the steps stay -/
theorem pz_p {T : Nat → Nat} (key : Nat) (i : Nat) : ∀ (n lev : Nat) (s : PSt) (r : Bool × PSt), pz T key n lev s = some r → (∀ F : Nat → Nat, ∀ j, 22 ≤ j → nextF T F j = F j) → i < s.1 25 → r.2.2 i = s.2 i ∧ r.2.1 25 = s.1 25
  | 0, lev, s, r, h, hn, hi => by cases h
  | n + 1, lev, s, r, h, hn, hi => by
    have hx : ∀ u : PSt, (nx T u).1 25 = u.1 25 := fun u => hn u.1 25 (by decide)
    have hs : ∀ (u : PSt) (w v : Nat), i < u.1 25 → (stp u w v).2 i = u.2 i ∧ (stp u w v).1 25 = u.1 25 := fun u w v hu => ⟨by unfold stp; dsimp only; rw [pu_ne _ _ (by omega), pu_ne _ _ (by omega)], by unfold stp; dsimp only; rw [pu_ne _ _ (by decide)]⟩
    have hf : ∀ (u : PSt) (j v : Nat), 25 ≠ j → (fl u j v).1 25 = u.1 25 := fun u j v hj => pu_ne _ _ hj
    rw [pz] at h
    split at h
    · split at h
      · rename_i s1 e1
        have z := pz_p key i n _ _ _ e1 hn hi
        have y := pz_p key i n _ _ _ h hn (by rw [z.2]; exact hi)
        exact ⟨y.1.trans z.1, y.2.trans z.2⟩
      · exact pz_p key i n _ _ _ h hn hi
    · split at h
      · split at h
        · cases h
          have z := hs s 0 (s.1 20) hi
          exact ⟨z.1, (hx _).trans ((hf _ _ _ (by decide)).trans z.2)⟩
        · split at h
          · cases h
            have z := hs s 1 (s.1 21) hi
            exact ⟨z.1, (hx _).trans ((hf _ _ _ (by decide)).trans z.2)⟩
          · split at h
            · have q : (nx T (fl s 23 (s.1 23 + 1))).1 25 = s.1 25 := (hx _).trans (hf _ _ _ (by decide))
              split at h
              · rename_i s1 e1
                have z := pz_p key i n _ _ _ e1 hn (by rw [q]; exact hi)
                cases h
                have q2 : (fl s1 23 (s1.1 23 - 1)).1 25 = s.1 25 := (hf _ _ _ (by decide)).trans (z.2.trans q)
                have y := hs (fl s1 23 (s1.1 23 - 1)) 2 33 (by rw [q2]; exact hi)
                exact ⟨y.1.trans z.1, y.2.trans q2⟩
              · have z := pz_p key i n _ _ _ h hn (by rw [q]; exact hi)
                exact ⟨z.1, z.2.trans q⟩
            · split at h
              · cases h
                exact ⟨rfl, rfl⟩
              · have q : (nx T (fl s 22 (s.1 22 + 1))).1 25 = s.1 25 := (hx _).trans (hf _ _ _ (by decide))
                split at h
                · rename_i s1 e1
                  have z := pz_p key i n _ _ _ e1 hn (by rw [q]; exact hi)
                  split at h
                  · cases h
                    exact ⟨z.1, (hx _).trans ((hf _ _ _ (by decide)).trans (z.2.trans q))⟩
                  · cases h
                    exact ⟨z.1, z.2.trans q⟩
                · have z := pz_p key i n _ _ _ h hn (by rw [q]; exact hi)
                  exact ⟨z.1, z.2.trans q⟩
      · split at h
        · split at h
          · rename_i s1 e1
            have z := pz_p key i n _ _ _ e1 hn (by rw [hx]; exact hi)
            have q : s1.1 25 = s.1 25 := z.2.trans (hx s)
            have y := hs s1 2 (s.1 21) (by rw [q]; exact hi)
            split at h
            · cases h
              exact ⟨y.1.trans z.1, y.2.trans q⟩
            · have x := pz_p key i n _ _ _ h hn (by rw [y.2, q]; exact hi)
              exact ⟨x.1.trans (y.1.trans z.1), x.2.trans (y.2.trans q)⟩
          · have z := pz_p key i n _ _ _ h hn (by rw [hx]; exact hi)
            exact ⟨z.1, z.2.trans (hx s)⟩
        · cases h
          exact ⟨rfl, rfl⟩
theorem next_i (T F : Nat → Nat) (j : Nat) (hj : 22 ≤ j) : nextF T F j = F j := by
  unfold nextF nextB
  repeat' split
  all_goals (repeat rw [pu_ne _ _ (by omega)])
/-- parse leaves the row's places under 100 as they were -/
theorem parseS_p {T F p : Nat → Nat} {i : Nat} (hi : i < 100) : (parseS T F p).1.2 i = p i := by
  unfold parseS
  dsimp only
  have h25 : 100 ≤ nextF T (nextF T (psF p F)) 25 := by
    rw [next_i _ _ _ (by decide), next_i _ _ _ (by decide)]
    unfold psF
    rw [pu_eq]
    split <;> omega
  split
  · rfl
  · split
    · rename_i s1 e1
      exact (pz_p _ i 1000 0 _ _ e1 (next_i T) (by dsimp only; omega)).1
    · rename_i s1 e1
      exact (pz_p _ i 1000 0 _ _ e1 (next_i T) (by dsimp only; omega)).1
    · rfl
