-- PARSE: recursive descent as the reference does it, on fields and steps (F, p), by a fuel
abbrev PSt : Type := (Nat → Nat) × (Nat → Nat)
def nx (T : Nat → Nat) (s : PSt) : PSt := (nextF T s.1, s.2)
def stp (s : PSt) (w v : Nat) : PSt := (pu s.1 24 (s.1 24 + 1), pu (pu s.2 (s.1 25 + 2 * s.1 24) w) (s.1 25 + 2 * s.1 24 + 1) v)
def fl (s : PSt) (i v : Nat) : PSt := (pu s.1 i v, s.2)
/-- the signs of a level: 0 |, 1 &, 2 < = >, 3 + -, 4 * / -/
def sgL (l : Nat) (F : Nat → Nat) : Bool := decide (F 19 = 3 ∧ ((l = 0 ∧ F 21 = 124) ∨ (l = 1 ∧ F 21 = 38) ∨ (l = 2 ∧ (F 21 = 60 ∨ F 21 = 61 ∨ F 21 = 62)) ∨ (l = 3 ∧ (F 21 = 43 ∨ F 21 = 45)) ∨ (l = 4 ∧ (F 21 = 42 ∨ F 21 = 47))))
def nmL (key e : Nat) : Bool := decide ((key = 0 ∧ (e = 114 ∨ e = 115 ∨ e = 116)) ∨ (key = 1 ∧ (e = 101 ∨ e = 104)) ∨ (key = 2 ∧ (e = 114 ∨ e = 111)))
/-- levels 0 .. 4: either, both, test, sum, term; 5: part0; 10 + l: the loop of level l -/
def pz (T : Nat → Nat) (key : Nat) : Nat → Nat → PSt → Option (Bool × PSt)
  | 0, _, _ => none
  | n + 1, lev, s =>
    if lev < 5 then (match pz T key n (lev + 1) s with
      | some (true, s1) => pz T key n (10 + lev) s1
      | r => r)
    else if lev = 5 then
      (if s.1 19 = 2 then (let s1 := stp s 0 (s.1 20); some (true, nx T (fl s1 26 (s1.1 26 + 1))))
      else if s.1 19 = 1 ∧ ¬ s.1 21 = 0 ∧ nmL key (s.1 21) = true then (let s1 := stp s 1 (s.1 21); some (true, nx T (fl s1 26 (s1.1 26 + 1))))
      else if (s.1 19 = 3 ∧ s.1 21 = 33) ∧ s.1 23 < 8 then
        (match pz T key n 5 (nx T (fl s 23 (s.1 23 + 1))) with
        | some (true, s1) => some (true, stp (fl s1 23 (s1.1 23 - 1)) 2 33)
        | r => r)
      else if ¬ (s.1 19 = 3 ∧ s.1 21 = 40) ∨ s.1 22 = 8 then some (false, s)
      else (match pz T key n 0 (nx T (fl s 22 (s.1 22 + 1))) with
        | some (true, s1) => if s1.1 19 = 3 ∧ s1.1 21 = 41 then some (true, nx T (fl s1 22 (s1.1 22 - 1))) else some (false, s1)
        | r => r))
    else (if sgL (lev - 10) s.1 = true then
        (match pz T key n (lev - 10 + 1) (nx T s) with
        | some (true, s1) => if lev = 12 then some (true, stp s1 2 (s.1 21)) else pz T key n lev (stp s1 2 (s.1 21))
        | r => r)
      else some (true, s))
def okF (F : Nat → Nat) : Prop := F 16 ≤ 96 ∧ F 17 ≤ F 18 ∧ F 18 ≤ F 16 ∧ F 19 ≤ 4 ∧ F 20 ≤ 5287680 ∧ F 21 ≤ 255 ∧ (¬ F 19 = 0 → F 17 < F 18)
theorem fi_gt {P : Nat → Prop} [DecidablePred P] {n b : Nat} (h : b < n) (hp : ¬ P b) : b < fi P (n - b) b := by
  rw [fi_s h hp]
  exact fi_ge P _ _
theorem skip_b (T F : Nat → Nat) (h : F 18 ≤ F 16) : F 18 ≤ skipT T (F 16) (F 18) ∧ skipT T (F 16) (F 18) ≤ F 16 := by
  have h1 := fi_ge (fun i => ¬ T i = 32) (F 16 - F 18) (F 18)
  have h2 := fi_le (fun i => ¬ T i = 32) (F 16 - F 18) (F 18)
  unfold skipT
  omega
/-- what the next word leaves: okF, the tape's length, what isn't of the words; it begins behind the last -/
theorem next_ok0 {T F : Nat → Nat} (hT : ∀ i, T i ≤ 255) (h16 : F 16 ≤ 96) (h18 : F 18 ≤ F 16) (h20 : F 20 ≤ 5287680) (h21 : F 21 ≤ 255) : okF (nextF T F) ∧ nextF T F 16 = F 16 ∧ F 18 ≤ nextF T F 17 ∧ ∀ i, 22 ≤ i → nextF T F i = F i := by
  have hs := skip_b T F h18
  unfold nextF
  generalize skipT T (F 16) (F 18) = b at hs ⊢
  have hTb := hT b
  unfold nextB
  split
  · rename_i e
    refine ⟨⟨?_, ?_, ?_, ?_, ?_, ?_, ?_⟩, ?_, ?_, ?_⟩
    all_goals first | (intro i hi; repeat rw [pu_ne _ _ (by omega)]) | ((repeat (first | rw [pu_eq] | rw [pu_ne _ _ (by decide)])); all_goals (first | omega | rfl))
  · rename_i e
    split
    · rename_i hl
      have hg := fi_gt (P := fun i => ¬ (97 ≤ T i ∧ T i ≤ 122)) (n := F 16) (b := b) (by omega) (fun z => z hl)
      have hle := fi_le (fun i => ¬ (97 ≤ T i ∧ T i ≤ 122)) (F 16 - b) b
      have hg' : b < letE T (F 16) b := hg
      have hle' : letE T (F 16) b ≤ b + (F 16 - b) := hle
      have a1 : (if ((0 < F 18 ∧ (F 19 = 1 ∨ F 19 = 2)) ∧ F 18 = b) then 4 else 1) ≤ 4 := by split <;> omega
      have a2 : (if letE T (F 16) b - b = 1 then T b else 0) ≤ 255 := by split <;> omega
      refine ⟨⟨?_, ?_, ?_, ?_, ?_, ?_, ?_⟩, ?_, ?_, ?_⟩
      all_goals first | (intro i hi; repeat rw [pu_ne _ _ (by omega)]) | ((repeat (first | rw [pu_eq] | rw [pu_ne _ _ (by decide)])); all_goals (first | omega | rfl))
    · split
      · rename_i hl
        have hg := fi_gt (P := fun i => ¬ (48 ≤ T i ∧ T i ≤ 57)) (n := F 16) (b := b) (by omega) (fun z => z hl)
        have hle := fi_le (fun i => ¬ (48 ≤ T i ∧ T i ≤ 57)) (F 16 - b) b
        have hg' : b < digE T (F 16) b := hg
        have hle' : digE T (F 16) b ≤ b + (F 16 - b) := hle
        have a1 : (if ((0 < F 18 ∧ (F 19 = 1 ∨ F 19 = 2)) ∧ F 18 = b) ∨ 4 < digE T (F 16) b - b then 4 else 2) ≤ 4 := by split <;> omega
        have hnl := numT_le T hT (b := b) (digE T (F 16) b - b)
        have hpw : 12 ^ min (digE T (F 16) b - b) 4 ≤ 12 ^ 4 := Nat.pow_le_pow_right (by decide) (by omega)
        have a2 : numT T b (digE T (F 16) b - b) ≤ 5287680 := by omega
        refine ⟨⟨?_, ?_, ?_, ?_, ?_, ?_, ?_⟩, ?_, ?_, ?_⟩
        all_goals first | (intro i hi; repeat rw [pu_ne _ _ (by omega)]) | ((repeat (first | rw [pu_eq] | rw [pu_ne _ _ (by decide)])); all_goals (first | omega | rfl))
      · refine ⟨⟨?_, ?_, ?_, ?_, ?_, ?_, ?_⟩, ?_, ?_, ?_⟩
        all_goals first | (intro i hi; repeat rw [pu_ne _ _ (by omega)]) | ((repeat (first | rw [pu_eq] | rw [pu_ne _ _ (by decide)])); all_goals (first | omega | rfl))
theorem next_ok {T F : Nat → Nat} (hT : ∀ i, T i ≤ 255) (h : okF F) : okF (nextF T F) ∧ nextF T F 16 = F 16 ∧ F 18 ≤ nextF T F 17 ∧ ∀ i, 22 ≤ i → nextF T F i = F i := next_ok0 hT h.1 h.2.2.1 h.2.2.2.2.1 h.2.2.2.2.2.1
def okP (c : Nat) (s : PSt) : Prop := okF s.1 ∧ s.1 24 + c ≤ s.1 17 ∧ s.1 22 ≤ 8 ∧ s.1 23 ≤ 8 ∧ s.1 25 ≤ 2900
def kps (F E : Nat → Nat) : Prop := E 22 = F 22 ∧ E 23 = F 23 ∧ E 25 = F 25 ∧ E 16 = F 16 ∧ F 17 ≤ E 17
theorem kps_trans {F E H : Nat → Nat} (a : kps F E) (b : kps E H) : kps F H := ⟨b.1.trans a.1, b.2.1.trans a.2.1, b.2.2.1.trans a.2.2.1, b.2.2.2.1.trans a.2.2.2.1, Nat.le_trans a.2.2.2.2 b.2.2.2.2⟩
theorem okF_pu {F : Nat → Nat} {i v : Nat} (h : okF F) (hi : 22 ≤ i) : okF (pu F i v) := by
  unfold okF at *
  repeat rw [pu_ne _ _ (by omega)]
  exact h
theorem nx_f {T : Nat → Nat} {s : PSt} (hT : ∀ i, T i ≤ 255) (h : okF s.1) (h0 : ¬ s.1 19 = 0) : okF (nx T s).1 ∧ s.1 17 < (nx T s).1 17 ∧ (nx T s).1 22 = s.1 22 ∧ (nx T s).1 23 = s.1 23 ∧ (nx T s).1 24 = s.1 24 ∧ (nx T s).1 25 = s.1 25 ∧ (nx T s).1 16 = s.1 16 := by
  have h2 := h
  obtain ⟨-, -, -, -, -, -, hz⟩ := h2
  have hz2 := hz h0
  obtain ⟨a, b, e, g⟩ := next_ok hT h
  exact ⟨a, Nat.lt_of_lt_of_le hz2 e, g 22 (by decide), g 23 (by decide), g 24 (by decide), g 25 (by decide), b⟩
theorem stp_f {s : PSt} {w v : Nat} (h : okF s.1) : okF (stp s w v).1 ∧ (stp s w v).1 17 = s.1 17 ∧ (stp s w v).1 19 = s.1 19 ∧ (stp s w v).1 22 = s.1 22 ∧ (stp s w v).1 23 = s.1 23 ∧ (stp s w v).1 24 = s.1 24 + 1 ∧ (stp s w v).1 25 = s.1 25 ∧ (stp s w v).1 16 = s.1 16 := by
  refine ⟨okF_pu h (by decide), ?_, ?_, ?_, ?_, ?_, ?_, ?_⟩ <;> (unfold stp; dsimp only; first | rw [pu_eq] | rw [pu_ne _ _ (by decide)])
theorem fl_n {s : PSt} {i v j : Nat} (h : j ≠ i) : (fl s i v).1 j = s.1 j := pu_ne _ _ h
theorem fl_e {s : PSt} {i v : Nat} : (fl s i v).1 i = v := pu_eq _ _ _
theorem fl_f {s : PSt} {i v : Nat} (h : okF s.1) (hi : 22 ≤ i) : okF (fl s i v).1 := okF_pu h hi
/-- a part of number or name: a step, then the next word -/
theorem leaf_ok {T : Nat → Nat} (hT : ∀ i, T i ≤ 255) {c : Nat} {s : PSt} {w v k : Nat} (h : okP c s) (h0 : ¬ s.1 19 = 0) : okP c (nx T (fl (stp s w v) 26 k)) ∧ kps s.1 (nx T (fl (stp s w v) 26 k)).1 := by
  obtain ⟨a1, a2, a3, a4, a5⟩ := h
  obtain ⟨b1, b2, b3, b4, b5, b6, b7, b8⟩ := stp_f (w := w) (v := v) a1
  obtain ⟨g1, g2, g3, g4, g5, g6, g7⟩ := nx_f hT (fl_f (i := 26) (v := k) b1 (by decide)) (by rw [fl_n (by decide)]; omega)
  rw [fl_n (by decide)] at g2 g3 g4 g5 g6 g7
  exact ⟨⟨g1, by omega, by omega, by omega, by omega⟩, by omega, by omega, by omega, by omega⟩
theorem pz_ok {T : Nat → Nat} (hT : ∀ i, T i ≤ 255) (key : Nat) : ∀ (n lev : Nat) (s : PSt) (r : Bool × PSt) (c : Nat), pz T key n lev s = some r → okP c s → okF r.2.1 ∧ (r.1 = true → okP c r.2 ∧ kps s.1 r.2.1)
  | 0, lev, s, r, c, h, ho => by cases h
  | n + 1, lev, s, r, c, h, ho => by
    have ho2 := ho
    obtain ⟨a1, a2, a3, a4, a5⟩ := ho2
    have kr : kps s.1 s.1 := ⟨rfl, rfl, rfl, rfl, Nat.le_refl _⟩
    rw [pz] at h
    split at h
    · split at h
      · rename_i s1 e1
        obtain ⟨o1, k1⟩ := (pz_ok hT key n _ _ _ c e1 ho).2 rfl
        have z := pz_ok hT key n _ _ _ c h o1
        exact ⟨z.1, fun e => ⟨(z.2 e).1, kps_trans k1 (z.2 e).2⟩⟩
      · exact pz_ok hT key n _ _ _ c h ho
    · split at h
      · split at h
        · cases h
          have z := leaf_ok hT (w := 0) (v := s.1 20) (k := (stp s 0 (s.1 20)).1 26 + 1) ho (by omega)
          exact ⟨z.1.1, fun _ => z⟩
        · split at h
          · cases h
            have z := leaf_ok hT (w := 1) (v := s.1 21) (k := (stp s 1 (s.1 21)).1 26 + 1) ho (by omega)
            exact ⟨z.1.1, fun _ => z⟩
          · split at h
            · rename_i h8
              obtain ⟨g1, g2, g3, g4, g5, g6, g7⟩ := nx_f hT (fl_f (i := 23) (v := s.1 23 + 1) a1 (by decide)) (by rw [fl_n (by decide)]; omega)
              rw [fl_n (by decide)] at g2 g3 g5 g6 g7
              rw [fl_e] at g4
              have hq : okP (c + 1) (nx T (fl s 23 (s.1 23 + 1))) := ⟨g1, by omega, by omega, by omega, by omega⟩
              split at h
              · rename_i s1 e1
                obtain ⟨⟨o1, o2, o3, o4, o5⟩, k1, k2, k3, k4⟩ := (pz_ok hT key n _ _ _ (c + 1) e1 hq).2 rfl
                cases h
                obtain ⟨b1, b2, b3, b4, b5, b6, b7, b8⟩ := stp_f (w := 2) (v := 33) (fl_f (i := 23) (v := s1.1 23 - 1) o1 (by decide))
                rw [fl_n (by decide)] at b2 b3 b4 b6 b7 b8
                rw [fl_e] at b5
                dsimp only at o1 o2 o3 o4 o5 k1 k2 k3 k4 b1 b2 b3 b4 b5 b6 b7 b8 ⊢
                exact ⟨b1, fun _ => ⟨⟨b1, by omega, by omega, by omega, by omega⟩, by omega, by omega, by omega, by omega⟩⟩
              · rename_i hne
                have z := pz_ok hT key n _ _ _ (c + 1) h hq
                refine ⟨z.1, fun e => ?_⟩
                obtain ⟨b, s1⟩ := r
                cases e
                exact (hne _ h).elim
            · split at h
              · cases h
                exact ⟨a1, fun e => by cases e⟩
              · rename_i h8
                obtain ⟨g1, g2, g3, g4, g5, g6, g7⟩ := nx_f hT (fl_f (i := 22) (v := s.1 22 + 1) a1 (by decide)) (by rw [fl_n (by decide)]; omega)
                rw [fl_n (by decide)] at g2 g4 g5 g6 g7
                rw [fl_e] at g3
                have hq : okP c (nx T (fl s 22 (s.1 22 + 1))) := ⟨g1, by omega, by omega, by omega, by omega⟩
                split at h
                · rename_i s1 e1
                  obtain ⟨⟨o1, o2, o3, o4, o5⟩, k1, k2, k3, k4⟩ := (pz_ok hT key n _ _ _ c e1 hq).2 rfl
                  dsimp only at o1 o2 o3 o4 o5 k1 k2 k3 k4
                  split at h
                  · rename_i h9
                    cases h
                    obtain ⟨b1, b2, b3, b4, b5, b6, b7⟩ := nx_f hT (fl_f (i := 22) (v := s1.1 22 - 1) o1 (by decide)) (by rw [fl_n (by decide)]; omega)
                    rw [fl_n (by decide)] at b2 b4 b5 b6 b7
                    rw [fl_e] at b3
                    dsimp only
                    exact ⟨b1, fun _ => ⟨⟨b1, by omega, by omega, by omega, by omega⟩, by omega, by omega, by omega, by omega⟩⟩
                  · cases h
                    exact ⟨o1, fun e => by cases e⟩
                · rename_i hne
                  have z := pz_ok hT key n _ _ _ c h hq
                  refine ⟨z.1, fun e => ?_⟩
                  obtain ⟨b, s1⟩ := r
                  cases e
                  exact (hne _ h).elim
      · split at h
        · rename_i hs
          have h19 : s.1 19 = 3 := (of_decide_eq_true hs).1
          obtain ⟨g1, g2, g3, g4, g5, g6, g7⟩ := nx_f hT a1 (by omega)
          have hq : okP (c + 1) (nx T s) := ⟨g1, by omega, by omega, by omega, by omega⟩
          split at h
          · rename_i s1 e1
            obtain ⟨⟨o1, o2, o3, o4, o5⟩, k1, k2, k3, k4⟩ := (pz_ok hT key n _ _ _ (c + 1) e1 hq).2 rfl
            dsimp only at o1 o2 o3 o4 o5 k1 k2 k3 k4
            obtain ⟨b1, b2, b3, b4, b5, b6, b7, b8⟩ := stp_f (w := 2) (v := s.1 21) o1
            have hq2 : okP c (stp s1 2 (s.1 21)) := ⟨b1, by omega, by omega, by omega, by omega⟩
            have hk2 : kps s.1 (stp s1 2 (s.1 21)).1 := ⟨by omega, by omega, by omega, by omega⟩
            split at h
            · cases h
              exact ⟨b1, fun _ => ⟨hq2, hk2⟩⟩
            · have z := pz_ok hT key n _ _ _ c h hq2
              exact ⟨z.1, fun e => ⟨(z.2 e).1, kps_trans hk2 (z.2 e).2⟩⟩
          · rename_i hne
            have z := pz_ok hT key n _ _ _ (c + 1) h hq
            refine ⟨z.1, fun e => ?_⟩
            obtain ⟨b, s1⟩ := r
            cases e
            exact (hne _ h).elim
        · cases h
          exact ⟨a1, fun _ => ⟨ho, kr⟩⟩
