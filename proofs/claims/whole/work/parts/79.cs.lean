-- CS: what the waiting signs keep, and the token at hand in both
def cnL (v : Nat) : List Nat → Nat
  | [] => 0
  | x :: O => (if x = v then 1 else 0) + cnL v O
/-- over a ! stands a ! or a bracket; a is the sign above -/
def gO : Nat → List Nat → Prop
  | _, [] => True
  | a, x :: O => (x = 33 → a = 33 ∨ a = 40) ∧ gO x O
theorem gO_0 {a : Nat} (h : ¬ a = 33) (h2 : ¬ a = 40) : ∀ {O : List Nat}, gO a O → gO 0 O
  | [], _ => trivial
  | x :: O, ⟨h1, h3⟩ => ⟨fun z => by have := h1 z; omega, h3⟩
theorem gO_33 {a : Nat} : ∀ {O : List Nat}, gO a O → gO 33 O
  | [], _ => trivial
  | x :: O, ⟨h1, h3⟩ => ⟨fun z => .inl rfl, h3⟩
theorem gO_up40 : ∀ {O : List Nat}, gO 33 O → gO 40 O
  | [], _ => trivial
  | x :: O, ⟨h1, h3⟩ => ⟨fun z => .inr rfl, h3⟩
theorem gO_lv {a : Nat} : ∀ {O : List Nat}, gO 0 O → gO a O
  | [], _ => trivial
  | x :: O, ⟨h1, h3⟩ => ⟨fun z => by have := h1 z; omega, h3⟩
theorem levN_n {x : Nat} (h : 0 < levN x) : ¬ x = 33 ∧ ¬ x = 40 ∧ x ≤ 255 ∧ ¬ x = 41 := by
  unfold levN at h
  repeat' split at h
  all_goals omega
theorem clD_g {lv : Nat} (hlv : 1 ≤ lv) : ∀ (O : List Nat) (R : Sps), gO 0 O → gO 0 (clD lv O R).1
  | [], R, h => h
  | x :: O, R, h => by
    unfold clD
    split
    · rename_i e
      have hx := levN_n (x := x) (by omega)
      exact clD_g hlv O _ (gO_0 hx.1 hx.2.1 h.2)
    · exact h
theorem clD_cn {lv v : Nat} (hlv : 1 ≤ lv) (hv : v = 33 ∨ v = 40) : ∀ (O : List Nat) (R : Sps), cnL v (clD lv O R).1 = cnL v O
  | [], R => rfl
  | x :: O, R => by
    unfold clD
    split
    · rename_i e
      have hx := levN_n (x := x) (by omega)
      rw [clD_cn hlv hv O, cnL, if_neg (by omega), Nat.zero_add]
    · rfl
theorem clD_hd {lv : Nat} : ∀ (O : List Nat) (R : Sps), 1 ≤ lv → hdL (clD lv O R).1 < lv
  | [], R, h => h
  | x :: O, R, h => by
    unfold clD
    split
    · exact clD_hd O _ h
    · rename_i e
      unfold hdL
      dsimp only
      omega
theorem clN_i : ∀ (O : List Nat) (E : Nat → Nat) (R : Sps) (i : Nat), i ≠ 23 → (clN O E R).1 i = E i
  | [], E, R, i, h => rfl
  | x :: O, E, R, i, h => by
    unfold clN
    split
    · rw [clN_i O _ _ i h, pu_ne _ _ h]
    · rfl
theorem clN_g : ∀ (O : List Nat) (E : Nat → Nat) (R : Sps), gO 33 O → gO 0 (clN O E R).2.2
  | [], E, R, h => h
  | x :: O, E, R, h => by
    unfold clN
    split
    · rename_i e
      exact clN_g O _ _ (e ▸ h.2)
    · rename_i e
      exact ⟨fun z => (e z).elim, h.2⟩
theorem clN_40 : ∀ (O : List Nat) (E : Nat → Nat) (R : Sps), cnL 40 (clN O E R).2.2 = cnL 40 O
  | [], E, R => rfl
  | x :: O, E, R => by
    unfold clN
    split
    · rename_i e
      rw [clN_40 O, cnL, if_neg (by omega), Nat.zero_add]
    · rfl
theorem clN_33 : ∀ (O : List Nat) (E : Nat → Nat) (R : Sps), cnL 33 O = E 23 → cnL 33 (clN O E R).2.2 = (clN O E R).1 23
  | [], E, R, h => h
  | x :: O, E, R, h => by
    unfold clN
    split
    · rename_i e
      refine clN_33 O _ _ ?_
      rw [pu_eq]
      rw [cnL, if_pos e] at h
      omega
    · exact h
theorem clN_le : ∀ (O : List Nat) (E : Nat → Nat) (R : Sps), (clN O E R).1 23 ≤ E 23
  | [], E, R => Nat.le_refl _
  | x :: O, E, R => by
    unfold clN
    split
    · have := clN_le O (pu E 23 (E 23 - 1)) (R ++ [(2, 33)])
      rw [pu_eq] at this
      omega
    · exact Nat.le_refl _
def sgA (O : List Nat) : Prop := ∀ x, x ∈ O → x = 33 ∨ x = 40 ∨ 0 < levN x
theorem sgA.s {O : List Nat} (h : sgA O) : sgs O := fun x hx => by
  have := h x hx
  rcases this with e | e | e
  · omega
  · omega
  · exact (levN_n e).2.2.1
def pI (s : CSt) : Prop := gO (if s.1 = true then 33 else 0) s.2.2.2 ∧ cnL 33 s.2.2.2 = s.2.1 23 ∧ cnL 40 s.2.2.2 = s.2.1 22 ∧ s.2.1 22 ≤ 8 ∧ s.2.1 23 ≤ 8 ∧ sgA s.2.2.2
theorem pI_clN {O : List Nat} {E : Nat → Nat} {R : Sps} (h1 : gO 33 O) (h2 : cnL 33 O = E 23) (h3 : cnL 40 O = E 22) (h4 : E 22 ≤ 8) (h5 : E 23 ≤ 8) (h6 : sgA O) : pI (false, (clN O E R).1, (clN O E R).2.1, (clN O E R).2.2) := by
  have hi : (clN O E R).1 22 = E 22 := clN_i O E R 22 (by decide)
  have hl := clN_le O E R
  exact ⟨clN_g O E R h1, clN_33 O E R h2, (clN_40 O E R).trans (h3.trans hi.symm), by rw [hi]; exact h4, Nat.le_trans hl h5, fun x hx => h6 x (clN_sub O E R x hx)⟩
theorem cn_tl {z : List Nat} (h : hdL z < 1) (g : gO 0 z) (h4 : 0 < cnL 40 z) (hs : ∀ x, x ∈ z → x = 33 ∨ x = 40 ∨ 0 < levN x) : ∃ y, z = 40 :: y := by
  cases z with
  | nil => exact absurd h4 (by decide)
  | cons x y =>
    have h1 := hs x List.mem_cons_self
    have h2 := g.1
    unfold hdL at h
    dsimp only at h
    exact ⟨y, by rw [show x = 40 by omega]⟩
theorem cs_pI {key : Nat} {s s1 : CSt} (h : cs key s = some s1) (hp : pI s) : pI s1 := by
  obtain ⟨w, E, R, O⟩ := s
  obtain ⟨h1, h2, h3, h4, h5, h6⟩ := hp
  dsimp only at h1 h2 h3 h4 h5 h6
  unfold cs at h
  dsimp only at h
  have g33 := gO_33 h1
  by_cases hw : w = true
  · rw [if_pos hw] at h
    split at h
    · cases h
      exact pI_clN g33 (h2.trans (pu_ne _ _ (by decide)).symm) (h3.trans (pu_ne _ _ (by decide)).symm) (by rw [pu_ne _ _ (by decide)]; exact h4) (by rw [pu_ne _ _ (by decide)]; exact h5) h6
    · split at h
      · cases h
        exact pI_clN g33 (h2.trans (pu_ne _ _ (by decide)).symm) (h3.trans (pu_ne _ _ (by decide)).symm) (by rw [pu_ne _ _ (by decide)]; exact h4) (by rw [pu_ne _ _ (by decide)]; exact h5) h6
      · split at h
        · rename_i e
          cases h
          refine ⟨⟨fun z => (by cases z), gO_up40 g33⟩, ?_, ?_, ?_, ?_, ?_⟩
          · show cnL 33 (40 :: O) = pu E 22 (E 22 + 1) 23
            rw [cnL, if_neg (by decide), pu_ne _ _ (by decide)]
            omega
          · show cnL 40 (40 :: O) = pu E 22 (E 22 + 1) 22
            rw [cnL, if_pos rfl, pu_eq]
            omega
          · show pu E 22 (E 22 + 1) 22 ≤ 8
            rw [pu_eq]
            omega
          · show pu E 22 (E 22 + 1) 23 ≤ 8
            rw [pu_ne _ _ (by decide)]
            exact h5
          · intro x hx
            rcases List.mem_cons.1 hx with z | z
            · exact .inr (.inl z)
            · exact h6 x z
        · split at h
          · rename_i e
            cases h
            refine ⟨⟨fun z => .inl rfl, g33⟩, ?_, ?_, ?_, ?_, ?_⟩
            · show cnL 33 (33 :: O) = pu E 23 (E 23 + 1) 23
              rw [cnL, if_pos rfl, pu_eq]
              omega
            · show cnL 40 (33 :: O) = pu E 23 (E 23 + 1) 22
              rw [cnL, if_neg (by decide), pu_ne _ _ (by decide)]
              omega
            · show pu E 23 (E 23 + 1) 22 ≤ 8
              rw [pu_ne _ _ (by decide)]
              exact h4
            · show pu E 23 (E 23 + 1) 23 ≤ 8
              rw [pu_eq]
              omega
            · intro x hx
              rcases List.mem_cons.1 hx with z | z
              · exact .inl z
              · exact h6 x z
          · cases h
  · rw [if_neg hw] at h
    rw [if_neg hw] at h1
    split at h
    · split at h
      · cases h
      · rename_i e0
        cases h
        have q1 := clD_g (lv := 1) (Nat.le_refl _) O R h1
        have q2 := clD_cn (lv := 1) (v := 33) (Nat.le_refl _) (.inl rfl) O R
        have q3 := clD_cn (lv := 1) (v := 40) (Nat.le_refl _) (.inr rfl) O R
        have q4 := clD_hd (lv := 1) O R (Nat.le_refl _)
        have q5 : sgA (clD 1 O R).1 := fun x hx => h6 x (clD_sub 1 O R x hx)
        obtain ⟨y, hy⟩ := cn_tl q4 q1 (by omega) q5
        rw [hy] at q1 q2 q3 q5 ⊢
        rw [cnL, if_neg (by decide)] at q2
        rw [cnL, if_pos rfl] at q3
        refine pI_clN (gO_33 q1.2) ?_ ?_ ?_ ?_ (fun x hx => q5 x (List.mem_cons_of_mem _ hx))
        · rw [pu_ne _ _ (by decide)]
          show cnL 33 y = E 23
          omega
        · rw [pu_eq]
          show cnL 40 y = E 22 - 1
          omega
        · rw [pu_eq]
          omega
        · rw [pu_ne _ _ (by decide)]
          exact h5
    · split at h
      · rename_i el
        have psh : ∀ (z : List Nat) (r : Sps), gO 0 z → cnL 33 z = E 23 → cnL 40 z = E 22 → sgA z → pI (true, E, r, E 21 :: z) := by
          intro z r k1 k2 k3 k4
          have hx := levN_n el.2
          refine ⟨⟨fun _ => .inl rfl, gO_lv k1⟩, ?_, ?_, h4, h5, ?_⟩
          · show cnL 33 (E 21 :: z) = E 23
            rw [cnL, if_neg hx.1]
            omega
          · show cnL 40 (E 21 :: z) = E 22
            rw [cnL, if_neg hx.2.1]
            omega
          · intro x hx
            rcases List.mem_cons.1 hx with e | e
            · exact .inr (.inr (by rw [e]; exact el.2))
            · exact k4 x e
        split at h
        · split at h
          · cases h
          · cases h
            have b1 := clD_g (lv := 4) (by decide) O R h1
            refine psh _ _ (clD_g (by decide) _ _ b1) ?_ ?_ ?_
            · rw [clD_cn (by decide) (.inl rfl), clD_cn (by decide) (.inl rfl)]; exact h2
            · rw [clD_cn (by decide) (.inr rfl), clD_cn (by decide) (.inr rfl)]; exact h3
            · exact fun x hx => h6 x (clD_sub _ _ _ x (clD_sub _ _ _ x hx))
        · cases h
          refine psh _ _ (clD_g (by omega) _ _ h1) ?_ ?_ ?_
          · rw [clD_cn (by omega) (.inl rfl)]; exact h2
          · rw [clD_cn (by omega) (.inr rfl)]; exact h3
          · exact fun x hx => h6 x (clD_sub _ _ _ x hx)
      · cases h
/-- the token at hand, in the class' fields and in the reference's -/
def tokQ (T q E : Nat → Nat) : Prop := (q 1 = E 16 ∧ q 2 = E 17 ∧ q 3 = E 18 ∧ q 4 ≤ 3 ∧ q 5 ≤ 1 ∧ q 3 ≤ q 1 ∧ q 2 ≤ q 3) ∧ (q 4 = 0 → E 19 = 0 ∧ q 2 = q 1) ∧ (¬ q 4 = 0 → q 2 < q 3) ∧
  (q 4 = 1 → E 19 = (if q 5 = 1 then 4 else 1) ∧ E 21 = (if q 3 - q 2 = 1 then T (q 2) else 0) ∧ 97 ≤ T (q 2) ∧ T (q 2) ≤ 122 ∧ ∀ i, q 2 ≤ i → i < q 3 → 97 ≤ T i ∧ T i ≤ 122) ∧
  (q 4 = 2 → E 19 = (if q 5 = 1 ∨ 4 < q 3 - q 2 then 4 else 2) ∧ E 20 = numT T (q 2) (q 3 - q 2) ∧ ∀ i, q 2 ≤ i → i < q 3 → 48 ≤ T i ∧ T i ≤ 57) ∧
  (q 4 = 3 → E 19 = 3 ∧ E 21 = T (q 2) ∧ q 5 = 0 ∧ q 3 = q 2 + 1)
theorem fi_mid {P : Nat → Prop} [DecidablePred P] : ∀ (j k i : Nat), k ≤ i → i < fi P j k → ¬ P i
  | 0, k, i, h1, h2 => by unfold fi at h2; omega
  | j + 1, k, i, h1, h2 => by
    unfold fi at h2
    split at h2
    · omega
    · rename_i e
      by_cases z : i = k
      · rw [z]; exact e
      · exact fi_mid j (k + 1) i (by omega) h2
theorem sA_1 {T : Nat → Nat} {L i : Nat} : sA T L i = 1 ↔ i < L ∧ 97 ≤ T i ∧ T i ≤ 122 := by
  unfold sA
  repeat' split
  all_goals omega
theorem sA_2 {T : Nat → Nat} {L i : Nat} : sA T L i = 2 ↔ i < L ∧ 48 ≤ T i ∧ T i ≤ 57 := by
  unfold sA
  repeat' split
  all_goals omega
theorem nbQ_le (a b s : Nat) : nbQ a b s ≤ 1 := by
  unfold nbQ
  split <;> omega
theorem nbQ_iff {a b s : Nat} : nbQ a b s = 1 ↔ a = 1 ∧ b = 0 ∧ (s = 1 ∨ s = 2) := by
  unfold nbQ
  split <;> omega
theorem if_1 (P : Prop) [Decidable P] : ((if P then 1 else 0) = 0) ↔ ¬ P := by
  split
  · rename_i h
    exact ⟨fun z => (by cases z), fun z => (z h).elim⟩
  · rename_i h
    exact ⟨fun _ => h, fun _ => rfl⟩
theorem tok_next {T q E : Nat → Nat} (h1 : q 1 = E 16) (h3 : q 3 = E 18) (h31 : q 3 ≤ q 1) (hb : bwQ q = 1 ↔ (0 < E 18 ∧ (E 19 = 1 ∨ E 19 = 2))) : tokQ T (nextQ T q) (nextF T E) := by
  have hs := skip_b T E (by omega)
  have e1 : nextQ T q 1 = q 1 := rfl
  have e2 : nextQ T q 2 = skipT T (q 1) (q 3) := rfl
  have e3 : nextQ T q 3 = enQ T (q 1) (skipT T (q 1) (q 3)) (sA T (q 1) (skipT T (q 1) (q 3))) := rfl
  have e4 : nextQ T q 4 = sA T (q 1) (skipT T (q 1) (q 3)) := rfl
  have e5 : nextQ T q 5 = nbQ (bwQ q) (if q 3 < skipT T (q 1) (q 3) then 1 else 0) (sA T (q 1) (skipT T (q 1) (q 3))) := rfl
  unfold tokQ
  rw [e1, e2, e3, e4, e5, h1, h3]
  unfold nextF
  generalize skipT T (E 16) (E 18) = b at hs
  have hbl : (if E 18 < b then 1 else 0) ≤ 1 := by split <;> omega
  have hnb : ∀ s, nbQ (bwQ q) (if E 18 < b then 1 else 0) s ≤ 1 := fun s => nbQ_le _ _ s
  have hnb1 : ∀ s, (s = 1 ∨ s = 2) → (nbQ (bwQ q) (if E 18 < b then 1 else 0) s = 1 ↔ ((0 < E 18 ∧ (E 19 = 1 ∨ E 19 = 2)) ∧ E 18 = b)) := fun s hs1 => by
    rw [nbQ_iff, if_1 (E 18 < b)]
    constructor
    · intro z; exact ⟨hb.1 z.1, by omega⟩
    · intro z; exact ⟨hb.2 z.1, by omega, hs1⟩
  unfold nextB
  by_cases c0 : b = E 16
  · rw [if_pos c0]
    have es : sA T (E 16) b = 0 := by unfold sA; rw [if_pos (by omega)]
    rw [es]
    have ee : enQ T (E 16) b 0 = b := rfl
    rw [ee]
    refine ⟨⟨rfl, rfl, rfl, by decide, hnb _, by omega, Nat.le_refl _⟩, fun _ => ⟨rfl, c0⟩, fun z => (z rfl).elim, fun z => (by cases z), fun z => (by cases z), fun z => (by cases z)⟩
  · rw [if_neg c0]
    by_cases c1 : 97 ≤ T b ∧ T b ≤ 122
    · rw [if_pos c1]
      have es : sA T (E 16) b = 1 := sA_1.2 ⟨by omega, c1⟩
      rw [es]
      have ee : enQ T (E 16) b 1 = letE T (E 16) b := by
        unfold enQ letE
        rw [if_neg (by decide), if_neg (by decide), fi_s (n := E 16) (k := b) (P := fun i => ¬ (97 ≤ T i ∧ T i ≤ 122)) (by omega) (fun z => z c1)]
        exact fi_congr _ _ (fun i h5 h6 => by rw [sA_1]; constructor <;> (intro z; omega))
      rw [ee]
      have hg : b < letE T (E 16) b := fi_gt (P := fun i => ¬ (97 ≤ T i ∧ T i ≤ 122)) (n := E 16) (b := b) (by omega) (fun z => z c1)
      have hle : letE T (E 16) b ≤ b + (E 16 - b) := fi_le (fun i => ¬ (97 ≤ T i ∧ T i ≤ 122)) (E 16 - b) b
      refine ⟨⟨rfl, rfl, rfl, by decide, hnb _, by omega, by omega⟩, fun z => (by cases z), fun _ => hg, fun _ => ⟨?_, rfl, c1.1, c1.2, fun i h5 h6 => Decidable.not_not.1 (fi_mid _ _ i h5 h6)⟩, fun z => (by cases z), fun z => (by cases z)⟩
      show (if ((0 < E 18 ∧ (E 19 = 1 ∨ E 19 = 2)) ∧ E 18 = b) then 4 else 1) = _
      exact ite_congr (propext (hnb1 1 (.inl rfl)).symm) (fun _ => rfl) (fun _ => rfl)
    · rw [if_neg c1]
      by_cases c2 : 48 ≤ T b ∧ T b ≤ 57
      · rw [if_pos c2]
        have es : sA T (E 16) b = 2 := sA_2.2 ⟨by omega, c2⟩
        rw [es]
        have ee : enQ T (E 16) b 2 = digE T (E 16) b := by
          unfold enQ digE
          rw [if_neg (by decide), if_neg (by decide), fi_s (n := E 16) (k := b) (P := fun i => ¬ (48 ≤ T i ∧ T i ≤ 57)) (by omega) (fun z => z c2)]
          exact fi_congr _ _ (fun i h5 h6 => by rw [sA_2]; constructor <;> (intro z; omega))
        rw [ee]
        have hg : b < digE T (E 16) b := fi_gt (P := fun i => ¬ (48 ≤ T i ∧ T i ≤ 57)) (n := E 16) (b := b) (by omega) (fun z => z c2)
        have hle : digE T (E 16) b ≤ b + (E 16 - b) := fi_le (fun i => ¬ (48 ≤ T i ∧ T i ≤ 57)) (E 16 - b) b
        refine ⟨⟨rfl, rfl, rfl, by decide, hnb _, by omega, by omega⟩, fun z => (by cases z), fun _ => hg, fun z => (by cases z), fun _ => ⟨?_, rfl, fun i h5 h6 => Decidable.not_not.1 (fi_mid _ _ i h5 h6)⟩, fun z => (by cases z)⟩
        show (if ((0 < E 18 ∧ (E 19 = 1 ∨ E 19 = 2)) ∧ E 18 = b) ∨ 4 < digE T (E 16) b - b then 4 else 2) = _
        exact ite_congr (propext (or_congr (hnb1 2 (.inr rfl)).symm Iff.rfl)) (fun _ => rfl) (fun _ => rfl)
      · rw [if_neg c2]
        have es : sA T (E 16) b = 3 := by unfold sA; rw [if_neg (by omega), if_neg c1, if_neg c2]
        rw [es]
        have ee : enQ T (E 16) b 3 = b + 1 := rfl
        rw [ee]
        refine ⟨⟨rfl, rfl, rfl, by decide, hnb _, by omega, by omega⟩, fun z => (by cases z), fun _ => by omega, fun z => (by cases z), fun z => (by cases z), fun _ => ⟨rfl, rfl, ?_, rfl⟩⟩
        unfold nbQ
        rw [if_neg (by omega)]
