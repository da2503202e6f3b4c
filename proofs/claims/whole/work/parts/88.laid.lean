-- LAID: what a sound text lays down (the last step first in Q)
def gRv (key : Nat) : Sps → Nat → Nat → Prop
  | [], d, l => d = 0 ∧ l = 0
  | x :: Q, d, l => (x.1 = 0 ∧ x.2 ≤ 9999 ∧ 1 ≤ d ∧ 1 ≤ l ∧ gRv key Q (d - 1) (l - 1)) ∨ (x.1 = 1 ∧ nmL key x.2 = true ∧ 1 ≤ d ∧ 1 ≤ l ∧ gRv key Q (d - 1) (l - 1)) ∨ (x.1 = 2 ∧ x.2 = 33 ∧ 1 ≤ d ∧ gRv key Q d l) ∨ (x.1 = 2 ∧ 0 < levN x.2 ∧ 1 ≤ d ∧ gRv key Q (d + 1) l)
def gR (key : Nat) (R : Sps) (d l : Nat) : Prop := gRv key R.reverse d l
theorem gR_num {key d l v : Nat} {R : Sps} (h : gR key R d l) (hv : v ≤ 9999) : gR key (R ++ [(0, v)]) (d + 1) (l + 1) := by
  unfold gR
  rw [List.reverse_append]
  exact .inl ⟨rfl, hv, by omega, by omega, h⟩
theorem gR_nam {key d l v : Nat} {R : Sps} (h : gR key R d l) (hv : nmL key v = true) : gR key (R ++ [(1, v)]) (d + 1) (l + 1) := by
  unfold gR
  rw [List.reverse_append]
  exact .inr (.inl ⟨rfl, hv, by omega, by omega, h⟩)
theorem gR_not {key d l : Nat} {R : Sps} (h : gR key R d l) (hd : 1 ≤ d) : gR key (R ++ [(2, 33)]) d l := by
  unfold gR
  rw [List.reverse_append]
  exact .inr (.inr (.inl ⟨rfl, rfl, hd, h⟩))
theorem gR_bin {key d l v : Nat} {R : Sps} (h : gR key R (d + 1) l) (hd : 1 ≤ d) (hv : 0 < levN v) : gR key (R ++ [(2, v)]) d l := by
  unfold gR
  rw [List.reverse_append]
  exact .inr (.inr (.inr ⟨rfl, hv, hd, h⟩))
def bins : List Nat → Nat
  | [] => 0
  | x :: O => (if 0 < levN x then 1 else 0) + bins O
theorem gR_clD {key lv l : Nat} (hlv : 1 ≤ lv) : ∀ (O : List Nat) (R : Sps), gR key R (bins O + 1) l → gR key (clD lv O R).2 (bins (clD lv O R).1 + 1) l
  | [], R, h => h
  | x :: O, R, h => by
    unfold clD
    split
    · rename_i e
      rw [bins, if_pos (by omega)] at h
      refine gR_clD hlv O _ (gR_bin ?_ (by omega) (by omega))
      rw [show bins O + 1 + 1 = 1 + bins O + 1 by omega]
      exact h
    · exact h
theorem gR_clN {key l : Nat} : ∀ (O : List Nat) (E : Nat → Nat) (R : Sps), gR key R (bins O + 1) l → gR key (clN O E R).2.1 (bins (clN O E R).2.2 + 1) l
  | [], E, R, h => h
  | x :: O, E, R, h => by
    unfold clN
    split
    · rename_i e
      rw [bins, e, if_neg (by decide), Nat.zero_add] at h
      exact gR_clN O _ _ (gR_not h (by omega))
    · exact h
def gI (key : Nat) (s : CSt) : Prop := gR key s.2.2.1 (bins s.2.2.2 + (if s.1 = true then 0 else 1)) (s.2.1 26)
theorem gI_clN {key l : Nat} {O : List Nat} {E : Nat → Nat} {R : Sps} (h : gR key R (bins O + 1) l) (hl : E 26 = l) : gI key (false, (clN O E R).1, (clN O E R).2.1, (clN O E R).2.2) := by
  unfold gI
  dsimp only
  rw [if_neg Bool.false_ne_true, clN_i O E R 26 (by decide), hl]
  exact gR_clN O E R h
theorem cs_gI {key : Nat} {s s1 : CSt} (h : cs key s = some s1) (hp : pI s) (h9 : s.2.1 19 = 2 → s.2.1 20 ≤ 9999) (hg : gI key s) : gI key s1 := by
  obtain ⟨w, E, R, O⟩ := s
  obtain ⟨h1, h2, h3, h4, h5, h6⟩ := hp
  unfold gI at hg
  dsimp only at h1 h2 h3 h4 h5 h6 h9 hg
  unfold cs at h
  dsimp only at h
  by_cases hw : w = true
  · rw [if_pos hw] at h hg
    split at h
    · rename_i e
      cases h
      exact gI_clN (gR_num hg (h9 e)) (pu_eq _ _ _)
    · split at h
      · rename_i e
        cases h
        exact gI_clN (gR_nam hg e.2.2) (pu_eq _ _ _)
      · split at h
        · cases h
          unfold gI
          dsimp only
          rw [if_pos rfl, pu_ne _ _ (by decide), bins, if_neg (by decide), Nat.zero_add]
          exact hg
        · split at h
          · cases h
            unfold gI
            dsimp only
            rw [if_pos rfl, pu_ne _ _ (by decide), bins, if_neg (by decide), Nat.zero_add]
            exact hg
          · cases h
  · rw [if_neg hw] at h hg h1
    split at h
    · split at h
      · cases h
      · rename_i e0
        cases h
        have q1 := clD_g (lv := 1) (Nat.le_refl _) O R h1
        have q3 := clD_cn (lv := 1) (v := 40) (Nat.le_refl _) (.inr rfl) O R
        have q4 := clD_hd (lv := 1) O R (Nat.le_refl _)
        have q5 : sgA (clD 1 O R).1 := fun x hx => h6 x (clD_sub 1 O R x hx)
        have q6 := gR_clD (lv := 1) (Nat.le_refl _) O R hg
        obtain ⟨y, hy⟩ := cn_tl q4 q1 (by omega) q5
        rw [hy, bins, if_neg (by decide), Nat.zero_add] at q6
        rw [hy]
        exact gI_clN q6 (pu_ne _ _ (by decide))
    · split at h
      · rename_i el
        have psh : ∀ (z : List Nat) (r : Sps), gR key r (bins z + 1) (E 26) → gI key (true, E, r, E 21 :: z) := by
          intro z r k
          unfold gI
          dsimp only
          rw [if_pos rfl, bins, if_pos el.2, Nat.add_zero, Nat.add_comm]
          exact k
        split at h
        · split at h
          · cases h
          · cases h
            exact psh _ _ (gR_clD (by decide) _ _ (gR_clD (by decide) _ _ hg))
        · cases h
          exact psh _ _ (gR_clD (by omega) _ _ hg)
      · cases h
theorem num_9 {T : Nat → Nat} {b : Nat} : ∀ k, k ≤ 4 → (∀ i, b ≤ i → i < b + k → 48 ≤ T i ∧ T i ≤ 57) → numT T b k < 10 ^ k
  | 0, _, _ => by show 0 < 1; decide
  | k + 1, h, hd => by
    have h1 := num_9 k (by omega) (fun i a c => hd i a (by omega))
    have h2 := hd (b + k) (by omega) (by omega)
    rw [numT, if_pos (by omega), Nat.pow_succ]
    omega
theorem next_9 (T E : Nat → Nat) (h : nextF T E 19 = 2) : nextF T E 20 ≤ 9999 := by
  unfold nextF at h ⊢
  generalize skipT T (E 16) (E 18) = b at h ⊢
  unfold nextB at h ⊢
  split
  · rename_i e
    rw [if_pos e, pu_eq] at h
    cases h
  · rename_i e
    rw [if_neg e] at h
    split
    · rename_i e1
      rw [if_pos e1, pu_ne _ _ (by decide), pu_eq] at h
      split at h <;> cases h
    · rename_i e1
      rw [if_neg e1] at h
      split
      · rename_i e2
        rw [if_pos e2, pu_eq] at h
        rw [pu_ne _ _ (by decide), pu_ne _ _ (by decide), pu_eq]
        split at h
        · cases h
        · rename_i e3
          have hk : digE T (E 16) b - b ≤ 4 := by omega
          have := num_9 (T := T) (b := b) (digE T (E 16) b - b) hk (fun i h1 h2 => Decidable.not_not.1 (fi_mid (P := fun i => ¬ (48 ≤ T i ∧ T i ≤ 57)) _ _ i h1 (by show i < digE T (E 16) b; omega)))
          have h10 : 10 ^ (digE T (E 16) b - b) ≤ 10 ^ 4 := Nat.pow_le_pow_right (by decide) hk
          have h11 : (10 : Nat) ^ 4 = 10000 := by decide
          omega
      · rename_i e2
        rw [if_neg e2, pu_ne _ _ (by decide), pu_ne _ _ (by decide), pu_eq] at h
        cases h
theorem rch_gI {T : Nat → Nat} {key : Nat} {s s1 : CSt} (h : rch T key s s1) (hp : pI s) (h9 : s.2.1 19 = 2 → s.2.1 20 ≤ 9999) (hg : gI key s) : pI s1 ∧ gI key s1 := by
  obtain ⟨n, hn⟩ := h
  induction n generalizing s with
  | zero => cases hn; exact ⟨hp, hg⟩
  | succ n ih =>
    rw [cit] at hn
    split at hn
    · rename_i s2 e
      refine ih ?_ ?_ ?_ hn
      · exact pI_next (cs_pI e hp)
      · exact next_9 T s2.2.1
      · have := cs_gI e hp h9 hg
        unfold gI nxC at *
        dsimp only
        rw [next_i T _ 26 (by decide)]
        exact this
    · cases hn
/-- the steps lie in a row from q on -/
def agr (p : Nat → Nat) (q : Nat) : Sps → Prop
  | [] => True
  | x :: Q => p (q + 2 * Q.length) = x.1 ∧ p (q + 2 * Q.length + 1) = x.2 ∧ agr p q Q
theorem agr_lst (p : Nat → Nat) (q : Nat) : ∀ n, agr p q ((List.range n).map (fun k => (p (q + 2 * k), p (q + 2 * k + 1)))).reverse
  | 0 => trivial
  | n + 1 => by
    rw [List.range_succ, List.map_append, List.reverse_append]
    refine ⟨?_, ?_, agr_lst p q n⟩ <;> simp
theorem agr_cg {p p2 : Nat → Nat} {q : Nat} : ∀ {Q : Sps}, (∀ i, q ≤ i → i < q + 2 * Q.length → p2 i = p i) → agr p q Q → agr p2 q Q
  | [], _, _ => trivial
  | x :: Q, h, ⟨h1, h2, h3⟩ => by
    rw [List.length_cons] at h
    exact ⟨(h _ (by omega) (by omega)).trans h1, (h _ (by omega) (by omega)).trans h2, agr_cg (fun i a b => h i a (by omega)) h3⟩
def stW (key : Nat) (p : Nat → Nat) (q k : Nat) : Prop := p (q + 2 * k) ≤ 2 ∧ p (q + 2 * k + 1) ≤ 9999 ∧ (p (q + 2 * k) = 1 → isNm key (p (q + 2 * k + 1))) ∧ (p (q + 2 * k) = 2 → p (q + 2 * k + 1) = 33 → 1 ≤ dep p q k) ∧ (p (q + 2 * k) = 2 → ¬ p (q + 2 * k + 1) = 33 → 2 ≤ dep p q k) ∧ (p (q + 2 * k) = 2 → isSg (p (q + 2 * k + 1)))
theorem isSg_lv {v : Nat} (h : 0 < levN v) : isSg v ∧ v ≤ 255 := by
  unfold levN at h
  unfold isSg
  repeat' split at h
  all_goals omega
theorem nm_is {key v : Nat} (h : nmL key v = true) : isNm key v ∧ v ≤ 255 := by
  unfold nmL at h
  rw [decide_eq_true_iff] at h
  unfold isNm
  omega
theorem gR_dep {key : Nat} {p : Nat → Nat} {q : Nat} : ∀ (Q : Sps) (d l : Nat), gRv key Q d l → agr p q Q → dep p q Q.length = d ∧ (∀ k, k ≤ Q.length → dep p q k ≤ l) ∧ (∀ k, k < Q.length → stW key p q k) ∧ l ≤ Q.length
  | [], d, l, h, _ => ⟨h.1.symm, fun k hk => by rw [List.length_nil] at hk; rw [show k = 0 by omega]; exact Nat.zero_le _, fun k hk => absurd hk (Nat.not_lt_zero _), by rw [h.2]; exact Nat.zero_le _⟩
  | x :: Q, d, l, h, ⟨a1, a2, a3⟩ => by
    rw [List.length_cons]
    have fin : ∀ d' l', gRv key Q d' l' → l' ≤ l → dep p q (Q.length + 1) = d → d ≤ l → stW key p q Q.length → (dep p q Q.length = d' → dep p q (Q.length + 1) = d ∧ (∀ k, k ≤ Q.length + 1 → dep p q k ≤ l) ∧ (∀ k, k < Q.length + 1 → stW key p q k)) := by
      intro d' l' g hl e1 e2 e3 _
      obtain ⟨b1, b2, b3, b4⟩ := gR_dep Q d' l' g a3
      refine ⟨e1, fun k hk => ?_, fun k hk => ?_⟩
      · by_cases z : k = Q.length + 1
        · rw [z, e1]; exact e2
        · exact Nat.le_trans (b2 k (by omega)) hl
      · by_cases z : k = Q.length
        · rw [z]; exact e3
        · exact b3 k (by omega)
    rcases h with ⟨x1, x2, x3, x4, x5⟩ | ⟨x1, x2, x3, x4, x5⟩ | ⟨x1, x2, x3, x5⟩ | ⟨x1, x2, x3, x5⟩
    · obtain ⟨b1, b2, b3, b4⟩ := gR_dep Q _ _ x5 a3
      have c1 := b2 Q.length (Nat.le_refl _)
      have e : dep p q (Q.length + 1) = d := by
        rw [dep, if_pos (by omega), b1]
        omega
      obtain ⟨y1, y2, y3⟩ := fin _ _ x5 (by omega) e (by omega) ⟨by omega, by omega, fun z => by omega, fun z => by omega, fun z => by omega, fun z => by omega⟩ b1
      exact ⟨y1, y2, y3, by omega⟩
    · obtain ⟨b1, b2, b3, b4⟩ := gR_dep Q _ _ x5 a3
      have c1 := b2 Q.length (Nat.le_refl _)
      have e : dep p q (Q.length + 1) = d := by
        rw [dep, if_pos (by omega), b1]
        omega
      have hn := nm_is x2
      obtain ⟨y1, y2, y3⟩ := fin _ _ x5 (by omega) e (by omega) ⟨by omega, by omega, fun z => by rw [a2]; exact hn.1, fun z => by omega, fun z => by omega, fun z => by omega⟩ b1
      exact ⟨y1, y2, y3, by omega⟩
    · obtain ⟨b1, b2, b3, b4⟩ := gR_dep Q _ _ x5 a3
      have c1 := b2 Q.length (Nat.le_refl _)
      have e : dep p q (Q.length + 1) = d := by
        rw [dep, if_neg (by omega), if_pos (by omega), b1]
      obtain ⟨y1, y2, y3⟩ := fin _ _ x5 (by omega) e (by omega) ⟨by omega, by omega, fun z => by omega, fun _ _ => by omega, fun _ z => by omega, fun z => by unfold isSg; omega⟩ b1
      exact ⟨y1, y2, y3, by omega⟩
    · obtain ⟨b1, b2, b3, b4⟩ := gR_dep Q _ _ x5 a3
      have c1 := b2 Q.length (Nat.le_refl _)
      have hv := isSg_lv x2
      have hn := levN_n x2
      have e : dep p q (Q.length + 1) = d := by
        rw [dep, if_neg (by omega), if_neg (by omega), b1]
        omega
      obtain ⟨y1, y2, y3⟩ := fin _ _ x5 (by omega) e (by omega) ⟨by omega, by omega, fun z => by omega, fun _ z => by omega, fun _ _ => by omega, fun z => by rw [a2]; exact hv.1⟩ b1
      exact ⟨y1, y2, y3, by omega⟩
