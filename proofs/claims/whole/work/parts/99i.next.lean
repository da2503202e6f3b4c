-- NEXT: what a call makes of a town, over what lives
section NXT
variable {p c : Nat → Nat} {b D : Nat}
def eqO (S : Nat → Prop) (p c : Nat → Nat) : Prop := ∀ i, S i → c i = p i
theorem eqO_pu {S : Nat → Prop} (h : eqO S p c) (i v : Nat) : eqO (fun j => S j ∨ j = i) (pu p i v) (pu c i v) := fun j hj => by
  unfold pu
  by_cases e : j = i
  · rw [if_pos e, if_pos e]
  · rw [if_neg e, if_neg e]
    exact h j (hj.resolve_right e)
theorem comes_0 (h8 : p 0 < 8) (k r x y z : Nat) : comesP p k r x y z 0 = p 0 + 1 ∧ comesP p k r x y z 8 = p 8 ∧ ∀ i, i ≠ 0 → (i < 10 + 5 * p 0 ∨ 10 + 5 * p 0 + 5 ≤ i) → comesP p k r x y z i = p i := by
  refine ⟨?_, ?_, fun i h0 hi => ?_⟩
  · simp only [comesP, pu]
    repeat rw [if_neg (by omega)]
    exact if_pos trivial
  · simp only [comesP, pu]
    repeat rw [if_neg (by omega)]
  · simp only [comesP, pu]
    repeat rw [if_neg (by omega)]
theorem lv_comes (h : lvE p c) (h8 : p 0 < 8) (k r x y z : Nat) : lvE (comesP p k r x y z) (comesP c k r x y z) := by
  obtain ⟨e0, e8, -⟩ := comes_0 h8 k r x y z
  have hh : eqO (liv p) p c := h
  have g := eqO_pu (eqO_pu (eqO_pu (eqO_pu (eqO_pu (eqO_pu hh 0 (p 0 + 1)) (10 + 5 * p 0 + 0) k) (10 + 5 * p 0 + 1) r) (10 + 5 * p 0 + 2) x) (10 + 5 * p 0 + 3) y) (10 + 5 * p 0 + 4) z
  intro i hi
  unfold liv at hi
  rw [e0, e8] at hi
  have := g i (by unfold liv; omega)
  unfold comesP
  rw [h.n (show 0 < 10 by decide)]
  exact this
theorem wf_of {q : Nat → Nat} (h : wf p b D) (hO : wfO q) (hL : wfL q) (ht : ∀ i, ((1 ≤ i ∧ i ≤ 7) ∨ 100 ≤ i) → q i = p i) : wf q b D := by
  obtain ⟨h1, h2, h3, h4, h5, h6, h7, h8, h9⟩ := h
  refine ⟨hO, hL, wfT_same (ht 1 (by omega)) (fun i hi => ht i (.inr hi)) h3, ?_⟩
  rw [ht 2 (by omega), ht 3 (by omega), ht 4 (by omega), ht 5 (by omega), ht 6 (by omega), ht 7 (by omega)]
  exact ⟨h4, h5, h6, h7, h8, h9⟩
theorem wf_comes (h : wf p b D) (h8 : p 0 < 8) {k r x y z : Nat} (hk : k ≤ 5) (hr : r ≤ 7) (hx : x ≤ 99) (hy : y ≤ 99) (hz : z ≤ 99) : wf (comesP p k r x y z) b D := by
  obtain ⟨e0, e8, ei⟩ := comes_0 h8 k r x y z
  refine wf_of h ⟨by rw [e0]; omega, fun q hq => ?_⟩ ⟨by rw [e8]; exact h.2.1.1, fun q hq => ?_⟩ (fun i hi => ei i (by omega) (by omega))
  · rw [e0] at hq
    by_cases e : q = p 0
    · subst e
      refine ⟨?_, ?_, ?_, ?_, ?_⟩ <;> simp only [comesP, pu] <;> (repeat (first | rw [if_pos trivial] | rw [if_pos (by omega)] | rw [if_neg (by omega)])) <;> assumption
    · rw [ei _ (by omega) (by omega), ei _ (by omega) (by omega), ei _ (by omega) (by omega), ei _ (by omega) (by omega), ei _ (by omega) (by omega)]
      exact h.1.2 q (by omega)
  · rw [e8] at hq
    rw [ei _ (by omega) (by omega), ei _ (by omega) (by omega), ei _ (by omega) (by omega), ei _ (by omega) (by omega), ei _ (by omega) (by omega)]
    exact h.2.1.2 q hq
theorem lock_8 (h8 : p 8 < 10) (x y z u : Nat) : lockP p x y z u 8 = p 8 + 1 ∧ ∀ i, i ≠ 8 → (i < 50 + 5 * p 8 ∨ 50 + 5 * p 8 + 5 ≤ i) → lockP p x y z u i = p i := by
  refine ⟨?_, fun i h0 hi => ?_⟩
  · simp only [lockP, pu]
    exact if_pos trivial
  · simp only [lockP, pu]
    repeat rw [if_neg (by omega)]
theorem lv_lock (h : lvE p c) (h8 : p 8 < 10) (x y z u : Nat) : lvE (lockP p x y z u) (lockP c x y z u) := by
  obtain ⟨e8, ei⟩ := lock_8 h8 x y z u
  have e0 := ei 0 (by omega) (by omega)
  have hh : eqO (liv p) p c := h
  have g := eqO_pu (eqO_pu (eqO_pu (eqO_pu (eqO_pu (eqO_pu hh (50 + 5 * p 8 + 0) x) (50 + 5 * p 8 + 1) y) (50 + 5 * p 8 + 2) z) (50 + 5 * p 8 + 3) u) (50 + 5 * p 8 + 4) 0) 8 (p 8 + 1)
  intro i hi
  unfold liv at hi
  rw [e0, e8] at hi
  have := g i (by unfold liv; omega)
  unfold lockP
  rw [h.n (show 8 < 10 by decide)]
  exact this
theorem wf_lock (h : wf p b D) (h8 : p 8 < 10) {x y z u : Nat} (hx : x ≤ 7) (hy : y ≤ 7) (hz : z ≤ 2) (hu : u ≤ 99) : wf (lockP p x y z u) b D := by
  obtain ⟨e8, ei⟩ := lock_8 h8 x y z u
  have e0 := ei 0 (by omega) (by omega)
  have hp := h.1.1
  refine wf_of h ⟨by rw [e0]; exact h.1.1, fun q hq => ?_⟩ ⟨by rw [e8]; omega, fun q hq => ?_⟩ (fun i hi => ei i (by omega) (by omega))
  · rw [e0] at hq
    rw [ei _ (by omega) (by omega), ei _ (by omega) (by omega), ei _ (by omega) (by omega), ei _ (by omega) (by omega), ei _ (by omega) (by omega)]
    exact h.1.2 q hq
  · rw [e8] at hq
    by_cases e : q = p 8
    · subst e
      refine ⟨?_, ?_, ?_, ?_, ?_⟩ <;> simp only [lockP, pu] <;> (repeat (first | rw [if_pos trivial] | rw [if_pos (by omega)] | rw [if_neg (by omega)])) <;> first | assumption | omega
    · rw [ei _ (by omega) (by omega), ei _ (by omega) (by omega), ei _ (by omega) (by omega), ei _ (by omega) (by omega), ei _ (by omega) (by omega)]
      exact h.2.1.2 q (by omega)
/-- a next town: lives alike, is as it must be, has the same texts -/
def nxt (p c : Nat → Nat) (b : Nat) (p1 c1 : Nat → Nat) : Prop := lvE p1 c1 ∧ wf p1 b 9999 ∧ c1 1 = c 1 ∧ ∀ i, 100 ≤ i → c1 i = c i
theorem nx_rf (h : lvE p c) (hw : wf p b 9999) {b1 : Nat} (hb : b ≤ b1) : nxt p c b1 p c := ⟨h, wf_mono hw hb (Nat.le_refl _), rfl, fun _ _ => rfl⟩
theorem nx_keep {p1 c1 : Nat → Nat} (h : lvE p1 c1) (hw : wf p1 b 9999) (hk : keepP c c1) : nxt p c b p1 c1 := ⟨h, hw, hk.n1, fun i hi => hk i (by unfold fixd; omega)⟩
theorem nx_one (h : lvE p c) (hw : wf p b 9999) (kind room x y z : Int32) : nxt p c b (q_one p kind room x y z) (q_one c kind room x y z) := by
  unfold q_one
  rw [h.n (show 0 < 10 by decide)]
  by_cases g : ¬ ((0 ≤ kind.toInt ∧ kind.toInt ≤ 5) ∧ (0 ≤ room.toInt ∧ room.toInt ≤ 7) ∧ (0 ≤ x.toInt ∧ x.toInt ≤ 99) ∧ (0 ≤ y.toInt ∧ y.toInt ≤ 99) ∧ (0 ≤ z.toInt ∧ z.toInt ≤ 99))
  · rw [if_pos g, if_pos g]
    exact nx_rf h hw (Nat.le_refl _)
  · rw [if_neg g, if_neg g]
    by_cases g8 : p 0 = 8
    · rw [if_pos g8, if_pos g8]
      exact nx_rf h hw (Nat.le_refl _)
    · rw [if_neg g8, if_neg g8]
      have g := Decidable.not_not.1 g
      have h0 := hw.1.1
      have t1 := tN_to g.1.1
      have t2 := tN_to g.2.1.1
      have t3 := tN_to g.2.2.1.1
      have t4 := tN_to g.2.2.2.1.1
      have t5 := tN_to g.2.2.2.2.1
      have c0 := h.n (show 0 < 10 by decide)
      obtain ⟨e0, e8, ei⟩ := comes_0 (p := c) (by omega) (tN kind) (tN room) (tN x) (tN y) (tN z)
      exact ⟨lv_comes h (by omega) _ _ _ _ _, wf_comes hw (by omega) (by omega) (by omega) (by omega) (by omega) (by omega), ei 1 (by omega) (by omega), fun i hi => ei i (by omega) (by omega)⟩
theorem nx_lock (h : lvE p c) (hw : wf p b 9999) (x y z u : Int32) : nxt p c b (q_lock p x y z u) (q_lock c x y z u) := by
  unfold q_lock
  rw [h.n (show 8 < 10 by decide)]
  by_cases g : ¬ ((0 ≤ x.toInt ∧ x.toInt ≤ 7) ∧ (0 ≤ y.toInt ∧ y.toInt ≤ 7) ∧ (0 ≤ z.toInt ∧ z.toInt ≤ 2) ∧ (0 ≤ u.toInt ∧ u.toInt ≤ 99))
  · rw [if_pos g, if_pos g]
    exact nx_rf h hw (Nat.le_refl _)
  · rw [if_neg g, if_neg g]
    by_cases g8 : p 8 = 10
    · rw [if_pos g8, if_pos g8]
      exact nx_rf h hw (Nat.le_refl _)
    · rw [if_neg g8, if_neg g8]
      have g := Decidable.not_not.1 g
      have h0 := hw.2.1.1
      have t1 := tN_to g.1.1
      have t2 := tN_to g.2.1.1
      have t3 := tN_to g.2.2.1.1
      have t4 := tN_to g.2.2.2.1
      have c8 := h.n (show 8 < 10 by decide)
      obtain ⟨e8, ei⟩ := lock_8 (p := c) (by omega) (tN x) (tN y) (tN z) (tN u)
      exact ⟨lv_lock h (by omega) _ _ _ _, wf_lock hw (by omega) (by omega) (by omega) (by omega) (by omega), ei 1 (by omega) (by omega), fun i hi => ei i (by omega) (by omega)⟩
theorem nx_pu (h : lvE p c) {i v : Nat} (hi : i ≠ 0 ∧ i ≠ 8 ∧ i ≠ 1 ∧ i < 100) (hw : wf (pu p i v) b 9999) : nxt p c b (pu p i v) (pu c i v) :=
  ⟨lvE_pu h hi.1 hi.2.1 rfl, hw, pu_ne _ _ (by omega), fun j hj => pu_ne _ _ (by omega)⟩
theorem nx_turns (h : lvE p c) (hw : wf p b 9999) (one kind : Int32) : nxt p c b (q_turns p one kind) (q_turns c one kind) := by
  unfold q_turns
  rw [h.n (show 0 < 10 by decide)]
  have h0 := hw.1.1
  by_cases g : (0 ≤ one.toInt ∧ one.toInt ≤ (p 0 : Int) - 1) ∧ (0 ≤ kind.toInt ∧ kind.toInt ≤ 5)
  · rw [if_pos g, if_pos g]
    have hk := okI g.1
    have t1 := tN_to g.2.1
    exact nx_pu h (by omega) (wf_kind hw hk (by omega))
  · rw [if_neg g, if_neg g]
    exact nx_rf h hw (Nat.le_refl _)
theorem wf_room (h : wf p b D) {k v : Nat} (hk : k < p 0) (hv : v ≤ 7) : wf (pu p (10 + 5 * k + 1) v) b D := by
  have h8 := h.1.1
  exact wf_off h (wfO_room h.1 hv hk) (wfL_off h.2.1 (by omega) (by omega)) (by omega)
theorem wf_regr (h : wf p b D) {k j v : Nat} (hk : k < p 0) (hj : j ≤ 2) (hv : v ≤ 99) : wf (pu p (10 + 5 * k + (2 + j)) v) b D := by
  have h8 := h.1.1
  exact wf_off h (wfO_reg h.1 hk hj hv) (wfL_off h.2.1 (by omega) (by omega)) (by omega)
theorem nx_set (h : lvE p c) (hw : wf p b 9999) (one what v : Int32) : nxt p c b (q_set p one what v) (q_set c one what v) := by
  unfold q_set
  rw [h.n (show 0 < 10 by decide)]
  have h0 := hw.1.1
  by_cases g : (0 ≤ one.toInt ∧ one.toInt ≤ (p 0 : Int) - 1) ∧ (1 ≤ what.toInt ∧ what.toInt ≤ 4) ∧ (0 ≤ v.toInt ∧ v.toInt ≤ 99) ∧ (what.toInt = 1 → v.toInt ≤ 7)
  · rw [if_pos g, if_pos g]
    have hk := okI g.1
    have t1 := tN_to (show 0 ≤ what.toInt by omega)
    have t2 := tN_to g.2.2.1.1
    refine nx_pu h (by omega) ?_
    by_cases e : tN what = 1
    · rw [e]
      have := g.2.2.2 (by omega)
      exact wf_room hw hk (by omega)
    · obtain ⟨j, hj⟩ : ∃ j, tN what = 2 + j := ⟨tN what - 2, by omega⟩
      rw [hj]
      exact wf_regr hw hk (by omega) (by omega)
  · rw [if_neg g, if_neg g]
    exact nx_rf h hw (Nat.le_refl _)
theorem wfL_any (h : wfL p) {l j v : Nat} (hj : j ≤ 4) (hv : v ≤ 99) (h1 : j < 2 → v ≤ 7) (h2 : j = 2 → v ≤ 2) (h4 : j = 4 → v ≤ 1) : wfL (pu p (50 + 5 * l + j) v) := by
  refine ⟨by rw [pu_ne _ _ (by omega)]; exact h.1, fun q hq => ?_⟩
  rw [pu_ne _ _ (by omega)] at hq
  obtain ⟨g0, g1, g2, g3, g4⟩ := h.2 q hq
  have e : ∀ i m, i ≤ 4 → p (50 + 5 * q + i) ≤ m → (i = j → v ≤ m) → pu p (50 + 5 * l + j) v (50 + 5 * q + i) ≤ m := by
    intro i m hi4 hi hm
    unfold pu
    split
    · exact hm (by omega)
    · exact hi
  exact ⟨e 0 7 (by omega) g0 (by omega), e 1 7 (by omega) g1 (by omega), e 2 2 (by omega) g2 (by omega), e 3 99 (by omega) g3 (by omega), e 4 1 (by omega) g4 (by omega)⟩
theorem nx_sets (h : lvE p c) (hw : wf p b 9999) (lock what v : Int32) : nxt p c b (q_sets p lock what v) (q_sets c lock what v) := by
  unfold q_sets
  rw [h.n (show 8 < 10 by decide)]
  have h0 := hw.2.1.1
  by_cases g : (0 ≤ lock.toInt ∧ lock.toInt ≤ (p 8 : Int) - 1) ∧ (0 ≤ what.toInt ∧ what.toInt ≤ 3) ∧ (0 ≤ v.toInt ∧ v.toInt ≤ 99) ∧ (what.toInt < 2 → v.toInt ≤ 7) ∧ (what.toInt = 2 → v.toInt ≤ 2)
  · rw [if_pos g, if_pos g]
    have hk := okI g.1
    have t1 := tN_to g.2.1.1
    have t2 := tN_to g.2.2.1.1
    obtain ⟨g1, g2, g3, ga, gb⟩ := g
    exact nx_pu h (by omega) (wf_off hw (wfO_off hw.1 (by omega) (by omega)) (wfL_any hw.2.1 (by omega) (by omega) (by omega) (by omega) (by omega)) (by omega))
  · rw [if_neg g, if_neg g]
    exact nx_rf h hw (Nat.le_refl _)
theorem nx_mends (h : lvE p c) (hw : wf p b 9999) (lock : Int32) : nxt p c b (q_mends p lock) (q_mends c lock) := by
  unfold q_mends
  rw [h.n (show 8 < 10 by decide)]
  have h0 := hw.2.1.1
  by_cases g : ¬ (0 ≤ lock.toInt ∧ lock.toInt ≤ (p 8 : Int) - 1)
  · rw [if_pos g, if_pos g]
    exact nx_rf h hw (Nat.le_refl _)
  · rw [if_neg g, if_neg g]
    have hk := okI (Decidable.not_not.1 g)
    exact nx_pu h (by omega) (wf_off hw (wfO_off hw.1 (by omega) (by omega)) (wfL_any hw.2.1 (by omega) (by omega) (by omega) (by omega) (by omega)) (by omega))
theorem wf_small (h : wf p b 9999) {i v : Nat} (hi : i = 6 ∨ i = 7 ∨ i = 9) (hv : i ≤ 7 → v ≤ 100) : wf (pu p i v) b 9999 := by
  obtain ⟨h1, h2, h3, h4, h5, h6, h7, h8, h9⟩ := h
  refine ⟨wfO_off h1 (by omega) (by omega), wfL_off h2 (by omega) (by omega), wfT_off h3 (by omega) (by omega), ?_⟩
  rw [pu_ne _ _ (show 2 ≠ i by omega), pu_ne _ _ (show 3 ≠ i by omega), pu_ne _ _ (show 4 ≠ i by omega), pu_ne _ _ (show 5 ≠ i by omega)]
  refine ⟨h4, h5, h6, h7, ?_, ?_⟩ <;> unfold pu <;> split <;> omega
theorem nx_rule (h : lvE p c) (hw : wf p b 9999) (what v : Int32) : nxt p c b (q_rule p what v) (q_rule c what v) := by
  unfold q_rule
  by_cases g : (0 ≤ what.toInt ∧ what.toInt ≤ 1) ∧ (0 ≤ v.toInt ∧ v.toInt ≤ 100)
  · rw [if_pos g, if_pos g]
    have t1 := tN_to g.1.1
    have t2 := tN_to g.2.1
    exact nx_pu h (by omega) (wf_small hw (by omega) (by omega))
  · rw [if_neg g, if_neg g]
    exact nx_rf h hw (Nat.le_refl _)
theorem nx_seed (h : lvE p c) (hw : wf p b 9999) (v : Nat) : nxt p c b (pu p 9 v) (pu c 9 v) := nx_pu h (by omega) (wf_small hw (by omega) (by omega))
theorem nx_tr {p1 c1 p2 c2 : Nat → Nat} {b1 b2 : Nat} (h1 : nxt p c b1 p1 c1) (h2 : nxt p1 c1 b2 p2 c2) : nxt p c b2 p2 c2 := ⟨h2.1, h2.2.1, h2.2.2.1.trans h1.2.2.1, fun i hi => (h2.2.2.2 i hi).trans (h1.2.2.2 i hi)⟩
theorem nx_draw (h : lvE p c) (hw : wf p b 9999) : nxt p c b (drawZ p) (drawZ c) := nx_keep (lv_draw h) (wf_draw hw) (keep_draw c)
theorem nx_comeD (h : lvE p c) (hw : wf p b 9999) (h8 : p 0 < 8) : nxt p c b (comeD p) (comeD c) ∧ comeD p 0 = p 0 + 1 := by
  have n1 := nx_draw h hw
  have n2 := nx_draw n1.1 n1.2.1
  have n3 := nx_draw n2.1 n2.2.1
  have n4 := nx_draw n3.1 n3.2.1
  have n5 := nx_draw n4.1 n4.2.1
  have z : ∀ q : Nat → Nat, drawZ q 0 = q 0 := fun q => drawZ_ne q (by decide)
  have z5 : drawZ (drawZ (drawZ (drawZ (drawZ p)))) 0 = p 0 := by rw [z, z, z, z, z]
  have zc : drawZ (drawZ (drawZ (drawZ (drawZ c)))) 0 = p 0 := by rw [z, z, z, z, z]; exact h.n (by decide)
  have g : nxt (drawZ (drawZ (drawZ (drawZ (drawZ p))))) (drawZ (drawZ (drawZ (drawZ (drawZ c))))) b (comeD p) (comeD c) := by
    unfold comeD
    rw [lv_drawV h, lv_drawV n1.1, lv_drawV n2.1, lv_drawV n3.1, lv_drawV n4.1]
    obtain ⟨e0, e8, ei⟩ := comes_0 (p := drawZ (drawZ (drawZ (drawZ (drawZ c))))) (by omega) (drawV p % 6) (drawV (drawZ p) % 8) (drawV (drawZ (drawZ p)) % 60) (drawV (drawZ (drawZ (drawZ p))) % 60) (drawV (drawZ (drawZ (drawZ (drawZ p)))) % 60)
    exact ⟨lv_comes n5.1 (by omega) _ _ _ _ _, wf_comes n5.2.1 (by omega) (by omega) (by omega) (by omega) (by omega) (by omega), ei 1 (by omega) (by omega), fun i hi => ei i (by omega) (by omega)⟩
  refine ⟨nx_tr (nx_tr (nx_tr (nx_tr (nx_tr n1 n2) n3) n4) n5) g, ?_⟩
  unfold comeD
  rw [(comes_0 (by omega) _ _ _ _ _).1, z5]
theorem nx_dealP (h : lvE p c) (hw : wf p b 9999) : ∀ n, p 0 + n ≤ 8 → nxt p c b (dealP p n) (dealP c n) ∧ dealP p n 0 = p 0 + n
  | 0, _ => ⟨nx_rf h hw (Nat.le_refl _), rfl⟩
  | n + 1, hn => by
    obtain ⟨g1, g2⟩ := nx_dealP h hw n (by omega)
    obtain ⟨k1, k2⟩ := nx_comeD g1.1 g1.2.1 (by omega)
    exact ⟨nx_tr g1 k1, by rw [dealP, k2, g2]; omega⟩
theorem nx_deal (h : lvE p c) (hw : wf p b 9999) (n : Int32) : nxt p c b (q_deal p n) (q_deal c n) := by
  unfold q_deal
  rw [h.n (show 0 < 10 by decide)]
  have h0 := hw.1.1
  by_cases g : ¬ (1 ≤ n.toInt ∧ n.toInt ≤ 8)
  · rw [if_pos g, if_pos g]
    exact nx_rf h hw (Nat.le_refl _)
  · rw [if_neg g, if_neg g]
    exact (nx_dealP h hw _ (by omega)).1
theorem nx_passes (h : lvE p c) (hw : wf p b 9999) (one lock : Int32) : nxt p c (b + 1) (q_passes p one lock) (q_passes c one lock) := by
  have h0 := hw.1.1
  unfold q_passes
  rw [h.n (show 0 < 10 by decide), h.n (show 8 < 10 by decide)]
  by_cases g : ¬ ((0 ≤ one.toInt ∧ one.toInt ≤ (p 0 : Int) - 1) ∧ (0 ≤ lock.toInt ∧ lock.toInt ≤ (p 8 : Int) - 1))
  · rw [if_pos g, if_pos g]
    exact nx_rf h hw (by omega)
  · rw [if_neg g, if_neg g]
    have g := Decidable.not_not.1 g
    have hk := okI g.1
    have hl := okI g.2
    rw [h.l hl (show 0 < 5 by decide), h.l hl (show 2 < 5 by decide), h.l hl (show 3 < 5 by decide), h.l hl (show 4 < 5 by decide), h.o h0 hk (show 0 < 5 by decide), h.o h0 hk (show 1 < 5 by decide), lv_reg h h0 hk (hw.2.1.2 _ hl).2.2.1]
    by_cases g2 : ¬ (p (10 + 5 * tN one + 1) = p (50 + 5 * tN lock + 0) ∧ (p (50 + 5 * tN lock + 4) = 0 ∧ p (50 + 5 * tN lock + 3) ≤ feelsN (p (10 + 5 * tN one + 0)) (p (10 + 5 * tN one + (2 + p (50 + 5 * tN lock + 2))))))
    · rw [if_pos g2, if_pos g2]
      exact nx_rf h hw (by omega)
    · rw [if_neg g2, if_neg g2]
      have w := wf_mono hw (show b ≤ b + 1 by omega) (Nat.le_refl _)
      refine nx_keep (lv_go h hw.1 hw.2.1 hk hl) (wf_go w hk hl (by have := hw.2.2.2.2.1; omega)) (keep_go (by omega) ?_)
      rw [h.l hl (show 2 < 5 by decide)]
      exact (hw.2.1.2 _ hl).2.2.1
theorem n1_day (h : wf p b D) : dayP p 1 = p 1 := by
  obtain ⟨w1, k1⟩ := wf_people h (p 0) (Nat.le_refl _)
  obtain ⟨w2, k2⟩ := wf_deed w1
  obtain ⟨w3, k3⟩ := wf_pardon w2
  rw [dayP_eq]
  unfold restP
  rw [pu_ne _ _ (by omega)]
  have e := (k1.tr k2).tr k3
  split
  · rw [((wf_mend w3 _ w3.2.1.1).2).n1]
    exact e.n1
  · exact e.n1
theorem nx_days (h : lvE p c) (hw : wf p b 9999) (n : Int32) : nxt p c (b + 800) (q_days p n) (q_days c n) := by
  unfold q_days
  rw [h.n (show 2 < 10 by decide)]
  by_cases g : ¬ (1 ≤ n.toInt ∧ n.toInt ≤ 100)
  · rw [if_pos g, if_pos g]
    exact nx_rf h hw (by omega)
  · rw [if_neg g, if_neg g]
    have g := Decidable.not_not.1 g
    have t := tN_to (show 0 ≤ n.toInt by omega)
    have hw2 : wf p b (p 2) := ⟨hw.1, hw.2.1, hw.2.2.1, Nat.le_refl _, hw.2.2.2.2⟩
    have h2 := hw.2.2.2.1
    have hc := lvE_wf h hw
    refine ⟨lv_days h hw _, wf_mono (wf_days hw2 _) (by omega) (by omega), ?_, fun i hi => days_hi hc hi _⟩
    have n1 : ∀ m, daysP c m 1 = c 1 := by
      intro m
      induction m with
      | zero => rfl
      | succ m ih => rw [daysP, n1_day (wf_days hc m), ih]
    exact n1 _
theorem nx_pourP (h : lvE p c) (hw : wf p b 9999) {row row' : Nat → Int32} : ∀ n, n ≤ p 0 → (∀ i, i < n → row' i = row i) → nxt p c b (pourP p row n) (pourP c row' n) ∧ pourP p row n 0 = p 0
  | 0, _, _ => ⟨nx_rf h hw (Nat.le_refl _), rfl⟩
  | n + 1, hn, hr => by
    have h0 := hw.1.1
    obtain ⟨g1, g2⟩ := nx_pourP h hw n (by omega) (fun i hi => hr i (by omega))
    have hv : pvP p row n ≤ 99 := by
      unfold pvP
      split
      · exact (hw.1.2 n (by omega)).2.2.1
      · omega
    refine ⟨nx_tr g1 ?_, ?_⟩
    · rw [pourP, pourP, lv_pv h h0 (hr n (by omega)) (by omega)]
      exact nx_pu g1.1 (by omega) (wf_regr (j := 0) g1.2.1 (by omega) (by omega) hv)
    · rw [pourP, pu_ne _ _ (by omega), g2]
theorem nx_pour (h : lvE p c) (hw : wf p b 9999) (sheet srt : Int32) (len : Nat) {row row' : Nat → Int32} (hr : ∀ i, i < len → row' i = row i) : nxt p c b (q_pour p sheet srt len row) (q_pour c sheet srt len row') := by
  unfold q_pour
  rw [h.n (show 0 < 10 by decide)]
  by_cases g : ¬ (0 ≤ sheet.toInt ∧ sheet.toInt ≤ 3)
  · rw [if_pos g, if_pos g]
    exact nx_rf h hw (Nat.le_refl _)
  · rw [if_neg g, if_neg g]
    by_cases g2 : srt.toInt < 0
    · rw [if_pos g2, if_pos g2]
      exact nx_rf h hw (Nat.le_refl _)
    · rw [if_neg g2, if_neg g2]
      exact (nx_pourP h hw _ (by omega) (fun i hi => hr i (by omega))).1
end NXT
