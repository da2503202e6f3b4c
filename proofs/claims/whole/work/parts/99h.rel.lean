-- REL: what the town answers depends on what lives alone
theorem ite_2 {α : Type} {P : Prop} [Decidable P] {a b a' b' : α} (h1 : P → a = a') (h2 : ¬ P → b = b') : (if P then a else b) = (if P then a' else b') := by
  by_cases h : P
  · rw [if_pos h, if_pos h, h1 h]
  · rw [if_neg h, if_neg h, h2 h]
theorem ite_i {α : Type} {P Q : Prop} [Decidable P] [Decidable Q] {a b a' b' : α} (h : P ↔ Q) (h1 : P → a = a') (h2 : ¬ P → b = b') : (if P then a else b) = (if Q then a' else b') := by
  by_cases g : P
  · rw [if_pos g, if_pos (h.mp g), h1 g]
  · rw [if_neg g, if_neg (fun z => g (h.mpr z)), h2 g]
theorem tN_to {x : Int32} (h : 0 ≤ x.toInt) : (tN x : Int) = x.toInt := by
  have h2 : x.toInt < (2147483648 : Nat) := x.toInt_lt
  obtain ⟨k, hk, rfl⟩ := i_of h h2
  rw [tN_nI (by omega), i_N hk]
theorem okI {x : Int32} {n : Nat} (h : 0 ≤ x.toInt ∧ x.toInt ≤ (n : Int) - 1) : tN x < n := by
  have := tN_to h.1
  omega
section REL
variable {p c : Nat → Nat} {b D : Nat}
theorem lv_regs (h : lvE p c) (h0 : p 0 ≤ 8) {k : Nat} (hk : k < p 0) : regsP c k = regsP p k := by
  unfold regsP
  rw [h.o h0 hk (show 2 < 5 by decide), h.o h0 hk (show 3 < 5 by decide), h.o h0 hk (show 4 < 5 by decide)]
theorem lv_sum (h : lvE p c) (h0 : p 0 ≤ 8) : ∀ k, k ≤ p 0 → sumP c k = sumP p k
  | 0, _ => rfl
  | k + 1, hk => by rw [sumP, sumP, lv_sum h h0 k (by omega), lv_regs h h0 (by omega)]
theorem rl_one (h : lvE p c) (kind room x y z : Int32) : r_one c kind room x y z = r_one p kind room x y z := by
  unfold r_one
  rw [h.n (show 0 < 10 by decide)]
theorem rl_told (h : lvE p c) (h0 : p 0 ≤ 8) (one what : Int32) : r_told c one what = r_told p one what := by
  unfold r_told
  rw [h.n (show 0 < 10 by decide)]
  refine ite_2 (fun _ => rfl) (fun g => ?_)
  have g := Decidable.not_not.1 g
  have hk := okI g.1
  have hw := tN_to g.2.1
  refine ite_2 (fun g1 => ?_) (fun g1 => ?_)
  · rw [h.o h0 hk (by omega)]
  · rw [h.o h0 hk (show 0 < 5 by decide), lv_regs h h0 hk]
    refine ite_2 (fun _ => rfl) (fun g2 => ?_)
    rw [h.o h0 hk (by omega)]
theorem rl_as (h : lvE p c) (h0 : p 0 ≤ 8) (one kind : Int32) : r_as c one kind = r_as p one kind := by
  unfold r_as
  rw [h.n (show 0 < 10 by decide)]
  refine ite_2 (fun _ => rfl) (fun g => ?_)
  have g := Decidable.not_not.1 g
  have hk := okI g.1
  rw [h.o h0 hk (show 0 < 5 by decide), h.o h0 hk (show 1 < 5 by decide)]
theorem rl_turns (h : lvE p c) (h0 : p 0 ≤ 8) (one kind : Int32) : r_turns c one kind = r_turns p one kind := by
  unfold r_turns
  rw [h.n (show 0 < 10 by decide)]
  refine ite_2 (fun g => ?_) (fun _ => rfl)
  have hk := okI g.1
  rw [show 10 + 5 * tN one = 10 + 5 * tN one + 0 from rfl, h.o h0 hk (show 0 < 5 by decide)]
theorem rl_set (h : lvE p c) (h0 : p 0 ≤ 8) (one what v : Int32) : r_set c one what v = r_set p one what v := by
  unfold r_set
  rw [h.n (show 0 < 10 by decide)]
  refine ite_2 (fun g => ?_) (fun _ => rfl)
  have hk := okI g.1
  have hw := tN_to (show 0 ≤ what.toInt by omega)
  rw [h.o h0 hk (by omega)]
theorem rl_lock (h : lvE p c) (x y z u : Int32) : r_lock c x y z u = r_lock p x y z u := by
  unfold r_lock
  rw [h.n (show 8 < 10 by decide)]
theorem rl_at (h : lvE p c) (h0 : p 0 ≤ 8) (room : Int32) : r_at c room = r_at p room := by
  unfold r_at
  rw [h.n (show 0 < 10 by decide)]
  refine ite_2 (fun _ => rfl) (fun _ => ?_)
  exact setOf_congr _ (fun k hk => by rw [h.o h0 hk (show 1 < 5 by decide)])
theorem rl_about (h : lvE p c) (hO : wfO p) (hL : wfL p) (lock what : Int32) : r_about c lock what = r_about p lock what := by
  unfold r_about
  rw [h.n (show 0 < 10 by decide), h.n (show 8 < 10 by decide)]
  refine ite_2 (fun _ => rfl) (fun g => ?_)
  have g := Decidable.not_not.1 g
  have hl := okI g.1
  have hw := tN_to g.2.1
  refine ite_2 (fun g1 => ?_) (fun g1 => ?_)
  · rw [h.l hl (by omega)]
  · refine setOf_congr _ (fun k hk => ?_)
    rw [h.l hl (show 4 < 5 by decide), h.l hl (show 3 < 5 by decide), h.l hl (show 2 < 5 by decide), h.o hO.1 hk (show 0 < 5 by decide), lv_reg h hO.1 hk (hL.2 _ hl).2.2.1]
theorem rl_sets (h : lvE p c) (lock what v : Int32) : r_sets c lock what v = r_sets p lock what v := by
  unfold r_sets
  rw [h.n (show 8 < 10 by decide)]
  refine ite_2 (fun g => ?_) (fun _ => rfl)
  have hl := okI g.1
  have hw := tN_to g.2.1.1
  rw [h.l hl (by omega)]
theorem rl_mends (h : lvE p c) (lock : Int32) : r_mends c lock = r_mends p lock := by
  unfold r_mends
  rw [h.n (show 8 < 10 by decide)]
  refine ite_2 (fun _ => rfl) (fun g => ?_)
  have hl := okI (Decidable.not_not.1 g)
  rw [h.l hl (show 4 < 5 by decide)]
theorem rl_rule (h : lvE p c) (what v : Int32) : r_rule c what v = r_rule p what v := by
  unfold r_rule
  refine ite_2 (fun g => ?_) (fun _ => rfl)
  have hw := tN_to g.1.1
  rw [h.n (by omega)]
theorem rl_why (h : lvE p c) (key : Int32) : r_why c key = r_why p key := by
  unfold r_why
  rw [h.n (show 1 < 10 by decide), cnt_same (p := p) (p' := c) (fun i hi => h.t hi)]
theorem rl_passes (h : lvE p c) (hO : wfO p) (hL : wfL p) (one lock : Int32) : r_passes c one lock = r_passes p one lock := by
  unfold r_passes
  rw [h.n (show 0 < 10 by decide), h.n (show 8 < 10 by decide)]
  refine ite_2 (fun _ => rfl) (fun g => ?_)
  have g := Decidable.not_not.1 g
  have hk := okI g.1
  have hl := okI g.2
  rw [h.l hl (show 0 < 5 by decide), h.l hl (show 1 < 5 by decide), h.l hl (show 2 < 5 by decide), h.l hl (show 3 < 5 by decide), h.l hl (show 4 < 5 by decide), h.o hO.1 hk (show 0 < 5 by decide), h.o hO.1 hk (show 1 < 5 by decide), lv_reg h hO.1 hk (hL.2 _ hl).2.2.1]
theorem rl_days (h : lvE p c) (hw : wf p b D) (n : Int32) : r_days c n = r_days p n := by
  unfold r_days
  rw [h.n (show 2 < 10 by decide), h.n (show 3 < 10 by decide), (lv_days h hw _).n (show 3 < 10 by decide)]
theorem rl_town (h : lvE p c) (hw : wf p b D) (what : Int32) : r_town c what = r_town p what := by
  unfold r_town
  rw [h.n (show 0 < 10 by decide), h.n (show 8 < 10 by decide), lv_sum h hw.1.1 _ (Nat.le_refl _)]
  refine ite_2 (fun _ => rfl) (fun g => ?_)
  have g := Decidable.not_not.1 g
  have hw := tN_to g.1
  refine ite_2 (fun g1 => ?_) (fun g1 => ite_2 (fun _ => rfl) (fun g2 => ?_))
  · rw [h.n (by omega)]
  · exact setOf_congr _ (fun k hk => by rw [h.l hk (show 4 < 5 by decide)])
theorem rl_deal (h : lvE p c) (n : Int32) : r_deal c n = r_deal p n := by
  unfold r_deal
  rw [h.n (show 0 < 10 by decide)]
theorem rl_fee (h : lvE p c) : r_fee c = r_fee p := by
  unfold r_fee
  rw [h.n (show 1 < 10 by decide), h.n (show 3 < 10 by decide), h.n (show 4 < 10 by decide), cnt_same (p := p) (p' := c) (fun i hi => h.t hi)]
  cases cnt p 1 (p 1) with
  | none => rfl
  | some t =>
    dsimp only
    rw [evT_same (p := p) (p' := c) (fun i hi => h.t hi)]
theorem rl_fine (h : lvE p c) (h0 : p 0 ≤ 8) (one : Int32) : r_fine c one = r_fine p one := by
  unfold r_fine
  rw [h.n (show 1 < 10 by decide), h.n (show 0 < 10 by decide), cnt_same (p := p) (p' := c) (fun i hi => h.t hi)]
  refine ite_2 (fun _ => rfl) (fun g => ?_)
  have hk := okI (Decidable.not_not.1 g)
  rw [lv_regs h h0 hk, h.o h0 hk (show 1 < 5 by decide)]
  cases cnt p 2 (p 1) with
  | none => rfl
  | some t =>
    dsimp only
    rw [evT_same (p := p) (p' := c) (fun i hi => h.t hi)]
theorem n0_days (hw : wf p b D) : ∀ n, daysP p n 0 = p 0
  | 0 => rfl
  | n + 1 => by
    rw [daysP, (day_0 (wf_days hw n)).1, n0_days hw n]
theorem rl_behind (h : lvE p c) (hw : wf p b D) (n what : Int32) : r_behind c n what = r_behind p n what := by
  unfold r_behind
  rw [h.n (show 0 < 10 by decide)]
  have hd := lv_days h hw (tN n)
  have h0 := n0_days hw (tN n)
  refine ite_2 (fun _ => rfl) (fun g => ?_)
  have g := Decidable.not_not.1 g
  have ht := tN_to g.2.1
  refine ite_2 (fun g1 => ?_) (fun g1 => ?_)
  · rw [hd.n (by omega)]
  · rw [hd.o (by rw [h0]; exact hw.1.1) (by rw [h0]; omega) (show 1 < 5 by decide)]
theorem rl_enters (h : lvE p c) (hw : wf p b D) (one room : Int32) : r_enters c one room = r_enters p one room := by
  unfold r_enters
  rw [h.n (show 0 < 10 by decide)]
  refine ite_2 (fun _ => rfl) (fun g => ?_)
  have g := Decidable.not_not.1 g
  have hk := okI g.1
  have e : fi (fun n => daysP c n (10 + 5 * tN one + 1) = tN room) (201 - 0) 0 = fi (fun n => daysP p n (10 + 5 * tN one + 1) = tN room) (201 - 0) 0 := by
    refine fi_congr _ _ (fun n _ _ => ?_)
    have h0 := n0_days hw n
    rw [(lv_days h hw n).o (by rw [h0]; exact hw.1.1) (by rw [h0]; exact hk) (show 1 < 5 by decide)]
  rw [e]
theorem rl_freed (h : lvE p c) (hw : wf p b D) (n what : Int32) : r_freed c n what = r_freed p n what := by
  have e : bst (-1) (fun k => daysP (pu c (50 + 5 * k + 3) 0) (tN n) 3) (p 8) = bst (-1) (fun k => daysP (pu p (50 + 5 * k + 3) 0) (tN n) 3) (p 8) := by
    refine bst_congr _ _ (fun k hk => ?_)
    exact (lv_days (lvE_pu h (by omega) (by omega) rfl) (wf_set0 hw hk) (tN n)).n (by decide)
  unfold r_freed
  rw [h.n (show 8 < 10 by decide), e]
theorem rl_becomes (h : lvE p c) (hw : wf p b D) (one n what : Int32) : r_becomes c one n what = r_becomes p one n what := by
  unfold r_becomes
  rw [h.n (show 0 < 10 by decide)]
  refine ite_2 (fun _ => rfl) (fun g => ?_)
  have hk := okI (Decidable.not_not.1 g).1
  have e : bst (nI 0) (fun k => daysP (pu c (10 + 5 * tN one + 0) k) (tN n) 3) 6 = bst (nI 0) (fun k => daysP (pu p (10 + 5 * tN one + 0) k) (tN n) 3) 6 := by
    refine bst_congr _ _ (fun k hk2 => ?_)
    exact (lv_days (lvE_pu h (by omega) (by omega) rfl) (wf_kind hw hk (by omega)) (tN n)).n (by decide)
  rw [e]
theorem rl_textTold (h : lvE p c) (t what : Int32) : r_textTold c t what = r_textTold p t what := by
  unfold r_textTold
  rw [h.n (show 1 < 10 by decide), h.t (by omega)]
theorem rl_count (h : lvE p c) (w l : Nat) (what : Int32) : r_count c w l what = r_count p w l what := by
  unfold r_count
  rw [h.n (show 0 < 10 by decide), h.n (show 1 < 10 by decide), h.n (show 2 < 10 by decide), h.n (show 6 < 10 by decide), h.n (show 7 < 10 by decide), h.n (show 8 < 10 by decide), h.n (show 9 < 10 by decide)]
theorem rl_sorry (h : lvE p c) (hO : wfO p) (hL : wfL p) (one lock : Int32) : r_sorry c one lock = r_sorry p one lock := by
  unfold r_sorry
  rw [h.n (show 0 < 10 by decide), h.n (show 8 < 10 by decide)]
  refine ite_2 (fun _ => rfl) (fun g => ?_)
  have g := Decidable.not_not.1 g
  have hk := okI g.1
  have hl := okI g.2
  have e2 := h.l hl (show 2 < 5 by decide)
  have er := lv_reg h hO.1 hk (hL.2 _ hl).2.2.1
  have es : sorF c (tN one) (tN lock) = sorF p (tN one) (tN lock) := by
    unfold sorF
    rw [e2, er]
    refine fi_congr _ _ (fun v _ _ => ?_)
    rw [h.l hl (show 3 < 5 by decide), h.o hO.1 hk (show 0 < 5 by decide)]
  rw [es, e2, er]
theorem lv_feelS (h : lvE p c) (h0 : p 0 ≤ 8) {s : Nat} (hs : s ≤ 2) (v : Nat) : feelS c s v = feelS p s v := by
  unfold feelS
  rw [h.n (show 0 < 10 by decide)]
  exact setOf_congr _ (fun k hk => by rw [h.o h0 hk (show 0 < 5 by decide), lv_reg h h0 hk hs])
theorem rl_just (h : lvE p c) (hO : wfO p) (hL : wfL p) (lock people : Int32) : r_just c lock people = r_just p lock people := by
  unfold r_just
  rw [h.n (show 0 < 10 by decide), h.n (show 8 < 10 by decide)]
  refine ite_2 (fun _ => rfl) (fun g => ?_)
  have hl := okI (Decidable.not_not.1 g).1
  have e : fi (fun v => (feelS c (c (50 + 5 * tN lock + 2)) v).toInt = people.toInt) (100 - 0) 0 = fi (fun v => (feelS p (p (50 + 5 * tN lock + 2)) v).toInt = people.toInt) (100 - 0) 0 := by
    rw [h.l hl (show 2 < 5 by decide)]
    refine fi_congr _ _ (fun v _ _ => ?_)
    rw [lv_feelS h hO.1 (hL.2 _ hl).2.2.1]
  rw [e]
theorem lv_wn (h : lvE p c) (kd s r : Nat) : ∀ n, wnP c kd s r n = wnP p kd s r n
  | 0 => rfl
  | n + 1 => by rw [wnP, wnP, lv_wn h kd s r n, lv_worn h]
theorem lv_wt (h : lvE p c) (h0 : p 0 ≤ 8) {k j : Nat} (hk : k < p 0) (hj : j < 27) : wtP c k j = wtP p k j := by
  unfold wtP
  rw [h.o h0 hk (show 0 < 5 by decide), lv_reg h h0 hk (show j / 9 ≤ 2 by omega), lv_wn h]
theorem lv_row (h : lvE p c) (hO : wfO p) (hL : wfL p) {k : Nat} (hk : k < p 0) (B : Nat → Nat) (K : Nat) : ∀ l, l ≤ p 8 → rowB c k B K l = rowB p k B K l
  | 0, _ => rfl
  | l + 1, hl => by
    have hl2 : l < p 8 := by omega
    have hs := (hL.2 l hl2).2.2.1
    rw [rowB, rowB, lv_row h hO hL hk B K l (by omega)]
    unfold pushB
    rw [h.l hl2 (show 0 < 5 by decide), h.l hl2 (show 1 < 5 by decide), h.l hl2 (show 2 < 5 by decide), h.l hl2 (show 3 < 5 by decide), h.l hl2 (show 4 < 5 by decide), h.o hO.1 hk (show 0 < 5 by decide), lv_wt h hO.1 hk (by omega)]
theorem lv_roomB (h : lvE p c) (hO : wfO p) (hL : wfL p) {k : Nat} (hk : k < p 0) : ∀ K, roomB c k K = roomB p k K
  | 0 => by
    rw [roomB, roomB]
    unfold initB
    rw [h.o hO.1 hk (show 1 < 5 by decide)]
  | K + 1 => by rw [roomB, roomB, lv_roomB h hO hL hk K, h.n (show 8 < 10 by decide), lv_row h hO hL hk _ _ _ (Nat.le_refl _)]
theorem rl_reach (h : lvE p c) (hO : wfO p) (hL : wfL p) (one : Int32) : r_reach c one = r_reach p one := by
  unfold r_reach
  rw [h.n (show 0 < 10 by decide)]
  refine ite_2 (fun g => ?_) (fun _ => rfl)
  unfold reachV
  rw [lv_roomB h hO hL (okI g)]
theorem rl_pardoned (h : lvE p c) (hw : wf p b D) (one : Int32) : r_pardoned c one = r_pardoned p one := by
  unfold r_pardoned
  rw [h.n (show 0 < 10 by decide)]
  refine ite_2 (fun _ => rfl) (fun g => ?_)
  have hk := okI (Decidable.not_not.1 g)
  have w := wf_halves hw hk
  unfold reachV
  rw [lv_roomB (lv_halves h hw.1.1 hk) w.1 w.2.1 (by rw [(keep_halves (by have := hw.1.1; omega)).n0]; exact hk)]
theorem rl_way (h : lvE p c) (hO : wfO p) (hL : wfL p) (one room : Int32) : r_way c one room = r_way p one room := by
  unfold r_way
  rw [h.n (show 0 < 10 by decide)]
  refine ite_2 (fun _ => rfl) (fun g => ?_)
  rw [lv_roomB h hO hL (okI (Decidable.not_not.1 g).1)]
theorem rl_reads (h : lvE p c) (h0 : p 0 ≤ 8) (sheet srt : Int32) (len : Nat) {row row' : Nat → Int32} (hr : ∀ i, i < len → row' i = row i) : r_reads c sheet srt len row' = r_reads p sheet srt len row := by
  have e : fi (fun l => ¬ (row' l).toInt = -1000000005 ∧ (p 0 ≤ l ∨ ¬ (row' l).toInt = (c (10 + 5 * l + 1) : Int))) (len - 0) 0 = fi (fun l => ¬ (row l).toInt = -1000000005 ∧ (p 0 ≤ l ∨ ¬ (row l).toInt = (p (10 + 5 * l + 1) : Int))) (len - 0) 0 := by
    refine fi_congr _ _ (fun l _ hl => ?_)
    rw [hr l (by omega)]
    by_cases hk : l < p 0
    · rw [h.o h0 hk (show 1 < 5 by decide)]
    · have : p 0 ≤ l := by omega
      constructor
      · exact fun z => ⟨z.1, .inl this⟩
      · exact fun z => ⟨z.1, .inl this⟩
  unfold r_reads
  rw [h.n (show 0 < 10 by decide), e]
theorem lv_pv (h : lvE p c) (h0 : p 0 ≤ 8) {row row' : Nat → Int32} {k : Nat} (hr : row' k = row k) (hk : k < p 0) : pvP c row' k = pvP p row k := by
  unfold pvP
  rw [hr, h.o h0 hk (show 2 < 5 by decide)]
theorem lv_pourC (h : lvE p c) (h0 : p 0 ≤ 8) {row row' : Nat → Int32} : ∀ n, n ≤ p 0 → (∀ i, i < n → row' i = row i) → pourC c row' n = pourC p row n
  | 0, _, _ => rfl
  | n + 1, hn, hr => by rw [pourC, pourC, lv_pourC h h0 n (by omega) (fun i hi => hr i (by omega)), lv_pv h h0 (hr n (by omega)) (by omega), h.o h0 (by omega) (show 2 < 5 by decide)]
theorem rl_pour (h : lvE p c) (h0 : p 0 ≤ 8) (sheet srt : Int32) (len : Nat) {row row' : Nat → Int32} (hr : ∀ i, i < len → row' i = row i) : r_pour c sheet srt len row' = r_pour p sheet srt len row := by
  unfold r_pour
  rw [h.n (show 0 < 10 by decide), lv_pourC h h0 (min len (p 0)) (by omega) (fun i hi => hr i (by omega))]
theorem lv_likeN (h : lvE p c) (hw : wf p b D) {row row' : Nat → Int32} {k : Nat} (hk : k < p 0) : ∀ n, (∀ i, i < n → row' i = row i) → likeN c row' k n = likeN p row k n
  | 0, _ => rfl
  | n + 1, hr => by
    have h0 := n0_days hw n
    rw [likeN, likeN, lv_likeN h hw hk n (fun i hi => hr i (by omega)), hr n (by omega), (lv_days h hw n).o (by rw [h0]; exact hw.1.1) (by rw [h0]; exact hk) (show 1 < 5 by decide)]
theorem rl_like (h : lvE p c) (hw : wf p b D) (sheet srt : Int32) (len : Nat) {row row' : Nat → Int32} (hr : ∀ i, i < len → row' i = row i) (what : Int32) : r_like c sheet srt len row' what = r_like p sheet srt len row what := by
  have e : bst (-1) (fun k => likeN c row' k len) (p 0) = bst (-1) (fun k => likeN p row k len) (p 0) := bst_congr _ _ (fun k hk => lv_likeN h hw hk len hr)
  unfold r_like
  rw [h.n (show 0 < 10 by decide), e]
theorem rl_lay (h : lvE p c) (slot thing kk srt was : Int32) : r_lay c slot thing kk srt was = r_lay p slot thing kk srt was := by
  unfold r_lay
  rw [h.n (show 0 < 10 by decide)]
theorem lv_due (h : lvE p c) (hw : wf p b D) (j : Nat) : dueV c j = dueV p j := by
  have hd := lv_days h hw (j / 2 + 1)
  have h0 := n0_days hw (j / 2 + 1)
  unfold dueV
  rw [hd.n (show 3 < 10 by decide), hd.n (show 0 < 10 by decide), lv_sum hd (by rw [h0]; exact hw.1.1) _ (Nat.le_refl _)]
theorem rl_check (h : lvE p c) (hw : wf p b D) (img : Int32) {W W' : Nat → Int32} (w : Nat) (hr : ∀ i, i < w → W' i = W i) (n : Int32) : r_check c img W' w n = r_check p img W w n := by
  have e : ∀ m, chkF c W' w m = chkF p W w m := fun m => by
    unfold chkF
    refine fi_congr _ _ (fun k _ hk => ?_)
    rw [hr k (by omega), lv_due h hw]
  unfold r_check
  rw [h.n (show 2 < 10 by decide), e]
end REL
