-- CLASS PARSER: its cells (118 itself, 120 row, 121 open), the tape's bytes as the class holds them
def pq (M : zMem) (q : Nat → Nat) (R : Nat → Int32) (o : Nat → Nat) : zMem := zs (zs (zs M 118 (nIf q)) 120 R) 121 (nIf o)
theorem pq_q (M : zMem) (q : Nat → Nat) (R : Nat → Int32) (o : Nat → Nat) (k : Nat) : pq M q R o 118 k = nI (q k) := by
  unfold pq
  rw [zs_ne _ _ (by decide), zs_ne _ _ (by decide), zs_eq]
  rfl
theorem pq_R (M : zMem) (q : Nat → Nat) (R : Nat → Int32) (o : Nat → Nat) : pq M q R o 120 = R := by
  unfold pq
  rw [zs_ne _ _ (by decide), zs_eq]
theorem pq_o (M : zMem) (q : Nat → Nat) (R : Nat → Int32) (o : Nat → Nat) (i : Nat) : pq M q R o 121 i = nI (o i) := by
  unfold pq
  rw [zs_eq]
  rfl
theorem pq_n (M : zMem) (q : Nat → Nat) (R : Nat → Int32) (o : Nat → Nat) {a : Nat} (h1 : a ≠ 118) (h2 : a ≠ 120) (h3 : a ≠ 121) : pq M q R o a = M a := by
  unfold pq
  rw [zs_ne _ _ h3, zs_ne _ _ h2, zs_ne _ _ h1]
theorem nIf_pu (q : Nat → Nat) (k v : Nat) : upd (nIf q) k (nI v) = nIf (pu q k v) := by
  funext j
  simp only [upd, nIf, pu]
  split <;> rfl
theorem pq_wq {M : zMem} {q q2 : Nat → Nat} {R : Nat → Int32} {o : Nat → Nat} {k v : Nat} (h : pu q k v = q2) : zs (pq M q R o) 118 (upd ((pq M q R o) 118) k (nI v)) = pq M q2 R o := by
  have e : (pq M q R o) 118 = nIf q := funext (fun k => pq_q M q R o k)
  rw [e, nIf_pu, h]
  unfold pq
  rw [zs_comm (zs (zs M 118 (nIf q)) 120 R) (nIf o) (nIf q2) (by decide : (121:Nat) ≠ 118), zs_comm (zs M 118 (nIf q)) R (nIf q2) (by decide : (120:Nat) ≠ 118), zs_zs]
theorem pq_wR (M : zMem) (q : Nat → Nat) (R : Nat → Int32) (o : Nat → Nat) (i : Nat) (x : Int32) : zs (pq M q R o) 120 (upd ((pq M q R o) 120) i x) = pq M q (upd R i x) o := by
  rw [pq_R]
  unfold pq
  rw [zs_comm (zs (zs M 118 (nIf q)) 120 R) (nIf o) (upd R i x) (by decide : (121:Nat) ≠ 120), zs_zs]
theorem pq_wo (M : zMem) (q : Nat → Nat) (R : Nat → Int32) (o : Nat → Nat) (i v : Nat) : zs (pq M q R o) 121 (upd ((pq M q R o) 121) i (nI v)) = pq M q R (pu o i v) := by
  have e : (pq M q R o) 121 = nIf o := funext (fun k => pq_o M q R o k)
  rw [e, nIf_pu]
  unfold pq
  rw [zs_zs]
/-- a byte as the class reads it -/
def sb (t : Nat) : Int32 := if t < 128 then nI t else nI t - nI 256
theorem sb_int {t : Nat} (h : t ≤ 255) : (t < 128 ∧ (sb t).toInt = (t : Int)) ∨ (128 ≤ t ∧ t ≤ 255 ∧ (sb t).toInt = (t : Int) - 256) := by
  unfold sb
  by_cases h1 : t < 128
  · rw [if_pos h1]
    exact .inl ⟨h1, i_N (by omega)⟩
  · rw [if_neg h1]
    refine .inr ⟨by omega, h, ?_⟩
    have := pk_sub_toInt (a := t) (b := 256) (by omega) (by decide)
    omega
theorem sb_lo {t : Nat} (h : t < 128) : sb t = nI t := if_pos h
/-- the class' tape -/
def tpC (M : zMem) (T : Nat → Nat) : Prop := ∀ i, i < 96 → M 122 i = sb (T i)
def sA (T : Nat → Nat) (L i : Nat) : Nat := if L ≤ i then 0 else if 97 ≤ T i ∧ T i ≤ 122 then 1 else if 48 ≤ T i ∧ T i ≤ 57 then 2 else 3
theorem sA_le (T : Nat → Nat) (L i : Nat) : sA T L i ≤ 3 := by
  unfold sA
  repeat' split
  all_goals omega
theorem sA_0 {T : Nat → Nat} {L i : Nat} (h : sA T L i = 0) : L ≤ i := by
  unfold sA at h
  repeat' split at h
  all_goals omega
def bwQ (q : Nat → Nat) : Nat := if q 4 = 1 ∨ q 4 = 2 then 1 else 0
def nbQ (bw bl s : Nat) : Nat := if bw = 1 ∧ bl = 0 ∧ (s = 1 ∨ s = 2) then 1 else 0
def enQ (T : Nat → Nat) (L b s : Nat) : Nat := if s = 0 then b else if s = 3 then b + 1 else fi (fun i => ¬ sA T L i = s) (L - (b + 1)) (b + 1)
def nextQ (T q : Nat → Nat) : Nat → Nat :=
  pu (pu (pu (pu q 2 (skipT T (q 1) (q 3))) 4 (sA T (q 1) (skipT T (q 1) (q 3)))) 5 (nbQ (bwQ q) (if q 3 < skipT T (q 1) (q 3) then 1 else 0) (sA T (q 1) (skipT T (q 1) (q 3))))) 3 (enQ T (q 1) (skipT T (q 1) (q 3)) (sA T (q 1) (skipT T (q 1) (q 3))))
/-- the steps lie in the row -/
def lay (key : Nat) (R : Nat → Int32) (Rw : Sps) : Prop := ∀ i, i < Rw.length → R i = encS key (Rw.getD i (0, 0)).1 (Rw.getD i (0, 0)).2
theorem lay_app {key : Nat} {R : Nat → Int32} {Rw : Sps} (h : lay key R Rw) (w v : Nat) : lay key (upd R Rw.length (encS key w v)) (Rw ++ [(w, v)]) := by
  intro i hi
  rw [List.length_append, List.length_singleton] at hi
  unfold upd
  by_cases e : i = Rw.length
  · rw [if_pos e, List.getD_eq_getElem?_getD, List.getElem?_append_right (by omega), e, Nat.sub_self]
    rfl
  · rw [if_neg e, h i (by omega), List.getD_eq_getElem?_getD, List.getD_eq_getElem?_getD, List.getElem?_append_left (by omega)]
def opn (o : Nat → Nat) : List Nat → Prop
  | [] => True
  | x :: O => o O.length = x ∧ opn o O
theorem opn_up {o : Nat → Nat} {i v : Nat} : ∀ {O : List Nat}, O.length ≤ i → opn o O → opn (pu o i v) O
  | [], _, _ => trivial
  | x :: O, h, ⟨h1, h2⟩ => by
    rw [List.length_cons] at h
    exact ⟨by rw [pu_ne _ _ (by omega)]; exact h1, opn_up (by omega) h2⟩
def pst (key : Nat) (q : Nat → Nat) (R : Nat → Int32) (o : Nat → Nat) (Rw : Sps) (O : List Nat) : Prop := q 9 = Rw.length ∧ q 11 = O.length ∧ lay key R Rw ∧ opn o O
def sgs (O : List Nat) : Prop := ∀ x, x ∈ O → x ≤ 255
theorem clD_len (lv : Nat) : ∀ (O : List Nat) (R : Sps), (clD lv O R).1.length + (clD lv O R).2.length = O.length + R.length
  | [], R => rfl
  | x :: O, R => by
    unfold clD
    split
    · rw [clD_len lv O]
      simp
      omega
    · rfl
theorem clD_sub (lv : Nat) : ∀ (O : List Nat) (R : Sps) (x : Nat), x ∈ (clD lv O R).1 → x ∈ O
  | [], R, x, h => h
  | y :: O, R, x, h => by
    unfold clD at h
    split at h
    · exact List.mem_cons_of_mem _ (clD_sub lv O _ x h)
    · exact h
theorem clN_len : ∀ (O : List Nat) (E : Nat → Nat) (R : Sps), (clN O E R).2.2.length + (clN O E R).2.1.length = O.length + R.length
  | [], E, R => rfl
  | x :: O, E, R => by
    unfold clN
    split
    · rw [clN_len O]
      simp
      omega
    · rfl
theorem clN_sub : ∀ (O : List Nat) (E : Nat → Nat) (R : Sps) (x : Nat), x ∈ (clN O E R).2.2 → x ∈ O
  | [], E, R, x, h => h
  | y :: O, E, R, x, h => by
    unfold clN at h
    split at h
    · exact List.mem_cons_of_mem _ (clN_sub O _ _ x h)
    · exact h
