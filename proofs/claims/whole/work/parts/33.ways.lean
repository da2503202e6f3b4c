-- WAYS: the reference's search, as it does it
theorem nI_or (a b : Nat) : nI a ||| nI b = nI (a ||| b) := by
  apply Int32.toBitVec_inj.mp
  show BitVec.ofNat 32 a ||| BitVec.ofNat 32 b = BitVec.ofNat 32 (a ||| b)
  apply BitVec.eq_of_getLsbD_eq
  intro i hi
  simp [BitVec.getLsbD_or, BitVec.getLsbD_ofNat, Nat.testBit_or, hi]
set_option maxRecDepth 100000 in
theorem bit_t : ∀ b, b < 256 → ∀ f, f < 8 → (nI b >>> (nI f &&& 31)) &&& nI 1 = nI (b / 2 ^ f % 2) := by decide +kernel
def byN (s : Nat) : Nat := if s = 0 then 81 else if s = 1 then 9 else 1
def lat (K : Nat) : Nat := K / 81 + K / 9 % 9 + K % 9
/-- a regret worn n times -/
def wnP (p : Nat → Nat) (kd sort r : Nat) : Nat → Nat
  | 0 => r
  | n + 1 => wornP p kd (wnP p kd sort r n) sort
theorem wnP_le (p : Nat → Nat) {kd sort r : Nat} (h : r ≤ 99) : ∀ n, wnP p kd sort r n ≤ 99
  | 0 => h
  | n + 1 => wornP_le p (wnP_le p h n)
def wtP (p : Nat → Nat) (k j : Nat) : Nat := wnP p (p (10 + 5 * k + 0)) (j / 9) (p (10 + 5 * k + (2 + j / 9))) (j % 9)
def mayB (p : Nat → Nat) (k : Nat) (B : Nat → Nat) (K l : Nat) : Prop := p (50 + 5 * l + 4) = 0 ∧ B K / 2 ^ p (50 + 5 * l + 0) % 2 = 1 ∧ p (50 + 5 * l + 3) ≤ feelsN (p (10 + 5 * k + 0)) (wtP p k (9 * p (50 + 5 * l + 2) + K / byN (p (50 + 5 * l + 2)) % 9))
def pushB (p : Nat → Nat) (k : Nat) (B : Nat → Nat) (K l : Nat) : Nat → Nat :=
  if p (50 + 5 * l + 4) = 0 ∧ B K / 2 ^ p (50 + 5 * l + 0) % 2 = 1 ∧ p (50 + 5 * l + 3) ≤ feelsN (p (10 + 5 * k + 0)) (wtP p k (9 * p (50 + 5 * l + 2) + K / byN (p (50 + 5 * l + 2)) % 9)) then pu B (K + byN (p (50 + 5 * l + 2))) (B (K + byN (p (50 + 5 * l + 2))) ||| 2 ^ p (50 + 5 * l + 1)) else B
def rowB (p : Nat → Nat) (k : Nat) (B : Nat → Nat) (K : Nat) : Nat → Nat → Nat
  | 0 => B
  | l + 1 => pushB p k (rowB p k B K l) K l
def initB (p : Nat → Nat) (k : Nat) : Nat → Nat := fun K => if K = 0 then 2 ^ p (10 + 5 * k + 1) else 0
def roomB (p : Nat → Nat) (k : Nat) : Nat → Nat → Nat
  | 0 => initB p k
  | K + 1 => if 0 < roomB p k K K ∧ lat K < 8 then rowB p k (roomB p k K) K (p 8) else roomB p k K
theorem or_256 {a b : Nat} (ha : a < 256) (hb : b < 256) : a ||| b < 256 := Nat.or_lt_two_pow (n := 8) ha hb
theorem pow_256 {n : Nat} (h : n ≤ 7) : 2 ^ n < 256 := Nat.lt_of_le_of_lt (Nat.pow_le_pow_right (by decide) h) (by decide)
theorem pushB_lt {p : Nat → Nat} {k : Nat} {B : Nat → Nat} (hB : ∀ K, B K < 256) {K l : Nat} (ht : p (50 + 5 * l + 1) ≤ 7) : ∀ i, pushB p k B K l i < 256 := by
  intro i
  unfold pushB
  split
  · unfold pu
    split
    · exact or_256 (hB _) (pow_256 ht)
    · exact hB i
  · exact hB i
theorem rowB_lt {p : Nat → Nat} (hL : wfL p) {k : Nat} {B : Nat → Nat} (hB : ∀ K, B K < 256) {K : Nat} : ∀ l, l ≤ p 8 → ∀ i, rowB p k B K l i < 256
  | 0, _ => hB
  | l + 1, h => pushB_lt (rowB_lt hL hB l (by omega)) (hL.2 l (by omega)).2.1
theorem roomB_lt {p : Nat → Nat} (hL : wfL p) (hO : wfO p) {k : Nat} (hk : k < p 0) : ∀ K i, roomB p k K i < 256
  | 0, i => by
    unfold roomB initB
    split
    · exact pow_256 (hO.2 k hk).2.1
    · decide
  | K + 1, i => by
    unfold roomB
    split
    · exact rowB_lt hL (roomB_lt hL hO hk K) _ (Nat.le_refl _) i
    · exact roomB_lt hL hO hk K i
theorem pu_or0 (B : Nat → Nat) (K : Nat) : pu B K (B K ||| 0) = B := by rw [Nat.or_zero, pu_id]
