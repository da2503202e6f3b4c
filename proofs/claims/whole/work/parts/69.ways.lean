-- CLASS WAYS: words
theorem kR.fa {X : zX} (h : kR X) {i : Nat} (hi : i < 3) : xc X (114 + i) = 100 ∧ xl X (114 + i) = 9 := by
  have : i = 0 ∨ i = 1 ∨ i = 2 := by omega
  rcases this with rfl | rfl | rfl
  · exact h.a (a := 114) rfl (by decide) rfl
  · exact h.a (a := 115) rfl (by decide) rfl
  · exact h.a (a := 116) rfl (by decide) rfl
theorem gOK.by {G : zG} (h : gOK G) {s : Nat} (hs : s < 3) : zoX G 1 s = nI (byN s) := by
  have : s = 0 ∨ s = 1 ∨ s = 2 := by omega
  rcases this with rfl | rfl | rfl
  · exact h.2.2.2.1
  · exact h.2.2.2.2.1
  · exact h.2.2.2.2.2
def fwV (w : Nat) : Int32 := if w = 9 then cNONE else nI w
theorem fwV_9 {w : Nat} (h : w ≤ 9) : (fwV w).toInt = -1000000005 ↔ w = 9 := by
  unfold fwV
  split
  · rename_i e
    exact ⟨fun _ => e, fun _ => by decide⟩
  · rename_i e
    rw [i_N (by omega)]
    omega
/-- only the feelings and the stacks are otherwise -/
def wsc (M M1 : zMem) : Prop := ∀ a, ¬ (114 ≤ a ∧ a ≤ 116) → ¬ stk a → M1 a = M a
theorem wsc.rf (M : zMem) : wsc M M := fun _ _ _ => rfl
theorem wsc.tr {M M1 M2 : zMem} (h1 : wsc M M1) (h2 : wsc M1 M2) : wsc M M2 := fun a ha hb => (h2 a ha hb).trans (h1 a ha hb)
theorem wsc.s (M : zMem) {a : Nat} (f : Nat → Int32) (h : 114 ≤ a ∧ a ≤ 116) : wsc M (zs M a f) := fun b hb _ => zs_ne M f (fun z => hb (by rw [z]; exact h))
theorem scT.ws {M M1 : zMem} (h : scT M M1) : wsc M M1 := fun a _ hb => h a hb
theorem wsc.x {M M1 : zMem} (h : wsc M M1) : scx M M1 := fun a ha => h a (fun z => ha (by unfold scz; omega)) (fun z => ha (by unfold stk at z; unfold scz; omega))
/-- the feelings lie there -/
def feM (M : zMem) (c e : Nat → Nat) (k : Nat) : Prop := ∀ s n, s < 3 → n < 9 → M (114 + s) n = nI (feelsN (c (10 + 5 * k + 0)) (wtP e k (9 * s + n)))
/-- rooms and fewest lie there -/
def wyM (M : zMem) (B W : Nat → Nat) : Prop := (∀ K, K < 729 → M 112 K = nI (B K)) ∧ ∀ r, r < 8 → M 111 r = fwV (W r)
/-- e is the town as the search sees one of it: itself, or with that one's regrets halved -/
def seeE (c e : Nat → Nat) (k pd : Nat) : Prop := (∀ s, s ≤ 2 → e (10 + 5 * k + (2 + s)) = if pd = 0 then c (10 + 5 * k + (2 + s)) else c (10 + 5 * k + (2 + s)) / 2) ∧ e (10 + 5 * k + 0) = c (10 + 5 * k + 0) ∧ e (10 + 5 * k + 1) = c (10 + 5 * k + 1) ∧ (∀ i, i < 10 ∨ 50 ≤ i → e i = c i) ∧ ∀ kd r s, wornP e kd r s = wornP c kd r s
theorem seeE_0 (c : Nat → Nat) (k : Nat) : seeE c c k 0 := ⟨fun s _ => by rw [if_pos rfl], rfl, rfl, fun _ _ => rfl, fun _ _ _ => rfl⟩
theorem seeE_1 {c : Nat → Nat} {k : Nat} (hk : k < 8) : seeE c (halvesP c k) k 1 := by
  have hi : ∀ i, i < 10 ∨ 50 ≤ i → halvesP c k i = c i := fun i hi => by unfold halvesP; rw [pu_ne _ _ (by omega), pu_ne _ _ (by omega), pu_ne _ _ (by omega)]
  refine ⟨fun s hs => ?_, by unfold halvesP; rw [pu_ne _ _ (by omega), pu_ne _ _ (by omega), pu_ne _ _ (by omega)], by unfold halvesP; rw [pu_ne _ _ (by omega), pu_ne _ _ (by omega), pu_ne _ _ (by omega)], hi, fun kd r s => ?_⟩
  · rw [if_neg (by decide)]
    unfold halvesP
    have : s = 0 ∨ s = 1 ∨ s = 2 := by omega
    rcases this with rfl | rfl | rfl
    · rw [pu_ne _ _ (by omega), pu_ne _ _ (by omega), pu_eq]
    · rw [pu_ne _ _ (by omega), pu_eq]
    · rw [pu_eq]
  · unfold wornP plainP
    rw [hi 1 (by omega), hi 2 (by omega), cnt_same (p := c) (p' := halvesP c k) (fun i h => hi i (by omega))]
    cases cnt c 0 (c 1) with
    | none => rfl
    | some t =>
      dsimp only
      rw [evT_same (p := c) (p' := halvesP c k) (fun i h => hi i (by omega))]
