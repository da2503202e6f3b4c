-- CLASS ROOT: the object's own cells
def rR (k : Nat) : Nat := match k with
  | 0 => 17 | 1 => 48 | 2 => 79 | 4 => 110 | 5 => 118 | 6 => 122 | 8 => 123 | 9 => 124 | 10 => 125 | 12 => 126 | _ => 0
def sC (a : Nat) : Nat := match a with
  | 110 => 7 | 111 => 100 | 112 => 100 | 113 => 107 | 114 => 100 | 115 => 100 | 116 => 100 | 117 => 100 | 118 => 1 | 120 => 100 | 121 => 100 | 122 => 101 | 123 => 105 | 124 => 106 | 125 => 100 | 126 => 100 | _ => 0
def sL (a : Nat) : Nat := match a with
  | 111 => 8 | 112 => 729 | 113 => 3 | 114 => 9 | 115 => 9 | 116 => 9 | 117 => 3 | 120 => 96 | 121 => 96 | 122 => 96 | 123 => 4 | 124 => 5 | 125 => 60 | 126 => 8 | _ => 0
def wR (k : Nat) : Nat := match k with
  | 0 => 111 | 1 => 112 | 2 => 113 | 3 => 117 | _ => 0
def kR (X : zX) : Prop := (kT X 17 ∧ kT X 48 ∧ kT X 79) ∧ xc X 16 = 8 ∧ (∀ k, 0 < rR k → xR X 16 k = some (rR k)) ∧ (∀ a, 0 < sC a → xc X a = sC a ∧ xl X a = sL a) ∧ (∀ k, 0 < wR k → xR X 110 k = some (wR k)) ∧ (∀ i, i < 3 → xR X 113 i = some (114 + i)) ∧ (xR X 118 8 = some 120 ∧ xR X 118 10 = some 121) ∧
  (∀ i, i < 4 → xR X 123 i = some (127 + 2 * i) ∧ isS X (127 + 2 * i)) ∧ (∀ i, i < 5 → xR X 124 i = some (135 + 5 * i) ∧ xc X (135 + 5 * i) = 4 ∧ xR X (135 + 5 * i) 1 = some (136 + 5 * i) ∧ xR X (135 + 5 * i) 2 = some (138 + 5 * i) ∧ isP X (136 + 5 * i) ∧ isS X (138 + 5 * i)) ∧ 181 ≤ xz X
theorem kR.hi {X : zX} (h : kR X) {a : Nat} (ha : a < 181) : a < xz X := Nat.lt_of_lt_of_le ha h.2.2.2.2.2.2.2.2.2
theorem kR.c {X : zX} (h : kR X) : xc X 16 = 8 := h.2.1
theorem kR.f {X : zX} (h : kR X) {k b : Nat} (hb : rR k = b) (h0 : 0 < b) : xR X 16 k = some b := by
  subst hb
  exact h.2.2.1 k h0
theorem kR.a {X : zX} (h : kR X) {a c L : Nat} (hc : sC a = c) (h0 : 0 < c) (hL : sL a = L) : xc X a = c ∧ xl X a = L := by
  subst hc; subst hL
  exact h.2.2.2.1 a h0
theorem kR.w {X : zX} (h : kR X) {k b : Nat} (hb : wR k = b) (h0 : 0 < b) : xR X 110 k = some b := by
  subst hb
  exact h.2.2.2.2.1 k h0
theorem kR.fe {X : zX} (h : kR X) {i : Nat} (hi : i < 3) : xR X 113 i = some (114 + i) := h.2.2.2.2.2.1 i hi
theorem kR.p8 {X : zX} (h : kR X) : xR X 118 8 = some 120 := h.2.2.2.2.2.2.1.1
theorem kR.p10 {X : zX} (h : kR X) : xR X 118 10 = some 121 := h.2.2.2.2.2.2.1.2
theorem kR.she {X : zX} (h : kR X) {i : Nat} (hi : i < 4) : xR X 123 i = some (127 + 2 * i) := (h.2.2.2.2.2.2.2.1 i hi).1
theorem kR.sh {X : zX} (h : kR X) {i : Nat} (hi : i < 4) : isS X (127 + 2 * i) := (h.2.2.2.2.2.2.2.1 i hi).2
theorem kR.sle {X : zX} (h : kR X) {i : Nat} (hi : i < 5) : xR X 124 i = some (135 + 5 * i) := (h.2.2.2.2.2.2.2.2.1 i hi).1
theorem kR.slc {X : zX} (h : kR X) {i : Nat} (hi : i < 5) : xc X (135 + 5 * i) = 4 := (h.2.2.2.2.2.2.2.2.1 i hi).2.1
theorem kR.sl1 {X : zX} (h : kR X) {i : Nat} (hi : i < 5) : xR X (135 + 5 * i) 1 = some (136 + 5 * i) := (h.2.2.2.2.2.2.2.2.1 i hi).2.2.1
theorem kR.sl2 {X : zX} (h : kR X) {i : Nat} (hi : i < 5) : xR X (135 + 5 * i) 2 = some (138 + 5 * i) := (h.2.2.2.2.2.2.2.2.1 i hi).2.2.2.1
theorem kR.slp {X : zX} (h : kR X) {i : Nat} (hi : i < 5) : isP X (136 + 5 * i) := (h.2.2.2.2.2.2.2.2.1 i hi).2.2.2.2.1
theorem kR.sls {X : zX} (h : kR X) {i : Nat} (hi : i < 5) : isS X (138 + 5 * i) := (h.2.2.2.2.2.2.2.2.1 i hi).2.2.2.2.2
/-- what is only scratch in the class: ways, parser, hits, the town of thoughts, stacks -/
def scz (a : Nat) : Prop := (79 ≤ a ∧ a < 118) ∨ a = 118 ∨ a = 120 ∨ a = 121 ∨ a = 126 ∨ (181 ≤ a ∧ (a - 181) % 3 = 2)
def scx (M M1 : zMem) : Prop := ∀ a, ¬ scz a → M1 a = M a
theorem scx.rf (M : zMem) : scx M M := fun _ _ => rfl
theorem scx.tr {M M1 M2 : zMem} (h1 : scx M M1) (h2 : scx M1 M2) : scx M M2 := fun a h => (h2 a h).trans (h1 a h)
theorem scT.x {M M1 : zMem} (h : scT M M1) : scx M M1 := fun a ha => h a (fun z => ha (by unfold stk at z; unfold scz; omega))
theorem scx.s (M : zMem) {a : Nat} (f : Nat → Int32) (h : scz a) : scx M (zs M a f) := fun b hb => zs_ne M f (fun z => hb (by rw [z]; exact h))
