-- SPEC: a town as a row of numbers, in the reference's order
def nIf (p : Nat → Nat) : Nat → Int32 := fun i => nI (p i)
def pu (p : Nat → Nat) (i v : Nat) : Nat → Nat := fun j => if j = i then v else p j
def mm (M : zMem) (p : Nat → Nat) : zMem := zs M 161 (nIf p)
theorem pu_eq (p : Nat → Nat) (i v : Nat) : pu p i v i = v := if_pos rfl
theorem pu_ne (p : Nat → Nat) {i j : Nat} (v : Nat) (h : j ≠ i) : pu p i v j = p j := if_neg h
theorem pu_pu (p : Nat → Nat) (i v w : Nat) : pu (pu p i v) i w = pu p i w := by
  funext j
  simp only [pu]
  split <;> rfl
theorem pu_id (p : Nat → Nat) (i : Nat) : pu p i (p i) = p := by
  funext j
  simp only [pu]
  split
  · rename_i h; rw [h]
  · rfl
theorem mm_w (M : zMem) (p : Nat → Nat) (i v : Nat) : zs (mm M p) 161 (upd ((mm M p) 161) i (nI v)) = mm M (pu p i v) := by
  unfold mm
  rw [zs_eq, zs_zs]
  congr 1
  funext j
  simp only [upd, nIf, pu]
  split <;> rfl
theorem mm_ne (M : zMem) (p : Nat → Nat) {a : Nat} (h : a ≠ 161) : mm M p a = M a := zs_ne M _ h
theorem zs_comm (M : zMem) {a b : Nat} (f g : Nat → Int32) (h : a ≠ b) : zs (zs M a f) b g = zs (zs M b g) a f := by
  funext q
  simp only [zs]
  by_cases h1 : q = a
  · subst h1; simp [h]
  · by_cases h2 : q = b
    · subst h2; simp [Ne.symm h]
    · simp [h1, h2]
theorem mm_wo {M M2 : zMem} {p : Nat → Nat} {a i : Nat} {x : Int32} (h : a ≠ 161) (hM : zs M a (upd (M a) i x) = M2) : zs (mm M p) a (upd ((mm M p) a) i x) = mm M2 p := by
  rw [mm_ne M p h, ← hM]
  unfold mm
  rw [zs_comm _ _ _ (Ne.symm h)]
theorem mm_mm (M : zMem) (p q : Nat → Nat) : mm (mm M p) q = mm M q := zs_zs _ _ _ _
def tN (x : Int32) : Nat := x.toBitVec.toNat
theorem tN_lt (x : Int32) : tN x < 4294967296 := x.toBitVec.isLt
theorem nI_tN (x : Int32) : nI (tN x) = x := by
  apply Int32.toBitVec_inj.mp
  apply BitVec.eq_of_toNat_eq
  have h := tN_lt x
  show (BitVec.ofNat 32 (tN x)).toNat = _
  rw [BitVec.toNat_ofNat]
  exact Nat.mod_eq_of_lt h
theorem tN_nI {n : Nat} (h : n < 4294967296) : tN (nI n) = n := pk_tn h
theorem kM_lt {X : zX} (hk : kM X) : 160 < xz X := by have := hk.1; omega
abbrev cBAD : Int32 := -1000000001
abbrev cNO : Int32 := -1000000002
abbrev cFULL : Int32 := -1000000003
abbrev cNONE : Int32 := -1000000005
abbrev cNOTHING : Int32 := -1000000011
abbrev cKIND : Int32 := -1000000012
abbrev cINDEX : Int32 := -1000000013
abbrev cSIZE : Int32 := -1000000014
def feelsN (k r : Nat) : Nat := if k = 1 then r + 9 else if k = 2 then r / 2 else if k = 3 then 2 * (r + 9) else if k = 4 then r / 2 + 3 else if k = 5 then 0 else r
def regsP (p : Nat → Nat) (k : Nat) : Nat := p (10 + 5 * k + 2) + p (10 + 5 * k + 3) + p (10 + 5 * k + 4)
def worthN (k v : Nat) : Int32 := if k = 1 then nI (v + 4) else if k = 2 then nI 300 - nI v else if k = 3 then nI (2 * (v + 4)) else if k = 4 then nI 295 - nI v else if k = 5 then nI 6 else nI v
def isOfN (own kind : Nat) : Prop := own = kind ∨ kind = 0 ∨ (kind = 1 ∧ own = 3) ∨ (kind = 2 ∧ own = 4)
/-- the draw: what z becomes, what it gives -/
def drawZ (p : Nat → Nat) : Nat → Nat := pu p 9 (tN (nI (p 9) * 1103515245 + nI 12345))
def drawV (p : Nat → Nat) : Nat := tN (nI (p 9) * 1103515245 + nI 12345) / 256
def comesP (p : Nat → Nat) (kd rm a b c : Nat) : Nat → Nat := pu (pu (pu (pu (pu (pu p 0 (p 0 + 1)) (10 + 5 * p 0 + 0) kd) (10 + 5 * p 0 + 1) rm) (10 + 5 * p 0 + 2) a) (10 + 5 * p 0 + 3) b) (10 + 5 * p 0 + 4) c
def okOne (p : Nat → Nat) (x : Int32) : Prop := 0 ≤ x.toInt ∧ x.toInt ≤ (p 0 : Int) - 1
def okLock (p : Nat → Nat) (x : Int32) : Prop := 0 ≤ x.toInt ∧ x.toInt ≤ (p 8 : Int) - 1
theorem zushr8 {n : Nat} (h : n < 4294967296) : zushr (nI n) (nI 8) = nI (n / 256) := pk_ushrN h (nI 8) 8 (by decide)
theorem int32_eq {x y : Int32} (h : x.toInt = y.toInt) : x = y := Int32.toInt_inj.mp h
theorem l_toInt (x : Int32) : x.toInt64.toInt = x.toInt := Int32.toInt_toInt64 x
def wfO (p : Nat → Nat) : Prop := p 0 ≤ 8 ∧ ∀ k, k < p 0 → p (10 + 5 * k + 0) ≤ 5 ∧ p (10 + 5 * k + 1) ≤ 7 ∧ p (10 + 5 * k + 2) ≤ 99 ∧ p (10 + 5 * k + 3) ≤ 99 ∧ p (10 + 5 * k + 4) ≤ 99
def wfL (p : Nat → Nat) : Prop := p 8 ≤ 10 ∧ ∀ k, k < p 8 → p (50 + 5 * k + 0) ≤ 7 ∧ p (50 + 5 * k + 1) ≤ 7 ∧ p (50 + 5 * k + 2) ≤ 2 ∧ p (50 + 5 * k + 3) ≤ 99 ∧ p (50 + 5 * k + 4) ≤ 1
theorem wfO.reg {p : Nat → Nat} (h : wfO p) {k j : Nat} (hk : k < p 0) (hj : j ≤ 2) : p (10 + 5 * k + (2 + j)) ≤ 99 := by
  obtain ⟨_, _, h2, h3, h4⟩ := h.2 k hk
  have : j = 0 ∨ j = 1 ∨ j = 2 := by omega
  rcases this with rfl | rfl | rfl
  · exact h2
  · exact h3
  · exact h4
/-- a set of numbers under n, as bits -/
def setOf (P : Nat → Prop) [DecidablePred P] : Nat → Int32
  | 0 => nI 0
  | k + 1 => setOf P k ||| (if P k then nI 1 <<< (nI k &&& 31) else nI 0)
theorem or_0 (x : Int32) : x ||| nI 0 = x := by
  apply Int32.toBitVec_inj.mp
  show x.toBitVec ||| 0#32 = x.toBitVec
  simp
/-- whether a lock opens for one -/
def opensP (p : Nat → Nat) (l k : Nat) : Prop := p (50 + 5 * l + 4) = 0 ∧ p (50 + 5 * l + 3) ≤ feelsN (p (10 + 5 * k + 0)) (p (10 + 5 * k + (2 + p (50 + 5 * l + 2))))
