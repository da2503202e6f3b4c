-- CLASS: its cells by addresses; a town's numbers c in the reference's order
section ZNC
variable {G : zG} {mi : zM} {rm : Room} {Q : List Frame → Array Value → State → State → Prop} {pc n : Nat} {lv : List (Option Value)} {st : List Value} {M : zMem} {X : zX} {cn : Nat × Nat}
/-- a call of a nest mate's -/
def zCN (own : String) (idx : Nat) (mj : zM) (k : Nat) : Prop := Cond.methodLinkNest own idx mj.1 "RegretLocks" ∈ zNest ∧ zCode mj ∈ zT ∧ Cond.initialized mj.1.cls ∈ zT ∧ (mj.1.cls ≠ "java/lang/invoke/MethodHandle" ∧ mj.1.cls ≠ "java/lang/invoke/VarHandle" ∧ (parseMethodDescriptor mj.1.desc).map (fun d => d.parameters.length) = some k)
theorem zNw {s : State} (h : zW G s) {w : Cond} (hw : w ∈ zNest) : va_Nw w s := h.2.2.2.2.2.1 w hw
theorem j_callSN {P : Option Value → zMem → zX → Prop} {d d' C N C' N' i k : Nat} {mj : zM} {as stk : List Value} (hd : decode (zc mi) pc = .ok (.invokestatic i, 3)) (hn : pc + 3 = n) (hw : zCN mi.1.cls i mj k ∧ Cond.static mj.1 ∈ zT) (hM : zCall G mj d' as P M X C' N') (hr : d' + 1 ≤ d) (hmx : mj.2.2.1 ≤ 21) (hk : as.length = k) (hst : stk = as.reverse ++ st) (hcat : (st.map fun v => v.category).sum ≤ 8) (h1 : cn.1 + C' ≤ C) (h2 : cn.2 + N' ≤ N)
    (kk : ∀ (v : Option Value) (M1 : zMem) (X1 : zX), P v M1 X1 → zAt G mi (zRm d C N) Q n lv (v.toList ++ st) M1 X1 (cn.1 + C', cn.2 + N')) : zAt G mi (zRm d C N) Q pc lv stk M X cn := by
  subst hn; subst hst
  intro p e s m args below meth c0 H locs ls E hP hS hl
  obtain ⟨⟨w1, w2, w3, w4⟩, w5⟩ := hw
  have hts := E.2.2.2.2.2.2.2.1
  refine zAfter E hS hl (va_runSN (As := as.map (zv G)) (rest := st.map (zv G)) (nL := mi.2.2.1) (n := k) (bytes := mj.2.1) (maxL := mj.2.2.1) (ret := mj.2.2.2) ⟨E.1, E.2.1, E.2.2.1, E.2.2.2.2.2.2.1, hts⟩ hM ⟨va_cnB k hts (zGood w2) rfl rfl rfl (zNw E.2.2.2.2.2.2.2.2 w1) (hts _ w3) w4 ⟨hr, ?_⟩, hts _ w5, trivial⟩ ⟨zBlind, zPc E.2.2.2.2.2.2.2.2 hP hS⟩ rfl (by rw [List.length_map]; exact hk) hl.1 (by simp) (by rw [zcat]; simpa [JFrame.monitorRoom] using hcat) hd ⟨h1, h2⟩) kk
  show 8 + (mj.2.2.1 + 11) + 40 * d' ≤ 40 * d
  omega
theorem j_callIN {P : Option Value → zMem → zX → Prop} {d d' C N C' N' i k a : Nat} {mj : zM} {as stk : List Value} (hd : decode (zc mi) pc = .ok (.invokespecial i, 3)) (hn : pc + 3 = n) (hw : zCN mi.1.cls i mj k ∧ mj.1.name = "<init>" ∧ Cond.instanceMethod mj.1 ∈ zT ∧ mj.2.2.2 = none) (hM : zCall G mj d' (.ref a :: as) P M X C' N') (hr : d' + 1 ≤ d) (hmx : mj.2.2.1 ≤ 21) (hk : as.length = k) (hst : stk = as.reverse ++ .ref a :: st) (hcat : (st.map fun v => v.category).sum ≤ 8) (h1 : cn.1 + C' ≤ C) (h2 : cn.2 + N' ≤ N)
    (kk : ∀ (v : Option Value) (M1 : zMem) (X1 : zX), P v M1 X1 → zAt G mi (zRm d C N) Q n lv (v.toList ++ st) M1 X1 (cn.1 + C', cn.2 + N')) : zAt G mi (zRm d C N) Q pc lv stk M X cn := by
  subst hn; subst hst
  intro p e s m args below meth c0 H locs ls E hP hS hl
  obtain ⟨⟨w1, w2, w3, w4⟩, w5, w6, w7⟩ := hw
  obtain ⟨yj, bj, lj, rj⟩ := mj
  dsimp only at w7
  subst w7
  have hts := E.2.2.2.2.2.2.2.1
  have hr := va_runIN (l := zl G) (e := e) (below := below) (meth := meth) (locs := locs) (cells := cn.1) (slots := cn.2) (H := H) (R := zRm d C N) (g := F0 m pc ls ((as.reverse ++ .ref a :: st).map (zv G))) (As := as.map (zv G)) (b := zra G a) (rest := st.map (zv G)) (nL := mi.2.2.1) (n := k) (bytes := bj) (maxL := lj) ⟨E.1, E.2.1, E.2.2.1, E.2.2.2.2.2.2.1, hts⟩ hM ⟨va_cnB k hts (zGood w2) rfl rfl rfl (zNw E.2.2.2.2.2.2.2.2 w1) (hts _ w3) w4 ⟨hr, ?_⟩, w5, hts _ w6⟩ ⟨zBlind, zPc (as := .ref a :: as) E.2.2.2.2.2.2.2.2 hP hS⟩ rfl (by rw [List.length_map]; exact hk) hl.1 (by simp [zv]) (by rw [zcat]; simpa [JFrame.monitorRoom] using hcat) hd ⟨h1, h2⟩
  · exact zAfter E hS hl hr kk
  · show 8 + (lj + 11) + 40 * d' ≤ 40 * d
    dsimp only at hmx
    omega
theorem j_cSN {d d' C N i k : Nat} {mj : zM} {as stk : List Value} {r : Int32} {M1 : zMem} {X1 : zX} (hd : decode (zc mi) pc = .ok (.invokestatic i, 3)) (hn : pc + 3 = n) (hw : zCN mi.1.cls i mj k ∧ Cond.static mj.1 ∈ zT) (hM : zCall G mj d' as (zI r M1 X1) M X 0 0) (hr : d' + 1 ≤ d) (hmx : mj.2.2.1 ≤ 21) (hk : as.length = k) (hst : stk = as.reverse ++ st) (hcat : (st.map fun v => v.category).sum ≤ 8) (h1 : cn.1 ≤ C) (h2 : cn.2 ≤ N)
    (kk : zAt G mi (zRm d C N) Q n lv (.int r :: st) M1 X1 cn) : zAt G mi (zRm d C N) Q pc lv stk M X cn :=
  j_callSN hd hn hw hM hr hmx hk hst hcat h1 h2 (fun v M2 X2 h => by obtain ⟨rfl, rfl, rfl⟩ := h; exact kk)
end ZNC
/-- a town's fields -/
def tF (k : Nat) : Option Nat := match k with
  | 1 => some 0 | 3 => some 8 | 5 => some 1 | 7 => some 6 | 8 => some 7 | 9 => some 3 | 10 => some 4 | 11 => some 5 | 12 => some 2 | 13 => some 9 | _ => none
/-- which number of the town at B a place of a cell holds -/
def ix (B a k : Nat) : Option Nat :=
  if a = B then tF k
  else if B + 5 ≤ a ∧ a < B + 21 then
    (if (a - (B + 5)) % 2 = 0 then (if k < 2 then some (10 + 5 * ((a - (B + 5)) / 2) + k) else none)
    else (if k < 3 then some (10 + 5 * ((a - (B + 5)) / 2) + (2 + k)) else none))
  else if B + 21 ≤ a ∧ a < B + 31 then (if k < 5 then some (50 + 5 * (a - (B + 21)) + k) else none)
  else none
def cm (M : zMem) (B : Nat) (c : Nat → Nat) : zMem := fun a k => match ix B a k with
  | some i => nI (c i)
  | none => M a k
theorem cm_r {M : zMem} {B : Nat} {c : Nat → Nat} {a k i : Nat} (h : ix B a k = some i) : cm M B c a k = nI (c i) := by
  unfold cm
  rw [h]
theorem cm_k {M : zMem} {B : Nat} {c : Nat → Nat} {a k : Nat} (h : ix B a k = none) : cm M B c a k = M a k := by
  unfold cm
  rw [h]
theorem cm_o {M : zMem} {B : Nat} {c : Nat → Nat} {a : Nat} (h : ∀ k, ix B a k = none) : cm M B c a = M a := by
  funext k
  exact cm_k (h k)
theorem tF_some {k i : Nat} (h : tF k = some i) : (k = 1 ∧ i = 0) ∨ (k = 3 ∧ i = 8) ∨ (k = 5 ∧ i = 1) ∨ (k = 7 ∧ i = 6) ∨ (k = 8 ∧ i = 7) ∨ (k = 9 ∧ i = 3) ∨ (k = 10 ∧ i = 4) ∨ (k = 11 ∧ i = 5) ∨ (k = 12 ∧ i = 2) ∨ (k = 13 ∧ i = 9) := by
  unfold tF at h
  split at h <;> first | (cases h; omega) | cases h
theorem ix_some {B a k i : Nat} (h : ix B a k = some i) : (a = B ∧ tF k = some i ∧ i < 10) ∨ (∃ q, q < 8 ∧ a = B + 5 + 2 * q ∧ k < 2 ∧ i = 10 + 5 * q + k) ∨ (∃ q, q < 8 ∧ a = B + 6 + 2 * q ∧ k < 3 ∧ i = 10 + 5 * q + (2 + k)) ∨ (∃ q, q < 10 ∧ a = B + 21 + q ∧ k < 5 ∧ i = 50 + 5 * q + k) := by
  unfold ix at h
  split at h
  · rename_i e
    have := tF_some h
    exact .inl ⟨e, h, by omega⟩
  · split at h
    · split at h
      · split at h
        · cases h
          exact .inr (.inl ⟨(a - (B + 5)) / 2, by omega, by omega, by omega, rfl⟩)
        · cases h
      · split at h
        · cases h
          exact .inr (.inr (.inl ⟨(a - (B + 5)) / 2, by omega, by omega, by omega, rfl⟩))
        · cases h
    · split at h
      · split at h
        · cases h
          exact .inr (.inr (.inr ⟨a - (B + 21), by omega, by omega, by omega, rfl⟩))
        · cases h
      · cases h
theorem ix_inj {B a k a' k' i : Nat} (h : ix B a k = some i) (h' : ix B a' k' = some i) : a = a' ∧ k = k' := by
  rcases ix_some h with ⟨e1, e2, e3⟩ | ⟨q, e1, e2, e3, e4⟩ | ⟨q, e1, e2, e3, e4⟩ | ⟨q, e1, e2, e3, e4⟩ <;> rcases ix_some h' with ⟨f1, f2, f3⟩ | ⟨r, f1, f2, f3, f4⟩ | ⟨r, f1, f2, f3, f4⟩ | ⟨r, f1, f2, f3, f4⟩ <;> try omega
  have := tF_some e2
  have := tF_some f2
  omega
theorem ix_t {B k i : Nat} (h : tF k = some i) : ix B B k = some i := by
  unfold ix
  rw [if_pos rfl, h]
theorem ix_p {B k j i : Nat} (hk : k < 8) (hj : j < 2) (hi : 10 + 5 * k + j = i) : ix B (B + 5 + 2 * k) j = some i := by
  unfold ix
  rw [if_neg (by omega), if_pos (by omega), if_pos (by omega), if_pos hj, show (B + 5 + 2 * k - (B + 5)) / 2 = k by omega, hi]
theorem ix_r {B k j i : Nat} (hk : k < 8) (hj : j < 3) (hi : 10 + 5 * k + (2 + j) = i) : ix B (B + 6 + 2 * k) j = some i := by
  unfold ix
  rw [if_neg (by omega), if_pos (by omega), if_neg (by omega), if_pos hj, show (B + 6 + 2 * k - (B + 5)) / 2 = k by omega, hi]
theorem ix_l {B k j i : Nat} (hk : k < 10) (hj : j < 5) (hi : 50 + 5 * k + j = i) : ix B (B + 21 + k) j = some i := by
  unfold ix
  rw [if_neg (by omega), if_neg (by omega), if_pos (by omega), if_pos hj, show B + 21 + k - (B + 21) = k by omega, hi]
theorem ix_n {B a : Nat} (h : a < B ∨ B + 31 ≤ a ∨ (B < a ∧ a < B + 5)) (k : Nat) : ix B a k = none := by
  unfold ix
  rw [if_neg (by omega), if_neg (by omega), if_neg (by omega)]
theorem cm_w {M : zMem} {B : Nat} {c : Nat → Nat} {a k i : Nat} (h : ix B a k = some i) (v : Nat) : zs (cm M B c) a (upd (cm M B c a) k (nI v)) = cm M B (pu c i v) := by
  funext b j
  unfold zs
  split
  · rename_i e
    subst e
    unfold upd
    split
    · rename_i e2
      subst e2
      rw [cm_r h, pu_eq]
    · rename_i e2
      cases hj : ix B b j with
      | none => rw [cm_k hj, cm_k hj]
      | some i' =>
        rw [cm_r hj, cm_r hj, pu_ne _ _ (fun z => e2 (ix_inj hj (z ▸ h)).2)]
  · rename_i e
    cases hj : ix B b j with
    | none => rw [cm_k hj, cm_k hj]
    | some i' =>
      rw [cm_r hj, cm_r hj, pu_ne _ _ (fun z => e (ix_inj hj (z ▸ h)).1)]
theorem cm_wo {M : zMem} {B : Nat} {c : Nat → Nat} {a : Nat} (h : ∀ k, ix B a k = none) (f : Nat → Int32) : zs (cm M B c) a f = cm (zs M a f) B c := by
  funext b
  by_cases e : b = a
  · subst e
    rw [zs_eq, cm_o h, zs_eq]
  · rw [zs_ne _ _ e]
    funext j
    cases hj : ix B b j with
    | none => rw [cm_k hj, cm_k hj, zs_ne _ _ e]
    | some i => rw [cm_r hj, cm_r hj]
theorem cm_cm (M : zMem) (B : Nat) (c e : Nat → Nat) : cm (cm M B c) B e = cm M B e := by
  funext a k
  cases h : ix B a k with
  | none => rw [cm_k h, cm_k h, cm_k h]
  | some i => rw [cm_r h, cm_r h]
theorem ix_far {B B' a k : Nat} (hB : B + 31 ≤ B' ∨ B' + 31 ≤ B) {i : Nat} (h : ix B a k = some i) : ix B' a k = none := by
  refine ix_n ?_ k
  rcases ix_some h with ⟨e1, e2, e3⟩ | ⟨q, e1, e2, e3, e4⟩ | ⟨q, e1, e2, e3, e4⟩ | ⟨q, e1, e2, e3, e4⟩ <;> omega
theorem cm_comm (M : zMem) {B B' : Nat} (c e : Nat → Nat) (hB : B + 31 ≤ B' ∨ B' + 31 ≤ B) : cm (cm M B c) B' e = cm (cm M B' e) B c := by
  funext a k
  cases h : ix B a k with
  | none =>
    rw [cm_k (B := B) (a := a) (k := k) h]
    cases h' : ix B' a k with
    | none => rw [cm_k h', cm_k h', cm_k h]
    | some i => rw [cm_r h', cm_r h']
  | some i =>
    rw [cm_r h, cm_k (ix_far hB h), cm_r h]
/-- a person's cells: itself, then its row -/
def isP (X : zX) (a : Nat) : Prop := 16 ≤ a ∧ a + 1 < xz X ∧ xc X a = 2 ∧ xR X a 2 = some (a + 1) ∧ xc X (a + 1) = 100 ∧ xl X (a + 1) = 3
def isS (X : zX) (a : Nat) : Prop := 16 ≤ a ∧ a + 1 < xz X ∧ xc X a = 3 ∧ xR X a 2 = some (a + 1) ∧ xc X (a + 1) = 100 ∧ xl X (a + 1) = 24
/-- a town's cells -/
def kT (X : zX) (B : Nat) : Prop := 16 ≤ B ∧ B + 31 ≤ 160 ∧ 181 ≤ xz X ∧ xc X B = 6 ∧ xR X B 0 = some (B + 1) ∧ xR X B 2 = some (B + 2) ∧ xR X B 4 = some (B + 3) ∧ xR X B 6 = some (B + 4) ∧
  (xc X (B + 1) = 102 ∧ xl X (B + 1) = 8) ∧ (xc X (B + 2) = 103 ∧ xl X (B + 2) = 10) ∧ (xc X (B + 3) = 104 ∧ xl X (B + 3) = 14) ∧ (xc X (B + 4) = 104 ∧ xl X (B + 4) = 3) ∧
  (∀ k, k < 8 → xR X (B + 1) k = some (B + 5 + 2 * k) ∧ isP X (B + 5 + 2 * k)) ∧ ∀ k, k < 10 → xR X (B + 2) k = some (B + 21 + k) ∧ xc X (B + 21 + k) = 0
theorem kT.lo {X : zX} {B : Nat} (h : kT X B) : 16 ≤ B := h.1
theorem kT.hi {X : zX} {B : Nat} (h : kT X B) {a : Nat} (ha : a < B + 31) : a < xz X := by
  have h1 := h.2.1
  have h2 := h.2.2.1
  omega
theorem kT.c {X : zX} {B : Nat} (h : kT X B) : xc X B = 6 := h.2.2.2.1
theorem kT.r0 {X : zX} {B : Nat} (h : kT X B) : xR X B 0 = some (B + 1) := h.2.2.2.2.1
theorem kT.r2 {X : zX} {B : Nat} (h : kT X B) : xR X B 2 = some (B + 2) := h.2.2.2.2.2.1
theorem kT.r4 {X : zX} {B : Nat} (h : kT X B) : xR X B 4 = some (B + 3) := h.2.2.2.2.2.2.1
theorem kT.r6 {X : zX} {B : Nat} (h : kT X B) : xR X B 6 = some (B + 4) := h.2.2.2.2.2.2.2.1
theorem kT.a1 {X : zX} {B : Nat} (h : kT X B) : xc X (B + 1) = 102 ∧ xl X (B + 1) = 8 := h.2.2.2.2.2.2.2.2.1
theorem kT.a2 {X : zX} {B : Nat} (h : kT X B) : xc X (B + 2) = 103 ∧ xl X (B + 2) = 10 := h.2.2.2.2.2.2.2.2.2.1
theorem kT.a3 {X : zX} {B : Nat} (h : kT X B) : xc X (B + 3) = 104 ∧ xl X (B + 3) = 14 := h.2.2.2.2.2.2.2.2.2.2.1
theorem kT.a4 {X : zX} {B : Nat} (h : kT X B) : xc X (B + 4) = 104 ∧ xl X (B + 4) = 3 := h.2.2.2.2.2.2.2.2.2.2.2.1
theorem kT.e1 {X : zX} {B : Nat} (h : kT X B) {k : Nat} (hk : k < 8) : xR X (B + 1) k = some (B + 5 + 2 * k) := (h.2.2.2.2.2.2.2.2.2.2.2.2.1 k hk).1
theorem kT.p {X : zX} {B : Nat} (h : kT X B) {k : Nat} (hk : k < 8) : isP X (B + 5 + 2 * k) := (h.2.2.2.2.2.2.2.2.2.2.2.2.1 k hk).2
theorem kT.e2 {X : zX} {B : Nat} (h : kT X B) {k : Nat} (hk : k < 10) : xR X (B + 2) k = some (B + 21 + k) := (h.2.2.2.2.2.2.2.2.2.2.2.2.2 k hk).1
theorem kT.l {X : zX} {B : Nat} (h : kT X B) {k : Nat} (hk : k < 10) : xc X (B + 21 + k) = 0 := (h.2.2.2.2.2.2.2.2.2.2.2.2.2 k hk).2
theorem kT.pr {X : zX} {B : Nat} (h : kT X B) {k : Nat} (hk : k < 8) : xR X (B + 5 + 2 * k) 2 = some (B + 6 + 2 * k) := by
  have := (h.p hk).2.2.2.1
  rw [this]
  exact congrArg some (by omega)
theorem kT.pa {X : zX} {B : Nat} (h : kT X B) {k : Nat} (hk : k < 8) : xc X (B + 6 + 2 * k) = 100 ∧ xl X (B + 6 + 2 * k) = 3 := by
  have := (h.p hk).2.2.2.2
  rwa [show B + 5 + 2 * k + 1 = B + 6 + 2 * k by omega] at this
section ZRC
variable {G : zG} {mi : zM} {rm : Room} {Q : List Frame → Array Value → State → State → Prop} {pc n : Nat} {lv : List (Option Value)} {st : List Value} {M : zMem} {X : zX} {cn : Nat × Nat}
theorem jc_get {i c k a : Nat} {v : Int32} (hd : decode (zc mi) pc = .ok (.getfield i, 3)) (hn : pc + 3 = n) (hf : zFI mi.1.cls i c k) (hc : xc X a = c) (h1 : 16 ≤ a) (h2 : a < xz X) (hv : M a k = v) (kk : zAt G mi rm Q n lv (.int v :: st) M X cn) : zAt G mi rm Q pc lv (.ref a :: st) M X cn :=
  j_get hd hn hf hc h1 h2 (by rw [hv]; exact kk)
theorem jc_put {i c k a : Nat} {ty : FieldType} {fin : Bool} {x : Int32} {M2 : zMem} (hd : decode (zc mi) pc = .ok (.putfield i, 3)) (hn : pc + 3 = n) (hf : zFP mi.1.cls i c k ty fin true) (hfin : fin = true → mi.1.name = "<init>") (hnar : narrow ty (.int x) = .int x) (hfit : fits ty (.int x) = true) (hc : xc X a = c) (h1 : 16 ≤ a) (h2 : a < xz X) (hM : zs M a (upd (M a) k x) = M2) (kk : zAt G mi rm Q n lv st M2 X cn) : zAt G mi rm Q pc lv (.int x :: .ref a :: st) M X cn :=
  j_put hd hn hf hfin hnar hfit hc h1 h2 (by rw [hM]; exact kk)
theorem vp_inN {i L : Nat} (hi : i < L) (hb : L ≤ 2147483648) : vp_in (nI i) L := fun z => z.elim (nI_pos (by omega)) (fun z => by rw [nI_clamp (by omega)] at z; omega)
theorem jc_aald {a b L t i : Nat} {C : String} (hd : decode (zc mi) pc = .ok (.aaload, 1)) (hn : pc + 1 = n) (hc : xc X a = 100 + t) (ht : 2 ≤ t ∧ t < 8) (hC : zTy t = .object C) (hL : xl X a = L) (hi : i < L) (hb : L ≤ 2147483648) (h1 : 16 ≤ a) (h2 : a < xz X) (hr : xR X a i = some b) (kk : zAt G mi rm Q n lv (.ref b :: st) M X cn) : zAt G mi rm Q pc lv (.int (nI i) :: .ref a :: st) M X cn :=
  j_aald hd hn hc ht hC hL (vp_inN hi hb) h1 h2 (by rw [nI_clamp (by omega)]; exact hr) kk
theorem jc_aaldN {a L t i : Nat} {C : String} (hd : decode (zc mi) pc = .ok (.aaload, 1)) (hn : pc + 1 = n) (hc : xc X a = 100 + t) (ht : 2 ≤ t ∧ t < 8) (hC : zTy t = .object C) (hL : xl X a = L) (hi : i < L) (hb : L ≤ 2147483648) (h1 : 16 ≤ a) (h2 : a < xz X) (hr : xR X a i = none) (kk : zAt G mi rm Q n lv (.null :: st) M X cn) : zAt G mi rm Q pc lv (.int (nI i) :: .ref a :: st) M X cn :=
  j_aaldN hd hn hc ht hC hL (vp_inN hi hb) h1 h2 (by rw [nI_clamp (by omega)]; exact hr) kk
theorem jc_aald2 {a b L i : Nat} (hd : decode (zc mi) pc = .ok (.aaload, 1)) (hn : pc + 1 = n) (hc : xc X a = 107) (hL : xl X a = L) (hi : i < L) (hb : L ≤ 2147483648) (h1 : 16 ≤ a) (h2 : a < xz X) (hr : xR X a i = some b) (kk : zAt G mi rm Q n lv (.ref b :: st) M X cn) : zAt G mi rm Q pc lv (.int (nI i) :: .ref a :: st) M X cn :=
  j_aald2 hd hn hc hL (vp_inN hi hb) h1 h2 (by rw [nI_clamp (by omega)]; exact hr) kk
theorem j_cSr {d d' C N i k : Nat} {mj : zM} {as stk : List Value} {P : Int32 → zMem → zX → Prop} (hd : decode (zc mi) pc = .ok (.invokestatic i, 3)) (hn : pc + 3 = n) (hw : zCSt mi.1.cls i mj k) (hM : zCall G mj d' as (zIr P) M X 0 0) (hr : d' + 1 ≤ d) (hmx : mj.2.2.1 ≤ 21) (hk : as.length = k) (hst : stk = as.reverse ++ st) (hcat : (st.map fun v => v.category).sum ≤ 8) (h1 : cn.1 ≤ C) (h2 : cn.2 ≤ N)
    (kk : ∀ (r : Int32) (M1 : zMem) (X1 : zX), P r M1 X1 → zAt G mi (zRm d C N) Q n lv (.int r :: st) M1 X1 cn) : zAt G mi (zRm d C N) Q pc lv stk M X cn :=
  j_callS hd hn hw hM hr hmx hk hst hcat h1 h2 (fun v M2 X2 h => by obtain ⟨r, rfl, h⟩ := h; exact kk r M2 X2 h)
end ZRC
def minI (x y : Int32) : Int32 := if y.toInt < x.toInt then y else x
def maxI (x y : Int32) : Int32 := if x.toInt < y.toInt then y else x
section ZMm
variable {G : zG} {mi : zM} {rm : Room} {Q : List Frame → Array Value → State → State → Prop} {pc n : Nat} {lv : List (Option Value)} {st : List Value} {M : zMem} {X : zX} {cn : Nat × Nat}
theorem j_mmin {d C N i : Nat} {x y : Int32} (hd : decode (zc mi) pc = .ok (.invokestatic i, 3)) (hn : pc + 3 = n) (hw : zCSt mi.1.cls i miJ9_min_7cf53 2) (hr : 1 ≤ d) (hcat : (st.map fun v => v.category).sum ≤ 8) (h1 : cn.1 ≤ C) (h2 : cn.2 ≤ N) (k : zAt G mi (zRm d C N) Q n lv (.int (minI x y) :: st) M X cn) : zAt G mi (zRm d C N) Q pc lv (.int y :: .int x :: st) M X cn := by
  subst hn
  intro p e s m args below meth c H locs ls E hP hS hl
  obtain ⟨⟨w1, w2, w3, w4⟩, w5⟩ := hw
  have hts := E.2.2.2.2.2.2.2.1
  have e0 : (if y < x then y else x) = minI x y := by
    unfold minI
    by_cases h : y < x
    · rw [if_pos h, if_pos (i_lt.mp h)]
    · rw [if_neg h, if_neg (fun z => h (i_lt.mpr z))]
  have kk := k p e s m args below meth c H locs ls E hP hS hl
  rw [← e0] at kk
  exact va_mmin E.1 E.2.1 (E.2.2.1.trans hl.1.symm) E.2.2.2.2.2.2.1 (hts _ w1) (hts _ w5) (hts _ w3) (hts _ w2) hr (by rw [zcat]; show _ + 13 ≤ 40 * d; omega) h1 h2 hd kk
theorem j_mmax {d C N i : Nat} {x y : Int32} (hd : decode (zc mi) pc = .ok (.invokestatic i, 3)) (hn : pc + 3 = n) (hw : zCSt mi.1.cls i miJ9_max_7cf53 2) (hr : 1 ≤ d) (hcat : (st.map fun v => v.category).sum ≤ 8) (h1 : cn.1 ≤ C) (h2 : cn.2 ≤ N) (k : zAt G mi (zRm d C N) Q n lv (.int (maxI x y) :: st) M X cn) : zAt G mi (zRm d C N) Q pc lv (.int y :: .int x :: st) M X cn := by
  subst hn
  intro p e s m args below meth c H locs ls E hP hS hl
  obtain ⟨⟨w1, w2, w3, w4⟩, w5⟩ := hw
  have hts := E.2.2.2.2.2.2.2.1
  have e0 : (if x < y then y else x) = maxI x y := by
    unfold maxI
    by_cases h : x < y
    · rw [if_pos h, if_pos (i_lt.mp h)]
    · rw [if_neg h, if_neg (fun z => h (i_lt.mpr z))]
  have kk := k p e s m args below meth c H locs ls E hP hS hl
  rw [← e0] at kk
  exact va_mmax E.1 E.2.1 (E.2.2.1.trans hl.1.symm) E.2.2.2.2.2.2.1 (hts _ w1) (hts _ w5) (hts _ w3) (hts _ w2) hr (by rw [zcat]; show _ + 13 ≤ 40 * d; omega) h1 h2 hd kk
end ZMm
theorem sX7_140 : zCN "RegretLocks$Town" 140 miX9_held 2 ∧ Cond.static miX9_held.1 ∈ zT := ⟨⟨by unfold zNest; repeat (first | exact List.mem_cons_self | apply List.mem_cons_of_mem), tcX9_held, tw_72, by decide, by decide, by decide⟩, tw_550⟩
