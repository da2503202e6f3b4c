-- TEXTS: what a text gives
theorem div_m1 (x : Int32) : x / (-1) = -x := by
  apply Int32.toInt_inj.mp
  rw [Int32.toInt_div, show ((-1 : Int32)).toInt = -1 from rfl, Int32.toInt_neg, Int.tdiv_neg, Int.tdiv_one]
def joinV (c : Nat) (x y : Int32) : Int32 :=
  if c = 43 then x + y else if c = 45 then x - y else if c = 42 then x * y else if c = 47 then (if y.toInt = 0 then nI 0 else x / y)
  else if c = 60 then zB (x.toInt < y.toInt) else if c = 62 then zB (y.toInt < x.toInt) else if c = 61 then zB (x.toInt = y.toInt)
  else if c = 38 then zB (¬ x.toInt = 0 ∧ ¬ y.toInt = 0) else zB (¬ x.toInt = 0 ∨ ¬ y.toInt = 0)
/-- the text that counts for a key, among the first n -/
def cnt (p : Nat → Nat) (key : Nat) : Nat → Option Nat
  | 0 => none
  | t + 1 => if p (100 + 200 * t) = key then some t else cnt p key t
def cntV (o : Option Nat) : Int32 := match o with
  | none => -1
  | some t => nI t
/-- the names' values by a key -/
def nmV (key v : Nat) (a b c : Int32) : Int32 :=
  if key = 0 then (if v = 114 then a else if v = 115 then b else c) else if key = 1 then (if v = 101 then a else b) else (if v = 114 then a else b)
/-- how many values wait behind k steps -/
def dep (p : Nat → Nat) (q : Nat) : Nat → Nat
  | 0 => 0
  | k + 1 => if ¬ p (q + 2 * k) = 2 then dep p q k + 1 else if p (q + 2 * k + 1) = 33 then dep p q k else dep p q k - 1
/-- the values that wait behind k steps, the lowest first -/
def evS (p : Nat → Nat) (q : Nat) (nm : Nat → Int32) : Nat → Nat → Int32
  | 0 => fun _ => nI 0
  | k + 1 =>
    if ¬ p (q + 2 * k) = 2 then upd (evS p q nm k) (dep p q k) (if p (q + 2 * k) = 0 then nI (p (q + 2 * k + 1)) else nm (p (q + 2 * k + 1)))
    else if p (q + 2 * k + 1) = 33 then upd (evS p q nm k) (dep p q k - 1) (zB ((evS p q nm k (dep p q k - 1)).toInt = 0))
    else upd (evS p q nm k) (dep p q k - 2) (joinV (p (q + 2 * k + 1)) (evS p q nm k (dep p q k - 2)) (evS p q nm k (dep p q k - 1)))
def evT (p : Nat → Nat) (t : Nat) (a b c : Int32) : Int32 := evS p (104 + 200 * t) (fun v => nmV (p (100 + 200 * t)) v a b c) (p (102 + 200 * t)) 0
def isNm (key v : Nat) : Prop := (key = 0 ∧ (v = 114 ∨ v = 115 ∨ v = 116)) ∨ (key = 1 ∧ (v = 101 ∨ v = 104)) ∨ (key = 2 ∧ (v = 114 ∨ v = 111))
/-- a text as it must be -/
def wfX (p : Nat → Nat) (t : Nat) : Prop := p (100 + 200 * t) ≤ 2 ∧ p (101 + 200 * t) ≤ 96 ∧ p (102 + 200 * t) ≤ 96 ∧ dep p (104 + 200 * t) (p (102 + 200 * t)) = 1 ∧
  (∀ k, k ≤ p (102 + 200 * t) → dep p (104 + 200 * t) k ≤ p (101 + 200 * t)) ∧
  ∀ k, k < p (102 + 200 * t) → p (104 + 200 * t + 2 * k) ≤ 2 ∧ p (104 + 200 * t + 2 * k + 1) ≤ 9999 ∧
    (p (104 + 200 * t + 2 * k) = 1 → isNm (p (100 + 200 * t)) (p (104 + 200 * t + 2 * k + 1))) ∧
    (p (104 + 200 * t + 2 * k) = 2 → p (104 + 200 * t + 2 * k + 1) = 33 → 1 ≤ dep p (104 + 200 * t) k) ∧
    (p (104 + 200 * t + 2 * k) = 2 → ¬ p (104 + 200 * t + 2 * k + 1) = 33 → 2 ≤ dep p (104 + 200 * t) k)
def wfT (p : Nat → Nat) : Prop := p 1 ≤ 14 ∧ ∀ t, t < p 1 → wfX p t
theorem dep_le (p : Nat → Nat) (q : Nat) : ∀ k, dep p q k ≤ k
  | 0 => Nat.le_refl _
  | k + 1 => by
    have := dep_le p q k
    unfold dep
    split
    · omega
    · split <;> omega
theorem cnt_lt {p : Nat → Nat} {key : Nat} : ∀ {n t : Nat}, cnt p key n = some t → t < n ∧ p (100 + 200 * t) = key
  | 0, t, h => by cases h
  | n + 1, t, h => by
    unfold cnt at h
    split at h
    · rename_i h1
      cases h
      exact ⟨Nat.lt_succ_self _, h1⟩
    · have := cnt_lt h
      exact ⟨by omega, this.2⟩
/-- nothing but the reference's two scratch rows is otherwise -/
def scr (M M1 : zMem) : Prop := ∀ a, a ≠ 176 → a ≠ 177 → M1 a = M a
theorem scr.rf (M : zMem) : scr M M := fun _ _ _ => rfl
theorem scr.tr {M M1 M2 : zMem} (h1 : scr M M1) (h2 : scr M1 M2) : scr M M2 := fun a h3 h4 => (h2 a h3 h4).trans (h1 a h3 h4)
theorem scr.n (M : zMem) (f : Nat → Int32) : scr M (zs M 176 f) := fun a h _ => zs_ne M f h
theorem scr.p (M : zMem) (f : Nat → Int32) : scr M (zs M 177 f) := fun a _ h => zs_ne M f h
def wearN (k plain : Nat) : Nat := if k = 1 ∨ k = 3 then plain / 2 else if k = 2 then 2 * plain else if k = 4 then 2 * plain + 1 else plain
/-- what wear gives, held within 0 .. 99 -/
def plainP (p : Nat → Nat) (r sort : Nat) : Nat := match cnt p 0 (p 1) with
  | none => 2
  | some t => min 99 (evT p t (nI r) (nI sort) (nI (p 2))).toInt.toNat
def wornP (p : Nat → Nat) (k r sort : Nat) : Nat := r - wearN k (plainP p r sort)
/-- fewer locals are known -/
def lvW : List (Option Value) → List (Option Value) → Prop
  | [], [] => True
  | none :: a, _ :: b => lvW a b
  | some v :: a, w :: b => w = some v ∧ lvW a b
  | _, _ => False
theorem lvW_at : ∀ {a b : List (Option Value)}, lvW a b → a.length = b.length ∧ ∀ (i : Nat) (v : Value), a[i]? = some (some v) → b[i]? = some (some v)
  | [], [], _ => ⟨rfl, fun i v h => h⟩
  | none :: a, w :: b, h => by
    have h1 := lvW_at (a := a) (b := b) h
    refine ⟨by simp [h1.1], fun i v hv => ?_⟩
    cases i with
    | zero => simp at hv
    | succ i => simpa using h1.2 i v (by simpa using hv)
  | some u :: a, w :: b, h => by
    have h1 := lvW_at (a := a) (b := b) h.2
    refine ⟨by simp [h1.1], fun i v hv => ?_⟩
    cases i with
    | zero => rw [h.1]; simpa using hv
    | succ i => simpa using h1.2 i v (by simpa using hv)
  | [], _ :: _, h => False.elim h
  | none :: _, [], h => False.elim h
  | some _ :: _, [], h => False.elim h
theorem j_wk {G : zG} {mi : zM} {rm : Room} {Q : List Frame → Array Value → State → State → Prop} {pc : Nat} {lv lv2 : List (Option Value)} {st : List Value} {M : zMem} {X : zX} {cn : Nat × Nat} (h : lvW lv2 lv) (k : zAt G mi rm Q pc lv2 st M X cn) : zAt G mi rm Q pc lv st M X cn := by
  obtain ⟨h1, h2⟩ := lvW_at h
  exact fun p e s m args below meth c H locs ls E hP hS hl => k p e s m args below meth c H locs ls E hP hS ⟨hl.1, hl.2.1, by rw [h1]; exact hl.2.2.1, fun i v hv => hl.2.2.2 i v (h2 i v hv)⟩
theorem st_push {f g : Nat → Int32} {n : Nat} {x : Int32} (h : ∀ i, i < n → f i = g i) : ∀ i, i < n + 1 → upd f n x i = upd g n x i := by
  intro i hi
  unfold upd
  split
  · rfl
  · exact h i (by omega)
theorem st_top {f g : Nat → Int32} {n m j : Nat} {x : Int32} (h : ∀ i, i < n → f i = g i) (hm : m ≤ n) : ∀ i, i < m → upd f j x i = upd g j x i := by
  intro i hi
  unfold upd
  split
  · rfl
  · exact h i (by omega)
theorem nI_dec1 {a : Nat} (h : 1 ≤ a) : nI a + Int32.ofInt (-1) = nI (a - 1) := by
  rw [show Int32.ofInt (-1) = -1 from rfl]
  have e : a = a - 1 + 1 := by omega
  rw [e]
  exact pk_m1 (a - 1)
theorem j_if_ltM {G : zG} {mi : zM} {rm : Room} {Q : List Frame → Array Value → State → State → Prop} {pc n : Nat} {lv : List (Option Value)} {st : List Value} {M : zMem} {X : zX} {cn : Nat × Nat} {a : Nat} {o : Int} {tg : Nat} (hd : decode (zc mi) pc = .ok (.ifCond .lt o, 3)) (ht : (pc : Int) + o = (tg : Int)) (hn : pc + 3 = n) (ha : a < 2147483648) (k1 : (a : Int) < 0 → zAt G mi rm Q tg lv st M X cn) (k2 : ¬ (a : Int) < 0 → zAt G mi rm Q n lv st M X cn) : zAt G mi rm Q pc lv (.int (nI a) :: st) M X cn :=
  j_if_ltT hd ht hn (fun h => k1 (by rw [i_N ha] at h; exact h)) (fun h => k2 (by rw [i_N ha] at h; exact h))
theorem j_if_geM {G : zG} {mi : zM} {rm : Room} {Q : List Frame → Array Value → State → State → Prop} {pc n : Nat} {lv : List (Option Value)} {st : List Value} {M : zMem} {X : zX} {cn : Nat × Nat} {a : Nat} {o : Int} {tg : Nat} (hd : decode (zc mi) pc = .ok (.ifCond .ge o, 3)) (ht : (pc : Int) + o = (tg : Int)) (hn : pc + 3 = n) (ha : a < 2147483648) (k1 : 0 ≤ (a : Int) → zAt G mi rm Q tg lv st M X cn) (k2 : ¬ 0 ≤ (a : Int) → zAt G mi rm Q n lv st M X cn) : zAt G mi rm Q pc lv (.int (nI a) :: st) M X cn :=
  j_if_geT hd ht hn (fun h => k1 (by rw [i_N ha] at h; exact h)) (fun h => k2 (by rw [i_N ha] at h; exact h))
theorem j_if_gtM {G : zG} {mi : zM} {rm : Room} {Q : List Frame → Array Value → State → State → Prop} {pc n : Nat} {lv : List (Option Value)} {st : List Value} {M : zMem} {X : zX} {cn : Nat × Nat} {a : Nat} {o : Int} {tg : Nat} (hd : decode (zc mi) pc = .ok (.ifCond .gt o, 3)) (ht : (pc : Int) + o = (tg : Int)) (hn : pc + 3 = n) (ha : a < 2147483648) (k1 : 0 < (a : Int) → zAt G mi rm Q tg lv st M X cn) (k2 : ¬ 0 < (a : Int) → zAt G mi rm Q n lv st M X cn) : zAt G mi rm Q pc lv (.int (nI a) :: st) M X cn :=
  j_if_gtT hd ht hn (fun h => k1 (by rw [i_N ha] at h; exact h)) (fun h => k2 (by rw [i_N ha] at h; exact h))
theorem j_if_leM {G : zG} {mi : zM} {rm : Room} {Q : List Frame → Array Value → State → State → Prop} {pc n : Nat} {lv : List (Option Value)} {st : List Value} {M : zMem} {X : zX} {cn : Nat × Nat} {a : Nat} {o : Int} {tg : Nat} (hd : decode (zc mi) pc = .ok (.ifCond .le o, 3)) (ht : (pc : Int) + o = (tg : Int)) (hn : pc + 3 = n) (ha : a < 2147483648) (k1 : (a : Int) ≤ 0 → zAt G mi rm Q tg lv st M X cn) (k2 : ¬ (a : Int) ≤ 0 → zAt G mi rm Q n lv st M X cn) : zAt G mi rm Q pc lv (.int (nI a) :: st) M X cn :=
  j_if_leT hd ht hn (fun h => k1 (by rw [i_N ha] at h; exact h)) (fun h => k2 (by rw [i_N ha] at h; exact h))
theorem nm_wear (f : Nat → Int32) (a b c : Int32) {v : Nat} (h : isNm 0 v) : upd (upd (upd f 114 a) 115 b) 116 c v = nmV 0 v a b c := by
  unfold isNm at h
  have : v = 114 ∨ v = 115 ∨ v = 116 := by omega
  rcases this with rfl | rfl | rfl <;> simp [upd, nmV]
theorem nm_fee (f : Nat → Int32) (a b c : Int32) {v : Nat} (h : isNm 1 v) : upd (upd f 101 a) 104 b v = nmV 1 v a b c := by
  unfold isNm at h
  have : v = 101 ∨ v = 104 := by omega
  rcases this with rfl | rfl <;> simp [upd, nmV]
theorem nm_fine (f : Nat → Int32) (a b c : Int32) {v : Nat} (h : isNm 2 v) : upd (upd f 114 a) 111 b v = nmV 2 v a b c := by
  unfold isNm at h
  have : v = 114 ∨ v = 111 := by omega
  rcases this with rfl | rfl <;> simp [upd, nmV]
theorem wearN_le {k q : Nat} (h : q ≤ 99) : wearN k q ≤ 199 := by
  unfold wearN
  repeat (first | (split; omega) | split)
  all_goals omega
theorem plainP_le (p : Nat → Nat) (r s : Nat) : plainP p r s ≤ 99 := by
  unfold plainP
  split <;> omega
