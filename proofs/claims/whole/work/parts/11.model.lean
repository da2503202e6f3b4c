-- MODEL: the reference's cells (160: itself; 161 and on: its rows), and rows for its code
section ZMo
variable {G : zG} {mi : zM} {rm : Room} {Q : List Frame → Array Value → State → State → Prop} {pc n : Nat} {lv : List (Option Value)} {st : List Value} {M : zMem} {X : zX} {cn : Nat × Nat}
theorem j_lcmp {x y : Int64} (hd : decode (zc mi) pc = .ok (.lcmp, 1)) (hn : pc + 1 = n) (k : zAt G mi rm Q n lv (.int (lg_cmp x y) :: st) M X cn) : zAt G mi rm Q pc lv (.long y :: .long x :: st) M X cn := by
  subst hn
  exact fun p e s m args below meth c H locs ls E hP hS hl => W.lcmp E.1 E.2.1 hd (k p e s m args below meth c H locs ls E hP hS hl)
theorem j_tabIn {dflt lo hi off : Int} {offs : Array Int} {len i tg : Nat} {x : Int32} (hd : decode (zc mi) pc = .ok (.tableswitch dflt lo hi offs, len)) (hx : x.toInt = lo + (i : Int)) (hi1 : lo + (i : Int) ≤ hi) (ho : offs[i]? = some off) (ht : (pc : Int) + off = (tg : Int)) (k : zAt G mi rm Q tg lv st M X cn) : zAt G mi rm Q pc lv (.int x :: st) M X cn :=
  fun p e s m args below meth c H locs ls E hP hS hl => lv_tableIn E.1 E.2.1 hd (by omega) (by omega) (by rw [show (x.toInt - lo).toNat = i by omega]; exact ho) ht (k p e s m args below meth c H locs ls E hP hS hl)
theorem j_tabOut {dflt lo hi : Int} {offs : Array Int} {len tg : Nat} {x : Int32} (hd : decode (zc mi) pc = .ok (.tableswitch dflt lo hi offs, len)) (hx : x.toInt < lo ∨ hi < x.toInt) (ht : (pc : Int) + dflt = (tg : Int)) (k : zAt G mi rm Q tg lv st M X cn) : zAt G mi rm Q pc lv (.int x :: st) M X cn :=
  fun p e s m args below meth c H locs ls E hP hS hl => lv_tableOut E.1 E.2.1 hd hx ht (k p e s m args below meth c H locs ls E hP hS hl)
theorem j_lookup {dflt off : Int} {ps : Array (Int × Int)} {len tg : Nat} {x : Int32} (hd : decode (zc mi) pc = .ok (.lookupswitch dflt ps, len)) (hp : (ps.toList.zip (ps.toList.drop 1)).all (fun (a, next) => a.1 < next.1) = true) (ho : Op.lookupswitch.offset ps.toList dflt x.toInt = off) (ht : (pc : Int) + off = (tg : Int)) (k : zAt G mi rm Q tg lv st M X cn) : zAt G mi rm Q pc lv (.int x :: st) M X cn :=
  fun p e s m args below meth c H locs ls E hP hS hl => lv_lookup E.1 E.2.1 hd hp ho ht (k p e s m args below meth c H locs ls E hP hS hl)
theorem j_ialdN {a L i : Nat} {v : Int32} (hd : decode (zc mi) pc = .ok (.iaload, 1)) (hn : pc + 1 = n) (hc : xc X a = 100) (hL : xl X a = L) (hi : i < L) (hb : L ≤ 2147483648) (h1 : 16 ≤ a) (h2 : a < xz X) (hv : M a i = v) (kk : zAt G mi rm Q n lv (.int v :: st) M X cn) : zAt G mi rm Q pc lv (.int (nI i) :: .ref a :: st) M X cn :=
  j_iald hd hn hc hL (fun z => z.elim (nI_pos (by omega)) (fun z => by rw [nI_clamp (by omega)] at z; omega)) h1 h2 (by rw [nI_clamp (by omega), hv]; exact kk)
theorem j_baldN {a L i : Nat} {v : Int32} (hd : decode (zc mi) pc = .ok (.baload, 1)) (hn : pc + 1 = n) (hc : xc X a = 101) (hL : xl X a = L) (hi : i < L) (hb : L ≤ 2147483648) (h1 : 16 ≤ a) (h2 : a < xz X) (hv : M a i = v) (kk : zAt G mi rm Q n lv (.int v :: st) M X cn) : zAt G mi rm Q pc lv (.int (nI i) :: .ref a :: st) M X cn :=
  j_bald hd hn hc hL (fun z => z.elim (nI_pos (by omega)) (fun z => by rw [nI_clamp (by omega)] at z; omega)) h1 h2 (by rw [nI_clamp (by omega), hv]; exact kk)
theorem j_iastN {a L i : Nat} {x : Int32} {M2 : zMem} (hd : decode (zc mi) pc = .ok (.iastore, 1)) (hn : pc + 1 = n) (hc : xc X a = 100) (hL : xl X a = L) (hi : i < L) (hb : L ≤ 2147483648) (h1 : 16 ≤ a) (h2 : a < xz X) (hM : zs M a (upd (M a) i x) = M2) (kk : zAt G mi rm Q n lv st M2 X cn) : zAt G mi rm Q pc lv (.int x :: .int (nI i) :: .ref a :: st) M X cn :=
  j_iast hd hn hc hL (fun z => z.elim (nI_pos (by omega)) (fun z => by rw [nI_clamp (by omega)] at z; omega)) h1 h2 (by rw [nI_clamp (by omega), hM]; exact kk)
/-- the rows' lengths by their addresses -/
def mA (a : Nat) : Nat := match a with
  | 161 => 3100 | 162 => 3100 | 163 => 3100 | 164 => 4 | 165 => 4 | 166 => 96 | 167 => 5 | 168 => 5 | 169 => 5 | 170 => 5 | 171 => 120
  | 172 => 729 | 173 => 27 | 174 => 100 | 175 => 96 | 176 => 128 | 177 => 100 | 178 => 24 | 179 => 60 | 180 => 60 | _ => 0
/-- the rows by the fields -/
def mR (k : Nat) : Nat := match k with
  | 0 => 161 | 1 => 162 | 2 => 163 | 4 => 164 | 5 => 165 | 6 => 166 | 7 => 167 | 8 => 168 | 9 => 169 | 10 => 170 | 11 => 171
  | 12 => 172 | 13 => 173 | 14 => 174 | 15 => 175 | 27 => 176 | 28 => 177 | 29 => 178 | 30 => 179 | 32 => 180 | _ => 0
def kM (X : zX) : Prop := 181 ≤ xz X ∧ xc X 160 = 9 ∧ (∀ a, 0 < mA a → xc X a = 100 ∧ xl X a = mA a) ∧ ∀ k, 0 < mR k → xR X 160 k = some (mR k)
theorem mA_lt {a : Nat} (h : 0 < mA a) : 161 ≤ a ∧ a < 181 := by
  unfold mA at h
  split at h <;> first | omega | simp at h
theorem mA_le (a : Nat) : mA a ≤ 3100 := by
  unfold mA
  split <;> omega
theorem jm_get {i k b : Nat} (hd : decode (zc mi) pc = .ok (.getfield i, 3)) (hn : pc + 3 = n) (hf : zFR mi.1.cls i 9 k) (hb : mR k = b) (h0 : 0 < b) (hk : kM X) (kk : zAt G mi rm Q n lv (.ref b :: st) M X cn) : zAt G mi rm Q pc lv (.ref 160 :: st) M X cn := by
  have hz := hk.1
  exact j_getr hd hn hf hk.2.1 (by omega) (by omega) (by rw [hk.2.2.2 k (by omega), hb]) kk
theorem jm_geti {i k : Nat} {v : Int32} (hd : decode (zc mi) pc = .ok (.getfield i, 3)) (hn : pc + 3 = n) (hf : zFI mi.1.cls i 9 k) (hk : kM X) (hv : M 160 k = v) (kk : zAt G mi rm Q n lv (.int v :: st) M X cn) : zAt G mi rm Q pc lv (.ref 160 :: st) M X cn := by
  have hz := hk.1
  exact j_get hd hn hf hk.2.1 (by omega) (by omega) (by rw [hv]; exact kk)
theorem jm_put {i k : Nat} {x : Int32} {M2 : zMem} {ty : FieldType} (hd : decode (zc mi) pc = .ok (.putfield i, 3)) (hn : pc + 3 = n) (hf : zFP mi.1.cls i 9 k ty false true) (hnar : narrow ty (.int x) = .int x) (hfit : fits ty (.int x) = true) (hk : kM X) (hM : zs M 160 (upd (M 160) k x) = M2) (kk : zAt G mi rm Q n lv st M2 X cn) : zAt G mi rm Q pc lv (.int x :: .ref 160 :: st) M X cn := by
  have hz := hk.1
  exact j_put hd hn hf (fun h => by cases h) hnar hfit hk.2.1 (by omega) (by omega) (by rw [hM]; exact kk)
theorem jm_ald {a L i : Nat} {v : Int32} (hd : decode (zc mi) pc = .ok (.iaload, 1)) (hn : pc + 1 = n) (hk : kM X) (ha : mA a = L) (hi : i < L) (hv : M a i = v) (kk : zAt G mi rm Q n lv (.int v :: st) M X cn) : zAt G mi rm Q pc lv (.int (nI i) :: .ref a :: st) M X cn := by
  have h0 : 0 < mA a := by omega
  have h3 := mA_lt h0
  have h4 := mA_le a
  have hz := hk.1
  exact j_ialdN hd hn (hk.2.2.1 a h0).1 ((hk.2.2.1 a h0).2.trans ha) hi (by omega) (by omega) (by omega) hv kk
theorem jm_ast {a L i : Nat} {x : Int32} {M2 : zMem} (hd : decode (zc mi) pc = .ok (.iastore, 1)) (hn : pc + 1 = n) (hk : kM X) (ha : mA a = L) (hi : i < L) (hM : zs M a (upd (M a) i x) = M2) (kk : zAt G mi rm Q n lv st M2 X cn) : zAt G mi rm Q pc lv (.int x :: .int (nI i) :: .ref a :: st) M X cn := by
  have h0 : 0 < mA a := by omega
  have h3 := mA_lt h0
  have h4 := mA_le a
  have hz := hk.1
  exact j_iastN hd hn (hk.2.2.1 a h0).1 ((hk.2.2.1 a h0).2.trans ha) hi (by omega) (by omega) (by omega) hM kk
end ZMo
