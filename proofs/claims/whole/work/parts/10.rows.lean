-- ROWS in the words that the contracts use: numbers as nI, truth values as zB, exact ends
def zB (p : Prop) [Decidable p] : Int32 := if p then nI 1 else nI 0
theorem zB_t {p : Prop} [Decidable p] (h : p) : zB p = nI 1 := if_pos h
theorem zB_f {p : Prop} [Decidable p] (h : ¬ p) : zB p = nI 0 := if_neg h
theorem zB_nar {p : Prop} [Decidable p] : narrow .boolean (.int (zB p)) = .int (zB p) := by
  unfold zB
  split <;> rfl
theorem zB_congr {p q : Prop} [Decidable p] [Decidable q] (h : p ↔ q) : zB p = zB q := by
  unfold zB
  by_cases hp : p
  · rw [if_pos hp, if_pos (h.mp hp)]
  · rw [if_neg hp, if_neg (fun z => hp (h.mpr z))]
theorem zB_eq0 {p : Prop} [Decidable p] : zB p = 0 ↔ ¬ p := by
  by_cases h : p
  · rw [zB_t h]; exact ⟨fun z => absurd z (by decide), fun z => absurd h z⟩
  · rw [zB_f h]; exact ⟨fun _ => h, fun _ => rfl⟩
theorem i_lt {x y : Int32} : x < y ↔ x.toInt < y.toInt := Int32.lt_iff_toInt_lt
theorem i_le {x y : Int32} : x ≤ y ↔ x.toInt ≤ y.toInt := Int32.le_iff_toInt_le
theorem i_eq {x y : Int32} : x = y ↔ x.toInt = y.toInt := Int32.toInt_inj.symm
theorem i_0 : (0 : Int32).toInt = 0 := rfl
theorem i_N {n : Nat} (h : n < 2147483648) : (nI n).toInt = (n : Int) := nI_toInt h
theorem i_of {x : Int32} {n : Nat} (h0 : 0 ≤ x.toInt) (h1 : x.toInt < n) : ∃ k, k < n ∧ x = nI k := by
  have hb : x.toInt < 2147483648 := Int32.toInt_lt x
  refine ⟨x.toInt.toNat, by omega, ?_⟩
  rw [i_eq, i_N (by omega)]
  omega
def zI (r : Int32) (M1 : zMem) (X1 : zX) : Option Value → zMem → zX → Prop := fun v M2 X2 => v = some (.int r) ∧ M2 = M1 ∧ X2 = X1
def zV (M1 : zMem) (X1 : zX) : Option Value → zMem → zX → Prop := fun v M2 X2 => v = none ∧ M2 = M1 ∧ X2 = X1
def zIr (P : Int32 → zMem → zX → Prop) : Option Value → zMem → zX → Prop := fun v M2 X2 => ∃ r, v = some (.int r) ∧ P r M2 X2
def zVr (P : zMem → zX → Prop) : Option Value → zMem → zX → Prop := fun v M2 X2 => v = none ∧ P M2 X2
section ZR
variable {G : zG} {mi : zM} {rm : Room} {Q : List Frame → Array Value → State → State → Prop} {pc n : Nat} {lv : List (Option Value)} {st : List Value} {M : zMem} {X : zX} {cn : Nat × Nat}
theorem j_iaddN {a b c : Nat} (hd : decode (zc mi) pc = .ok (.iadd, 1)) (hn : pc + 1 = n) (hc : a + b = c) (k : zAt G mi rm Q n lv (.int (nI c) :: st) M X cn) : zAt G mi rm Q pc lv (.int (nI b) :: .int (nI a) :: st) M X cn :=
  j_iadd hd hn (by rw [nI_add, hc]; exact k)
theorem j_isubN {a b c : Nat} (hd : decode (zc mi) pc = .ok (.isub, 1)) (hn : pc + 1 = n) (h : b ≤ a) (hc : a - b = c) (k : zAt G mi rm Q n lv (.int (nI c) :: st) M X cn) : zAt G mi rm Q pc lv (.int (nI b) :: .int (nI a) :: st) M X cn :=
  j_isub hd hn (by rw [pk_sub h, hc]; exact k)
theorem j_imulN {a b c : Nat} (hd : decode (zc mi) pc = .ok (.imul, 1)) (hn : pc + 1 = n) (hc : a * b = c) (k : zAt G mi rm Q n lv (.int (nI c) :: st) M X cn) : zAt G mi rm Q pc lv (.int (nI b) :: .int (nI a) :: st) M X cn :=
  j_imul hd hn (by rw [pk_mul, hc]; exact k)
theorem j_idivN {a b c : Nat} (hd : decode (zc mi) pc = .ok (.idiv, 1)) (hn : pc + 1 = n) (ha : a < 2147483648) (h0 : 0 < b) (hb : b < 2147483648) (hc : a / b = c) (k : zAt G mi rm Q n lv (.int (nI c) :: st) M X cn) : zAt G mi rm Q pc lv (.int (nI b) :: .int (nI a) :: st) M X cn :=
  j_idiv hd hn (nI_ne0 h0 hb) (by rw [pk_div ha h0 hb, hc]; exact k)
theorem zremN {a d : Nat} (ha : a < 2147483648) (h0 : 0 < d) (hd : d < 2147483648) : zrem (nI a) (nI d) = nI (a % d) := pk_rem ha h0 hd
theorem j_iremN {a b c : Nat} (hd : decode (zc mi) pc = .ok (.irem, 1)) (hn : pc + 1 = n) (ha : a < 2147483648) (h0 : 0 < b) (hb : b < 2147483648) (hc : a % b = c) (k : zAt G mi rm Q n lv (.int (nI c) :: st) M X cn) : zAt G mi rm Q pc lv (.int (nI b) :: .int (nI a) :: st) M X cn :=
  j_irem hd hn (nI_ne0 h0 hb) (by rw [zremN ha h0 hb, hc]; exact k)
/-- the top is another word for the same -/
theorem j_top {x y : Int32} (h : x = y) (k : zAt G mi rm Q pc lv (.int y :: st) M X cn) : zAt G mi rm Q pc lv (.int x :: st) M X cn := by
  rw [h]; exact k
theorem j_mem {M2 : zMem} (h : M = M2) (k : zAt G mi rm Q pc lv st M2 X cn) : zAt G mi rm Q pc lv st M X cn := by
  rw [h]; exact k
theorem j_lv {lv2 : List (Option Value)} (h : lv = lv2) (k : zAt G mi rm Q pc lv2 st M X cn) : zAt G mi rm Q pc lv st M X cn := by
  rw [h]; exact k
theorem j_if_eqB {p : Prop} [Decidable p] {o : Int} {tg : Nat} (hd : decode (zc mi) pc = .ok (.ifCond .eq o, 3)) (ht : (pc : Int) + o = (tg : Int)) (hn : pc + 3 = n) (k1 : ¬ p → zAt G mi rm Q tg lv st M X cn) (k2 : p → zAt G mi rm Q n lv st M X cn) : zAt G mi rm Q pc lv (.int (zB p) :: st) M X cn :=
  j_if_eq hd ht hn (fun h => k1 (zB_eq0.mp h)) (fun h => k2 (Decidable.of_not_not (fun z => h (zB_eq0.mpr z))))
theorem j_if_neB {p : Prop} [Decidable p] {o : Int} {tg : Nat} (hd : decode (zc mi) pc = .ok (.ifCond .ne o, 3)) (ht : (pc : Int) + o = (tg : Int)) (hn : pc + 3 = n) (k1 : p → zAt G mi rm Q tg lv st M X cn) (k2 : ¬ p → zAt G mi rm Q n lv st M X cn) : zAt G mi rm Q pc lv (.int (zB p) :: st) M X cn :=
  j_if_ne hd ht hn (fun h => k1 (Decidable.of_not_not (fun z => h (zB_eq0.mpr z)))) (fun h => k2 (zB_eq0.mp h))
theorem j_if_eqN {a : Nat} {o : Int} {tg : Nat} (hd : decode (zc mi) pc = .ok (.ifCond .eq o, 3)) (ht : (pc : Int) + o = (tg : Int)) (hn : pc + 3 = n) (ha : a < 2147483648) (k1 : a = 0 → zAt G mi rm Q tg lv st M X cn) (k2 : ¬ a = 0 → zAt G mi rm Q n lv st M X cn) : zAt G mi rm Q pc lv (.int (nI a) :: st) M X cn :=
  j_if_eq hd ht hn (fun h => k1 ((nI_eq ha (by decide)).mp h)) (fun h => k2 (fun z => h (by rw [z]; rfl)))
theorem j_if_neN {a : Nat} {o : Int} {tg : Nat} (hd : decode (zc mi) pc = .ok (.ifCond .ne o, 3)) (ht : (pc : Int) + o = (tg : Int)) (hn : pc + 3 = n) (ha : a < 2147483648) (k1 : ¬ a = 0 → zAt G mi rm Q tg lv st M X cn) (k2 : a = 0 → zAt G mi rm Q n lv st M X cn) : zAt G mi rm Q pc lv (.int (nI a) :: st) M X cn :=
  j_if_ne hd ht hn (fun h => k1 (fun z => h (by rw [z]; rfl))) (fun h => k2 ((nI_eq ha (by decide)).mp h))
theorem j_if_ltT {x : Int32} {o : Int} {tg : Nat} (hd : decode (zc mi) pc = .ok (.ifCond .lt o, 3)) (ht : (pc : Int) + o = (tg : Int)) (hn : pc + 3 = n) (k1 : x.toInt < 0 → zAt G mi rm Q tg lv st M X cn) (k2 : ¬ x.toInt < 0 → zAt G mi rm Q n lv st M X cn) : zAt G mi rm Q pc lv (.int x :: st) M X cn :=
  j_if_lt hd ht hn (fun h => k1 (i_lt.mp h)) (fun h => k2 (fun z => h (i_lt.mpr z)))
theorem j_if_geT {x : Int32} {o : Int} {tg : Nat} (hd : decode (zc mi) pc = .ok (.ifCond .ge o, 3)) (ht : (pc : Int) + o = (tg : Int)) (hn : pc + 3 = n) (k1 : 0 ≤ x.toInt → zAt G mi rm Q tg lv st M X cn) (k2 : ¬ 0 ≤ x.toInt → zAt G mi rm Q n lv st M X cn) : zAt G mi rm Q pc lv (.int x :: st) M X cn :=
  j_if_ge hd ht hn (fun h => k1 (i_le.mp h)) (fun h => k2 (fun z => h (i_le.mpr z)))
theorem j_if_gtT {x : Int32} {o : Int} {tg : Nat} (hd : decode (zc mi) pc = .ok (.ifCond .gt o, 3)) (ht : (pc : Int) + o = (tg : Int)) (hn : pc + 3 = n) (k1 : 0 < x.toInt → zAt G mi rm Q tg lv st M X cn) (k2 : ¬ 0 < x.toInt → zAt G mi rm Q n lv st M X cn) : zAt G mi rm Q pc lv (.int x :: st) M X cn :=
  j_if_gt hd ht hn (fun h => k1 (i_lt.mp h)) (fun h => k2 (fun z => h (i_lt.mpr z)))
theorem j_if_leT {x : Int32} {o : Int} {tg : Nat} (hd : decode (zc mi) pc = .ok (.ifCond .le o, 3)) (ht : (pc : Int) + o = (tg : Int)) (hn : pc + 3 = n) (k1 : x.toInt ≤ 0 → zAt G mi rm Q tg lv st M X cn) (k2 : ¬ x.toInt ≤ 0 → zAt G mi rm Q n lv st M X cn) : zAt G mi rm Q pc lv (.int x :: st) M X cn :=
  j_if_le hd ht hn (fun h => k1 (i_le.mp h)) (fun h => k2 (fun z => h (i_le.mpr z)))
theorem j_if_eqT {x : Int32} {o : Int} {tg : Nat} (hd : decode (zc mi) pc = .ok (.ifCond .eq o, 3)) (ht : (pc : Int) + o = (tg : Int)) (hn : pc + 3 = n) (k1 : x.toInt = 0 → zAt G mi rm Q tg lv st M X cn) (k2 : ¬ x.toInt = 0 → zAt G mi rm Q n lv st M X cn) : zAt G mi rm Q pc lv (.int x :: st) M X cn :=
  j_if_eq hd ht hn (fun h => k1 (i_eq.mp h)) (fun h => k2 (fun z => h (i_eq.mpr z)))
theorem j_if_neT {x : Int32} {o : Int} {tg : Nat} (hd : decode (zc mi) pc = .ok (.ifCond .ne o, 3)) (ht : (pc : Int) + o = (tg : Int)) (hn : pc + 3 = n) (k1 : ¬ x.toInt = 0 → zAt G mi rm Q tg lv st M X cn) (k2 : x.toInt = 0 → zAt G mi rm Q n lv st M X cn) : zAt G mi rm Q pc lv (.int x :: st) M X cn :=
  j_if_ne hd ht hn (fun h => k1 (fun z => h (i_eq.mpr z))) (fun h => k2 (i_eq.mp h))
theorem j_icmp_eqT {x y : Int32} {u v : Int} {o : Int} {tg : Nat} (hd : decode (zc mi) pc = .ok (.if_icmp .eq o, 3)) (ht : (pc : Int) + o = (tg : Int)) (hn : pc + 3 = n) (hx : x.toInt = u) (hy : y.toInt = v) (k1 : u = v → zAt G mi rm Q tg lv st M X cn) (k2 : ¬ u = v → zAt G mi rm Q n lv st M X cn) : zAt G mi rm Q pc lv (.int y :: .int x :: st) M X cn := by
  subst hx; subst hy
  exact j_icmp_eq hd ht hn (fun h => k1 (i_eq.mp h)) (fun h => k2 (fun z => h (i_eq.mpr z)))
theorem j_icmp_neT {x y : Int32} {u v : Int} {o : Int} {tg : Nat} (hd : decode (zc mi) pc = .ok (.if_icmp .ne o, 3)) (ht : (pc : Int) + o = (tg : Int)) (hn : pc + 3 = n) (hx : x.toInt = u) (hy : y.toInt = v) (k1 : ¬ u = v → zAt G mi rm Q tg lv st M X cn) (k2 : u = v → zAt G mi rm Q n lv st M X cn) : zAt G mi rm Q pc lv (.int y :: .int x :: st) M X cn := by
  subst hx; subst hy
  exact j_icmp_ne hd ht hn (fun h => k1 (fun z => h (i_eq.mpr z))) (fun h => k2 (i_eq.mp h))
theorem j_icmp_ltT {x y : Int32} {u v : Int} {o : Int} {tg : Nat} (hd : decode (zc mi) pc = .ok (.if_icmp .lt o, 3)) (ht : (pc : Int) + o = (tg : Int)) (hn : pc + 3 = n) (hx : x.toInt = u) (hy : y.toInt = v) (k1 : u < v → zAt G mi rm Q tg lv st M X cn) (k2 : ¬ u < v → zAt G mi rm Q n lv st M X cn) : zAt G mi rm Q pc lv (.int y :: .int x :: st) M X cn := by
  subst hx; subst hy
  exact j_icmp_lt hd ht hn (fun h => k1 (i_lt.mp h)) (fun h => k2 (fun z => h (i_lt.mpr z)))
theorem j_icmp_geT {x y : Int32} {u v : Int} {o : Int} {tg : Nat} (hd : decode (zc mi) pc = .ok (.if_icmp .ge o, 3)) (ht : (pc : Int) + o = (tg : Int)) (hn : pc + 3 = n) (hx : x.toInt = u) (hy : y.toInt = v) (k1 : v ≤ u → zAt G mi rm Q tg lv st M X cn) (k2 : ¬ v ≤ u → zAt G mi rm Q n lv st M X cn) : zAt G mi rm Q pc lv (.int y :: .int x :: st) M X cn := by
  subst hx; subst hy
  exact j_icmp_ge hd ht hn (fun h => k1 (i_le.mp h)) (fun h => k2 (fun z => h (i_le.mpr z)))
theorem j_icmp_gtT {x y : Int32} {u v : Int} {o : Int} {tg : Nat} (hd : decode (zc mi) pc = .ok (.if_icmp .gt o, 3)) (ht : (pc : Int) + o = (tg : Int)) (hn : pc + 3 = n) (hx : x.toInt = u) (hy : y.toInt = v) (k1 : v < u → zAt G mi rm Q tg lv st M X cn) (k2 : ¬ v < u → zAt G mi rm Q n lv st M X cn) : zAt G mi rm Q pc lv (.int y :: .int x :: st) M X cn := by
  subst hx; subst hy
  exact j_icmp_gt hd ht hn (fun h => k1 (i_lt.mp h)) (fun h => k2 (fun z => h (i_lt.mpr z)))
theorem j_icmp_leT {x y : Int32} {u v : Int} {o : Int} {tg : Nat} (hd : decode (zc mi) pc = .ok (.if_icmp .le o, 3)) (ht : (pc : Int) + o = (tg : Int)) (hn : pc + 3 = n) (hx : x.toInt = u) (hy : y.toInt = v) (k1 : u ≤ v → zAt G mi rm Q tg lv st M X cn) (k2 : ¬ u ≤ v → zAt G mi rm Q n lv st M X cn) : zAt G mi rm Q pc lv (.int y :: .int x :: st) M X cn := by
  subst hx; subst hy
  exact j_icmp_le hd ht hn (fun h => k1 (i_le.mp h)) (fun h => k2 (fun z => h (i_le.mpr z)))
theorem j_ri {r x : Int32} {M1 : zMem} {X1 : zX} {C N : Nat} (hd : decode (zc mi) pc = .ok (.ireturn, 1)) (hty : mi.2.2.2 = some .int) (h1 : cn.1 ≤ C) (h2 : cn.2 ≤ N) (hr : x = r) (hM : M = M1) (hX : X = X1) : zAt G mi rm (zQ G (zI r M1 X1) C N) pc lv [.int x] M X cn :=
  j_iret hd hty rfl h1 h2 ⟨by rw [hr], hM, hX⟩
theorem j_rb {r x : Int32} {M1 : zMem} {X1 : zX} {C N : Nat} (hd : decode (zc mi) pc = .ok (.ireturn, 1)) (hty : mi.2.2.2 = some .boolean) (hb : narrow .boolean (.int x) = .int x) (h1 : cn.1 ≤ C) (h2 : cn.2 ≤ N) (hr : x = r) (hM : M = M1) (hX : X = X1) : zAt G mi rm (zQ G (zI r M1 X1) C N) pc lv [.int x] M X cn :=
  j_iret hd hty hb h1 h2 ⟨by rw [hr], hM, hX⟩
theorem j_rv {M1 : zMem} {X1 : zX} {C N : Nat} (hd : decode (zc mi) pc = .ok (.return_, 1)) (hty : mi.2.2.2 = none) (h1 : cn.1 ≤ C) (h2 : cn.2 ≤ N) (hM : M = M1) (hX : X = X1) : zAt G mi rm (zQ G (zV M1 X1) C N) pc lv [] M X cn :=
  j_vret hd hty h1 h2 ⟨rfl, hM, hX⟩
theorem j_cS {d d' C N i k : Nat} {mj : zM} {as stk : List Value} {r : Int32} {M1 : zMem} {X1 : zX} (hd : decode (zc mi) pc = .ok (.invokestatic i, 3)) (hn : pc + 3 = n) (hw : zCSt mi.1.cls i mj k) (hM : zCall G mj d' as (zI r M1 X1) M X 0 0) (hr : d' + 1 ≤ d) (hmx : mj.2.2.1 ≤ 21) (hk : as.length = k) (hst : stk = as.reverse ++ st) (hcat : (st.map fun v => v.category).sum ≤ 8) (h1 : cn.1 ≤ C) (h2 : cn.2 ≤ N)
    (kk : zAt G mi (zRm d C N) Q n lv (.int r :: st) M1 X1 cn) : zAt G mi (zRm d C N) Q pc lv stk M X cn :=
  j_callS hd hn hw hM hr hmx hk hst hcat h1 h2 (fun v M2 X2 h => by obtain ⟨rfl, rfl, rfl⟩ := h; exact kk)
theorem j_cSv {d d' C N i k : Nat} {mj : zM} {as stk : List Value} {M1 : zMem} {X1 : zX} (hd : decode (zc mi) pc = .ok (.invokestatic i, 3)) (hn : pc + 3 = n) (hw : zCSt mi.1.cls i mj k) (hM : zCall G mj d' as (zV M1 X1) M X 0 0) (hr : d' + 1 ≤ d) (hmx : mj.2.2.1 ≤ 21) (hk : as.length = k) (hst : stk = as.reverse ++ st) (hcat : (st.map fun v => v.category).sum ≤ 8) (h1 : cn.1 ≤ C) (h2 : cn.2 ≤ N)
    (kk : zAt G mi (zRm d C N) Q n lv st M1 X1 cn) : zAt G mi (zRm d C N) Q pc lv stk M X cn :=
  j_callS hd hn hw hM hr hmx hk hst hcat h1 h2 (fun v M2 X2 h => by obtain ⟨rfl, rfl, rfl⟩ := h; exact kk)
theorem j_cV {d d' C N i k a c : Nat} {mj : zM} {as stk : List Value} {r : Int32} {M1 : zMem} {X1 : zX} (hd : decode (zc mi) pc = .ok (.invokevirtual i, 3)) (hn : pc + 3 = n) (hw : zCVi mi.1.cls i mj k c) (hM : zCall G mj d' (.ref a :: as) (zI r M1 X1) M X 0 0) (hr : d' + 1 ≤ d) (hmx : mj.2.2.1 ≤ 21) (hk : as.length = k) (hst : stk = as.reverse ++ .ref a :: st) (hcat : (st.map fun v => v.category).sum ≤ 8) (hc : xc X a = c) (a1 : 16 ≤ a) (a2 : a < xz X) (h1 : cn.1 ≤ C) (h2 : cn.2 ≤ N)
    (kk : zAt G mi (zRm d C N) Q n lv (.int r :: st) M1 X1 cn) : zAt G mi (zRm d C N) Q pc lv stk M X cn :=
  j_callV hd hn hw hM hr hmx hk hst hcat hc a1 a2 h1 h2 (fun v M2 X2 h => by obtain ⟨rfl, rfl, rfl⟩ := h; exact kk)
theorem j_cVv {d d' C N i k a c : Nat} {mj : zM} {as stk : List Value} {M1 : zMem} {X1 : zX} (hd : decode (zc mi) pc = .ok (.invokevirtual i, 3)) (hn : pc + 3 = n) (hw : zCVi mi.1.cls i mj k c) (hM : zCall G mj d' (.ref a :: as) (zV M1 X1) M X 0 0) (hr : d' + 1 ≤ d) (hmx : mj.2.2.1 ≤ 21) (hk : as.length = k) (hst : stk = as.reverse ++ .ref a :: st) (hcat : (st.map fun v => v.category).sum ≤ 8) (hc : xc X a = c) (a1 : 16 ≤ a) (a2 : a < xz X) (h1 : cn.1 ≤ C) (h2 : cn.2 ≤ N)
    (kk : zAt G mi (zRm d C N) Q n lv st M1 X1 cn) : zAt G mi (zRm d C N) Q pc lv stk M X cn :=
  j_callV hd hn hw hM hr hmx hk hst hcat hc a1 a2 h1 h2 (fun v M2 X2 h => by obtain ⟨rfl, rfl, rfl⟩ := h; exact kk)
theorem j_cVr {d d' C N i k a c : Nat} {mj : zM} {as stk : List Value} {P : Int32 → zMem → zX → Prop} (hd : decode (zc mi) pc = .ok (.invokevirtual i, 3)) (hn : pc + 3 = n) (hw : zCVi mi.1.cls i mj k c) (hM : zCall G mj d' (.ref a :: as) (zIr P) M X 0 0) (hr : d' + 1 ≤ d) (hmx : mj.2.2.1 ≤ 21) (hk : as.length = k) (hst : stk = as.reverse ++ .ref a :: st) (hcat : (st.map fun v => v.category).sum ≤ 8) (hc : xc X a = c) (a1 : 16 ≤ a) (a2 : a < xz X) (h1 : cn.1 ≤ C) (h2 : cn.2 ≤ N)
    (kk : ∀ (r : Int32) (M1 : zMem) (X1 : zX), P r M1 X1 → zAt G mi (zRm d C N) Q n lv (.int r :: st) M1 X1 cn) : zAt G mi (zRm d C N) Q pc lv stk M X cn :=
  j_callV hd hn hw hM hr hmx hk hst hcat hc a1 a2 h1 h2 (fun v M2 X2 h => by obtain ⟨r, rfl, h⟩ := h; exact kk r M2 X2 h)
theorem j_cVvr {d d' C N i k a c : Nat} {mj : zM} {as stk : List Value} {P : zMem → zX → Prop} (hd : decode (zc mi) pc = .ok (.invokevirtual i, 3)) (hn : pc + 3 = n) (hw : zCVi mi.1.cls i mj k c) (hM : zCall G mj d' (.ref a :: as) (zVr P) M X 0 0) (hr : d' + 1 ≤ d) (hmx : mj.2.2.1 ≤ 21) (hk : as.length = k) (hst : stk = as.reverse ++ .ref a :: st) (hcat : (st.map fun v => v.category).sum ≤ 8) (hc : xc X a = c) (a1 : 16 ≤ a) (a2 : a < xz X) (h1 : cn.1 ≤ C) (h2 : cn.2 ≤ N)
    (kk : ∀ (M1 : zMem) (X1 : zX), P M1 X1 → zAt G mi (zRm d C N) Q n lv st M1 X1 cn) : zAt G mi (zRm d C N) Q pc lv stk M X cn :=
  j_callV hd hn hw hM hr hmx hk hst hcat hc a1 a2 h1 h2 (fun v M2 X2 h => by obtain ⟨rfl, h⟩ := h; exact kk M2 X2 h)
end ZR
