-- INSTRUCTIONS: a row each; the next place n is named
section ZI
variable {G : zG} {mi : zM} {rm : Room} {Q : List Frame → Array Value → State → State → Prop} {pc n : Nat} {lv : List (Option Value)} {st : List Value} {M : zMem} {X : zX} {cn : Nat × Nat}
theorem j_iconst {v : Int32} {i : Int} (hd : decode (zc mi) pc = .ok (.iconst i, 1)) (hn : pc + 1 = n) (hv : Int32.ofInt i = v) (k : zAt G mi rm Q n lv (.int v :: st) M X cn) : zAt G mi rm Q pc lv st M X cn := by
  subst hn
  exact fun p e s m args below meth c H locs ls E hP hS hl => lv_iconst E.1 E.2.1 hd hv (k p e s m args below meth c H locs ls E hP hS hl)
theorem j_bipush {v : Int32} {i : Int} (hd : decode (zc mi) pc = .ok (.bipush i, 2)) (hn : pc + 2 = n) (hv : (Int8.ofInt i).toInt32 = v) (k : zAt G mi rm Q n lv (.int v :: st) M X cn) : zAt G mi rm Q pc lv st M X cn := by
  subst hn
  exact fun p e s m args below meth c H locs ls E hP hS hl => lv_bipush E.1 E.2.1 hd hv (k p e s m args below meth c H locs ls E hP hS hl)
theorem j_sipush {v : Int32} {i : Int} (hd : decode (zc mi) pc = .ok (.sipush i, 3)) (hn : pc + 3 = n) (hv : (Int16.ofInt i).toInt32 = v) (k : zAt G mi rm Q n lv (.int v :: st) M X cn) : zAt G mi rm Q pc lv st M X cn := by
  subst hn
  exact fun p e s m args below meth c H locs ls E hP hS hl => lv_sipush E.1 E.2.1 hd hv (k p e s m args below meth c H locs ls E hP hS hl)
theorem j_lconst {v : Int64} {i : Fin 2} (hd : decode (zc mi) pc = .ok (.lconst i, 1)) (hn : pc + 1 = n) (hv : Int64.ofNat (i : Nat) = v) (k : zAt G mi rm Q n lv (.long v :: st) M X cn) : zAt G mi rm Q pc lv st M X cn := by
  subst hn
  exact fun p e s m args below meth c H locs ls E hP hS hl => lv_lconst E.1 E.2.1 hd hv (k p e s m args below meth c H locs ls E hP hS hl)
theorem j_ldc {v : Int32} {i : Nat} (hd : decode (zc mi) pc = .ok (.ldc i, 2)) (hn : pc + 2 = n) (hw : Cond.constant mi.1.cls i v ∈ zT) (k : zAt G mi rm Q n lv (.int v :: st) M X cn) : zAt G mi rm Q pc lv st M X cn := by
  subst hn
  exact fun p e s m args below meth c H locs ls E hP hS hl => lv_ldc E.1 E.2.1 E.2.2.2.2.2.2.1 (E.2.2.2.2.2.2.2.1 _ hw) hd (k p e s m args below meth c H locs ls E hP hS hl)
theorem j_ldcw {v : Int32} {i : Nat} (hd : decode (zc mi) pc = .ok (.ldc_w i, 3)) (hn : pc + 3 = n) (hw : Cond.constant mi.1.cls i v ∈ zT) (k : zAt G mi rm Q n lv (.int v :: st) M X cn) : zAt G mi rm Q pc lv st M X cn := by
  subst hn
  exact fun p e s m args below meth c H locs ls E hP hS hl => lv_ldcw E.1 E.2.1 E.2.2.2.2.2.2.1 (E.2.2.2.2.2.2.2.1 _ hw) hd (k p e s m args below meth c H locs ls E hP hS hl)
theorem j_ldc2 {v : Int64} {i : Nat} (hd : decode (zc mi) pc = .ok (.ldc2_w i, 3)) (hn : pc + 3 = n) (hw : Cond.constantLong mi.1.cls i v ∈ zT) (k : zAt G mi rm Q n lv (.long v :: st) M X cn) : zAt G mi rm Q pc lv st M X cn := by
  subst hn
  exact fun p e s m args below meth c H locs ls E hP hS hl => lv_ldc2 E.1 E.2.1 E.2.2.2.2.2.2.1 (E.2.2.2.2.2.2.2.1 _ hw) hd (k p e s m args below meth c H locs ls E hP hS hl)
theorem j_iload_n {i : Fin 4} {x : Int32} (hd : decode (zc mi) pc = .ok (.iload_n i, 1)) (hn : pc + 1 = n) (hl0 : lv[(i : Nat)]? = some (some (.int x))) (k : zAt G mi rm Q n lv (.int x :: st) M X cn) : zAt G mi rm Q pc lv st M X cn := by
  subst hn
  exact fun p e s m args below meth c H locs ls E hP hS hl => lv_iload_n E.1 E.2.1 hd rfl (hl.2.2.2 _ _ hl0) (k p e s m args below meth c H locs ls E hP hS hl)
theorem j_iload {i : Nat} {x : Int32} (hd : decode (zc mi) pc = .ok (.iload i, 2)) (hn : pc + 2 = n) (hl0 : lv[i]? = some (some (.int x))) (k : zAt G mi rm Q n lv (.int x :: st) M X cn) : zAt G mi rm Q pc lv st M X cn := by
  subst hn
  exact fun p e s m args below meth c H locs ls E hP hS hl => lv_iload E.1 E.2.1 hd (hl.2.2.2 _ _ hl0) (k p e s m args below meth c H locs ls E hP hS hl)
theorem j_lload_n {i : Fin 4} {x : Int64} (hd : decode (zc mi) pc = .ok (.lload_n i, 1)) (hn : pc + 1 = n) (hl0 : lv[(i : Nat)]? = some (some (.long x))) (k : zAt G mi rm Q n lv (.long x :: st) M X cn) : zAt G mi rm Q pc lv st M X cn := by
  subst hn
  exact fun p e s m args below meth c H locs ls E hP hS hl => lv_lload_n E.1 E.2.1 hd rfl (hl.2.2.2 _ _ hl0) (k p e s m args below meth c H locs ls E hP hS hl)
theorem j_lload {i : Nat} {x : Int64} (hd : decode (zc mi) pc = .ok (.lload i, 2)) (hn : pc + 2 = n) (hl0 : lv[i]? = some (some (.long x))) (k : zAt G mi rm Q n lv (.long x :: st) M X cn) : zAt G mi rm Q pc lv st M X cn := by
  subst hn
  exact fun p e s m args below meth c H locs ls E hP hS hl => lv_lload E.1 E.2.1 hd (hl.2.2.2 _ _ hl0) (k p e s m args below meth c H locs ls E hP hS hl)
theorem j_aload_n {i : Fin 4} {x : Nat} (hd : decode (zc mi) pc = .ok (.aload_n i, 1)) (hn : pc + 1 = n) (hl0 : lv[(i : Nat)]? = some (some (.ref x))) (k : zAt G mi rm Q n lv (.ref x :: st) M X cn) : zAt G mi rm Q pc lv st M X cn := by
  subst hn
  exact fun p e s m args below meth c H locs ls E hP hS hl => lv_aload_n E.1 E.2.1 hd rfl (hl.2.2.2 _ _ hl0) (k p e s m args below meth c H locs ls E hP hS hl)
theorem j_aload {i : Nat} {x : Nat} (hd : decode (zc mi) pc = .ok (.aload i, 2)) (hn : pc + 2 = n) (hl0 : lv[i]? = some (some (.ref x))) (k : zAt G mi rm Q n lv (.ref x :: st) M X cn) : zAt G mi rm Q pc lv st M X cn := by
  subst hn
  exact fun p e s m args below meth c H locs ls E hP hS hl => lv_aload E.1 E.2.1 hd (hl.2.2.2 _ _ hl0) (k p e s m args below meth c H locs ls E hP hS hl)
theorem j_aload_nN {i : Fin 4} (hd : decode (zc mi) pc = .ok (.aload_n i, 1)) (hn : pc + 1 = n) (hl0 : lv[(i : Nat)]? = some (some .null)) (k : zAt G mi rm Q n lv (.null :: st) M X cn) : zAt G mi rm Q pc lv st M X cn := by
  subst hn
  exact fun p e s m args below meth c H locs ls E hP hS hl => lv_aload_nN E.1 E.2.1 hd rfl (hl.2.2.2 _ _ hl0) (k p e s m args below meth c H locs ls E hP hS hl)
theorem j_aloadN {i : Nat} (hd : decode (zc mi) pc = .ok (.aload i, 2)) (hn : pc + 2 = n) (hl0 : lv[i]? = some (some .null)) (k : zAt G mi rm Q n lv (.null :: st) M X cn) : zAt G mi rm Q pc lv st M X cn := by
  subst hn
  exact fun p e s m args below meth c H locs ls E hP hS hl => lv_aloadN E.1 E.2.1 hd (hl.2.2.2 _ _ hl0) (k p e s m args below meth c H locs ls E hP hS hl)
/-- all locals are of one word -/
def lv1 : List (Option Value) → Bool
  | [] => true
  | none :: l => lv1 l
  | some v :: l => (v.category == 1) && lv1 l
theorem lv1_at : ∀ {lv : List (Option Value)} (_ : lv1 lv = true) {i : Nat} {v : Value}, lv[i]? = some (some v) → v.category = 1
  | [], _, i, v, hv => by simp at hv
  | none :: l, h, 0, v, hv => by simp at hv
  | none :: l, h, i + 1, v, hv => lv1_at (lv := l) h (i := i) (by simpa using hv)
  | some w :: l, h, 0, v, hv => by
    simp only [lv1, Bool.and_eq_true, beq_iff_eq] at h
    simp only [List.getElem?_cons_zero, Option.some.injEq] at hv
    rw [← hv]; exact h.1
  | some w :: l, h, i + 1, v, hv => by
    simp only [lv1, Bool.and_eq_true, beq_iff_eq] at h
    exact lv1_at (lv := l) h.2 (i := i) (by simpa using hv)
def zpr (G : zG) : Nat → List (Option Value) → List (Nat × Value)
  | _, [] => []
  | i, none :: l => zpr G (i + 1) l
  | i, some v :: l => (i, zv G v) :: zpr G (i + 1) l
theorem zpr_mem (G : zG) : ∀ (l : List (Option Value)) (i j : Nat) (w : Value), (j, w) ∈ zpr G i l → ∃ v, w = zv G v ∧ i ≤ j ∧ l[j - i]? = some (some v)
  | [], i, j, w, h => by simp [zpr] at h
  | none :: l, i, j, w, h => by
    obtain ⟨v, h1, h2, h3⟩ := zpr_mem G l (i + 1) j w h
    refine ⟨v, h1, by omega, ?_⟩
    rw [show j - i = (j - (i + 1)) + 1 by omega]
    simpa using h3
  | some u :: l, i, j, w, h => by
    simp only [zpr, List.mem_cons, Prod.mk.injEq] at h
    rcases h with ⟨h1, h2⟩ | h
    · subst h1
      exact ⟨u, h2, Nat.le_refl _, by simp⟩
    · obtain ⟨v, h1, h2, h3⟩ := zpr_mem G l (i + 1) j w h
      refine ⟨v, h1, by omega, ?_⟩
      rw [show j - i = (j - (i + 1)) + 1 by omega]
      simpa using h3
theorem zpr_in (G : zG) : ∀ (l : List (Option Value)) (i j : Nat) (v : Value), l[j]? = some (some v) → (i + j, zv G v) ∈ zpr G i l
  | [], i, j, v, h => by simp at h
  | none :: l, i, 0, v, h => by simp at h
  | none :: l, i, j + 1, v, h => by
    have := zpr_in G l (i + 1) j v (by simpa using h)
    rw [show i + (j + 1) = i + 1 + j by omega]
    exact this
  | some u :: l, i, 0, v, h => by
    simp only [List.getElem?_cons_zero, Option.some.injEq] at h
    subst h
    simp [zpr]
  | some u :: l, i, j + 1, v, h => by
    have := zpr_in G l (i + 1) j v (by simpa using h)
    rw [show i + (j + 1) = i + 1 + j by omega]
    exact List.mem_cons_of_mem _ this
theorem zL_has {ls : Array Slot} {nl : Nat} (h : zL G ls nl lv) : lv_has ls nl (zpr G 0 lv) := ⟨h.1, h.2.1, fun q hq => by
  obtain ⟨v, h1, h2, h3⟩ := zpr_mem G lv 0 q.1 q.2 hq
  rw [h1]
  exact h.2.2.2 _ _ (by simpa using h3)⟩
theorem zL_set {ls ls1 : Array Slot} {nl i : Nat} {v : Value} (h : zL G ls nl lv) (hc : lv1 lv = true) (h1 : lv_has ls1 nl ((i, zv G v) :: (zpr G 0 lv).filter (fun q => !(q.1 == i) && !(q.1 + 1 == i && q.2.category == 2)))) : zL G ls1 nl (lv.set i (some v)) := by
  refine ⟨h1.1, h1.2.1, by rw [List.length_set]; exact h.2.2.1, fun j w hw => ?_⟩
  rw [List.getElem?_set] at hw
  by_cases e : i = j
  · subst e
    rw [if_pos rfl] at hw
    by_cases e2 : i < lv.length
    · rw [if_pos e2] at hw
      cases hw
      exact h1.2.2 (i, zv G v) List.mem_cons_self
    · rw [if_neg e2] at hw; cases hw
  · rw [if_neg e] at hw
    refine h1.2.2 (j, zv G w) (List.mem_cons_of_mem _ (List.mem_filter.mpr ⟨by simpa using zpr_in G lv 0 j w hw, ?_⟩))
    have hcat : (zv G w).category = 1 := by
      have := lv1_at hc hw
      cases w <;> exact this
    simp [Ne.symm e, hcat]
theorem j_istore_n {i : Fin 4} {x : Int32} {lv2 : List (Option Value)} (hd : decode (zc mi) pc = .ok (.istore_n i, 1)) (hn : pc + 1 = n) (hc : lv1 lv = true) (hi : (i : Nat) < mi.2.2.1) (h2 : lv.set i (some (.int x)) = lv2) (k : zAt G mi rm Q n lv2 st M X cn) : zAt G mi rm Q pc lv (.int x :: st) M X cn := by
  subst hn; subst h2
  exact fun p e s m args below meth c H locs ls E hP hS hl => lv_istore_n E.1 E.2.1 hd rfl (zL_has hl) hi rfl (fun ls1 h1 => k p e s m args below meth c H locs ls1 E hP hS (zL_set (v := .int x) hl hc h1))
theorem j_istore {i : Nat} {x : Int32} {lv2 : List (Option Value)} (hd : decode (zc mi) pc = .ok (.istore i, 2)) (hn : pc + 2 = n) (hc : lv1 lv = true) (hi : (i : Nat) < mi.2.2.1) (h2 : lv.set i (some (.int x)) = lv2) (k : zAt G mi rm Q n lv2 st M X cn) : zAt G mi rm Q pc lv (.int x :: st) M X cn := by
  subst hn; subst h2
  exact fun p e s m args below meth c H locs ls E hP hS hl => lv_istore E.1 E.2.1 hd (zL_has hl) hi rfl (fun ls1 h1 => k p e s m args below meth c H locs ls1 E hP hS (zL_set (v := .int x) hl hc h1))
theorem j_astore_n {i : Fin 4} {x : Nat} {lv2 : List (Option Value)} (hd : decode (zc mi) pc = .ok (.astore_n i, 1)) (hn : pc + 1 = n) (hc : lv1 lv = true) (hi : (i : Nat) < mi.2.2.1) (h2 : lv.set i (some (.ref x)) = lv2) (k : zAt G mi rm Q n lv2 st M X cn) : zAt G mi rm Q pc lv (.ref x :: st) M X cn := by
  subst hn; subst h2
  exact fun p e s m args below meth c H locs ls E hP hS hl => lv_astore_n E.1 E.2.1 hd rfl (zL_has hl) hi rfl (fun ls1 h1 => k p e s m args below meth c H locs ls1 E hP hS (zL_set (v := .ref x) hl hc h1))
theorem j_astore {i : Nat} {x : Nat} {lv2 : List (Option Value)} (hd : decode (zc mi) pc = .ok (.astore i, 2)) (hn : pc + 2 = n) (hc : lv1 lv = true) (hi : (i : Nat) < mi.2.2.1) (h2 : lv.set i (some (.ref x)) = lv2) (k : zAt G mi rm Q n lv2 st M X cn) : zAt G mi rm Q pc lv (.ref x :: st) M X cn := by
  subst hn; subst h2
  exact fun p e s m args below meth c H locs ls E hP hS hl => lv_astore E.1 E.2.1 hd (zL_has hl) hi rfl (fun ls1 h1 => k p e s m args below meth c H locs ls1 E hP hS (zL_set (v := .ref x) hl hc h1))
theorem j_astore_nN {i : Fin 4} {lv2 : List (Option Value)} (hd : decode (zc mi) pc = .ok (.astore_n i, 1)) (hn : pc + 1 = n) (hc : lv1 lv = true) (hi : (i : Nat) < mi.2.2.1) (h2 : lv.set i (some .null) = lv2) (k : zAt G mi rm Q n lv2 st M X cn) : zAt G mi rm Q pc lv (.null :: st) M X cn := by
  subst hn; subst h2
  exact fun p e s m args below meth c H locs ls E hP hS hl => lv_astore_nN E.1 E.2.1 hd rfl (zL_has hl) hi rfl (fun ls1 h1 => k p e s m args below meth c H locs ls1 E hP hS (zL_set (v := .null) hl hc h1))
theorem j_iinc {i : Nat} {j : Int} {x y : Int32} {lv2 : List (Option Value)} (hd : decode (zc mi) pc = .ok (.iinc i j, 3)) (hn : pc + 3 = n) (hc : lv1 lv = true) (hi : (i : Nat) < mi.2.2.1) (hl0 : lv[i]? = some (some (.int x))) (hv : x + Int32.ofInt j = y) (h2 : lv.set i (some (.int y)) = lv2) (k : zAt G mi rm Q n lv2 st M X cn) : zAt G mi rm Q pc lv st M X cn := by
  subst hn; subst h2
  intro p e s m args below meth c H locs ls E hP hS hl
  have hm := zpr_in G lv 0 i _ hl0
  obtain ⟨k0, hk0⟩ := List.getElem?_of_mem hm
  exact lv_iinc (k := k0) E.1 E.2.1 hd (zL_has hl) (by simpa [zv] using hk0) hv hi rfl (fun ls1 h1 => k p e s m args below meth c H locs ls1 E hP hS (zL_set (v := .int y) hl hc h1))
theorem j_iadd {x y : Int32} (hd : decode (zc mi) pc = .ok (.iadd, 1)) (hn : pc + 1 = n) (k : zAt G mi rm Q n lv (.int (x + y) :: st) M X cn) : zAt G mi rm Q pc lv (.int y :: .int x :: st) M X cn := by
  subst hn
  exact fun p e s m args below meth c H locs ls E hP hS hl => lv_iadd E.1 E.2.1 hd (k p e s m args below meth c H locs ls E hP hS hl)
theorem j_isub {x y : Int32} (hd : decode (zc mi) pc = .ok (.isub, 1)) (hn : pc + 1 = n) (k : zAt G mi rm Q n lv (.int (x - y) :: st) M X cn) : zAt G mi rm Q pc lv (.int y :: .int x :: st) M X cn := by
  subst hn
  exact fun p e s m args below meth c H locs ls E hP hS hl => lv_isub E.1 E.2.1 hd (k p e s m args below meth c H locs ls E hP hS hl)
theorem j_imul {x y : Int32} (hd : decode (zc mi) pc = .ok (.imul, 1)) (hn : pc + 1 = n) (k : zAt G mi rm Q n lv (.int (x * y) :: st) M X cn) : zAt G mi rm Q pc lv (.int y :: .int x :: st) M X cn := by
  subst hn
  exact fun p e s m args below meth c H locs ls E hP hS hl => lv_imul E.1 E.2.1 hd (k p e s m args below meth c H locs ls E hP hS hl)
theorem j_iand {x y : Int32} (hd : decode (zc mi) pc = .ok (.iand, 1)) (hn : pc + 1 = n) (k : zAt G mi rm Q n lv (.int (x &&& y) :: st) M X cn) : zAt G mi rm Q pc lv (.int y :: .int x :: st) M X cn := by
  subst hn
  exact fun p e s m args below meth c H locs ls E hP hS hl => lv_iand E.1 E.2.1 hd (k p e s m args below meth c H locs ls E hP hS hl)
theorem j_ior {x y : Int32} (hd : decode (zc mi) pc = .ok (.ior, 1)) (hn : pc + 1 = n) (k : zAt G mi rm Q n lv (.int (x ||| y) :: st) M X cn) : zAt G mi rm Q pc lv (.int y :: .int x :: st) M X cn := by
  subst hn
  exact fun p e s m args below meth c H locs ls E hP hS hl => lv_ior E.1 E.2.1 hd (k p e s m args below meth c H locs ls E hP hS hl)
theorem j_idiv {x y : Int32} (hd : decode (zc mi) pc = .ok (.idiv, 1)) (hn : pc + 1 = n) (hne : ¬ y = 0) (k : zAt G mi rm Q n lv (.int (x / y) :: st) M X cn) : zAt G mi rm Q pc lv (.int y :: .int x :: st) M X cn := by
  subst hn
  exact fun p e s m args below meth c H locs ls E hP hS hl => lv_idiv E.1 E.2.1 hd hne (k p e s m args below meth c H locs ls E hP hS hl)
/-- the rest, as the machine makes it -/
def zrem (x y : Int32) : Int32 := x - x / y * y
theorem j_irem {x y : Int32} (hd : decode (zc mi) pc = .ok (.irem, 1)) (hn : pc + 1 = n) (hne : ¬ y = 0) (k : zAt G mi rm Q n lv (.int (zrem x y) :: st) M X cn) : zAt G mi rm Q pc lv (.int y :: .int x :: st) M X cn := by
  subst hn
  exact fun p e s m args below meth c H locs ls E hP hS hl => lv_irem E.1 E.2.1 hd hne (k p e s m args below meth c H locs ls E hP hS hl)
theorem j_ineg {x : Int32} (hd : decode (zc mi) pc = .ok (.ineg, 1)) (hn : pc + 1 = n) (k : zAt G mi rm Q n lv (.int (-x) :: st) M X cn) : zAt G mi rm Q pc lv (.int x :: st) M X cn := by
  subst hn
  exact fun p e s m args below meth c H locs ls E hP hS hl => lv_ineg E.1 E.2.1 hd (k p e s m args below meth c H locs ls E hP hS hl)
theorem j_ishl {x y : Int32} (hd : decode (zc mi) pc = .ok (.ishl, 1)) (hn : pc + 1 = n) (k : zAt G mi rm Q n lv (.int (x <<< (y &&& 31)) :: st) M X cn) : zAt G mi rm Q pc lv (.int y :: .int x :: st) M X cn := by
  subst hn
  exact fun p e s m args below meth c H locs ls E hP hS hl => lv_ishl E.1 E.2.1 hd (k p e s m args below meth c H locs ls E hP hS hl)
theorem j_ishr {x y : Int32} (hd : decode (zc mi) pc = .ok (.ishr, 1)) (hn : pc + 1 = n) (k : zAt G mi rm Q n lv (.int (x >>> (y &&& 31)) :: st) M X cn) : zAt G mi rm Q pc lv (.int y :: .int x :: st) M X cn := by
  subst hn
  exact fun p e s m args below meth c H locs ls E hP hS hl => lv_ishr E.1 E.2.1 hd (k p e s m args below meth c H locs ls E hP hS hl)
/-- the unsigned shift, as the machine makes it -/
def zushr (x y : Int32) : Int32 := (x.toUInt32 >>> (y.toUInt32 &&& Int32.toUInt32 31)).toInt32
theorem j_iushr {x y : Int32} (hd : decode (zc mi) pc = .ok (.iushr, 1)) (hn : pc + 1 = n) (k : zAt G mi rm Q n lv (.int (zushr x y) :: st) M X cn) : zAt G mi rm Q pc lv (.int y :: .int x :: st) M X cn := by
  subst hn
  exact fun p e s m args below meth c H locs ls E hP hS hl => lv_iushr E.1 E.2.1 hd rfl (k p e s m args below meth c H locs ls E hP hS hl)
theorem j_i2l {x : Int32} (hd : decode (zc mi) pc = .ok (.i2l, 1)) (hn : pc + 1 = n) (k : zAt G mi rm Q n lv (.long x.toInt64 :: st) M X cn) : zAt G mi rm Q pc lv (.int x :: st) M X cn := by
  subst hn
  exact fun p e s m args below meth c H locs ls E hP hS hl => lv_i2l E.1 E.2.1 hd rfl (k p e s m args below meth c H locs ls E hP hS hl)
theorem j_i2b {x : Int32} (hd : decode (zc mi) pc = .ok (.i2b, 1)) (hn : pc + 1 = n) (k : zAt G mi rm Q n lv (.int x.toInt8.toInt32 :: st) M X cn) : zAt G mi rm Q pc lv (.int x :: st) M X cn := by
  subst hn
  exact fun p e s m args below meth c H locs ls E hP hS hl => lv_i2b E.1 E.2.1 hd rfl (k p e s m args below meth c H locs ls E hP hS hl)
theorem j_i2s {x : Int32} (hd : decode (zc mi) pc = .ok (.i2s, 1)) (hn : pc + 1 = n) (k : zAt G mi rm Q n lv (.int x.toInt16.toInt32 :: st) M X cn) : zAt G mi rm Q pc lv (.int x :: st) M X cn := by
  subst hn
  exact fun p e s m args below meth c H locs ls E hP hS hl => lv_i2s E.1 E.2.1 hd rfl (k p e s m args below meth c H locs ls E hP hS hl)
theorem j_i2c {x : Int32} (hd : decode (zc mi) pc = .ok (.i2c, 1)) (hn : pc + 1 = n) (k : zAt G mi rm Q n lv (.int (x.toUInt32 % 65536).toInt32 :: st) M X cn) : zAt G mi rm Q pc lv (.int x :: st) M X cn := by
  subst hn
  exact fun p e s m args below meth c H locs ls E hP hS hl => lv_i2c E.1 E.2.1 hd rfl (k p e s m args below meth c H locs ls E hP hS hl)
theorem j_ladd {x y : Int64} (hd : decode (zc mi) pc = .ok (.ladd, 1)) (hn : pc + 1 = n) (k : zAt G mi rm Q n lv (.long (x + y) :: st) M X cn) : zAt G mi rm Q pc lv (.long y :: .long x :: st) M X cn := by
  subst hn
  exact fun p e s m args below meth c H locs ls E hP hS hl => lv_ladd E.1 E.2.1 hd (k p e s m args below meth c H locs ls E hP hS hl)
theorem zv_cat (G : zG) (v : Value) : (zv G v).category = v.category := by cases v <;> rfl
theorem j_dup {v : Value} (hd : decode (zc mi) pc = .ok (.dup, 1)) (hn : pc + 1 = n) (hv : v.category = 1) (k : zAt G mi rm Q n lv (v :: v :: st) M X cn) : zAt G mi rm Q pc lv (v :: st) M X cn := by
  subst hn
  exact fun p e s m args below meth c H locs ls E hP hS hl => lv_dup E.1 E.2.1 hd ((zv_cat G v).trans hv) (k p e s m args below meth c H locs ls E hP hS hl)
theorem j_dup_x1 {v w : Value} (hd : decode (zc mi) pc = .ok (.dup_x1, 1)) (hn : pc + 1 = n) (hv : v.category = 1) (hw : w.category = 1) (k : zAt G mi rm Q n lv (v :: w :: v :: st) M X cn) : zAt G mi rm Q pc lv (v :: w :: st) M X cn := by
  subst hn
  exact fun p e s m args below meth c H locs ls E hP hS hl => lv_dup_x1 E.1 E.2.1 hd ((zv_cat G v).trans hv) ((zv_cat G w).trans hw) (k p e s m args below meth c H locs ls E hP hS hl)
theorem j_dup2 {v w : Value} (hd : decode (zc mi) pc = .ok (.dup2, 1)) (hn : pc + 1 = n) (hv : v.category = 1) (hw : w.category = 1) (k : zAt G mi rm Q n lv (v :: w :: v :: w :: st) M X cn) : zAt G mi rm Q pc lv (v :: w :: st) M X cn := by
  subst hn
  exact fun p e s m args below meth c H locs ls E hP hS hl => lv_dup2_11 E.1 E.2.1 hd ((zv_cat G v).trans hv) ((zv_cat G w).trans hw) (k p e s m args below meth c H locs ls E hP hS hl)
theorem j_pop {v : Value} (hd : decode (zc mi) pc = .ok (.pop, 1)) (hn : pc + 1 = n) (hv : v.category = 1) (k : zAt G mi rm Q n lv st M X cn) : zAt G mi rm Q pc lv (v :: st) M X cn := by
  subst hn
  exact fun p e s m args below meth c H locs ls E hP hS hl => lv_pop E.1 E.2.1 hd ((zv_cat G v).trans hv) (k p e s m args below meth c H locs ls E hP hS hl)
theorem j_goto {o : Int} (hd : decode (zc mi) pc = .ok (.goto o, 3)) (hn : (pc : Int) + o = (n : Int)) (k : zAt G mi rm Q n lv st M X cn) : zAt G mi rm Q pc lv st M X cn :=
  fun p e s m args below meth c H locs ls E hP hS hl => lv_goto E.1 E.2.1 hd hn (k p e s m args below meth c H locs ls E hP hS hl)
theorem j_if_eq {o : Int} {tg : Nat} {x : Int32} (hd : decode (zc mi) pc = .ok (.ifCond .eq o, 3)) (ht : (pc : Int) + o = (tg : Int)) (hn : pc + 3 = n) (k1 : x = 0 → zAt G mi rm Q tg lv st M X cn) (k2 : ¬ x = 0 → zAt G mi rm Q n lv st M X cn) : zAt G mi rm Q pc lv (.int x :: st) M X cn := by
  subst hn
  exact fun p e s m args below meth c H locs ls E hP hS hl => lv_if_eq E.1 E.2.1 hd ht (fun h => k1 h p e s m args below meth c H locs ls E hP hS hl) (fun h => k2 h p e s m args below meth c H locs ls E hP hS hl)
theorem j_if_ne {o : Int} {tg : Nat} {x : Int32} (hd : decode (zc mi) pc = .ok (.ifCond .ne o, 3)) (ht : (pc : Int) + o = (tg : Int)) (hn : pc + 3 = n) (k1 : ¬ x = 0 → zAt G mi rm Q tg lv st M X cn) (k2 : x = 0 → zAt G mi rm Q n lv st M X cn) : zAt G mi rm Q pc lv (.int x :: st) M X cn := by
  subst hn
  exact fun p e s m args below meth c H locs ls E hP hS hl => lv_if_ne E.1 E.2.1 hd ht (fun h => k1 h p e s m args below meth c H locs ls E hP hS hl) (fun h => k2 h p e s m args below meth c H locs ls E hP hS hl)
theorem j_if_lt {o : Int} {tg : Nat} {x : Int32} (hd : decode (zc mi) pc = .ok (.ifCond .lt o, 3)) (ht : (pc : Int) + o = (tg : Int)) (hn : pc + 3 = n) (k1 : x < 0 → zAt G mi rm Q tg lv st M X cn) (k2 : ¬ x < 0 → zAt G mi rm Q n lv st M X cn) : zAt G mi rm Q pc lv (.int x :: st) M X cn := by
  subst hn
  exact fun p e s m args below meth c H locs ls E hP hS hl => lv_if_lt E.1 E.2.1 hd ht (fun h => k1 h p e s m args below meth c H locs ls E hP hS hl) (fun h => k2 h p e s m args below meth c H locs ls E hP hS hl)
theorem j_if_ge {o : Int} {tg : Nat} {x : Int32} (hd : decode (zc mi) pc = .ok (.ifCond .ge o, 3)) (ht : (pc : Int) + o = (tg : Int)) (hn : pc + 3 = n) (k1 : 0 ≤ x → zAt G mi rm Q tg lv st M X cn) (k2 : ¬ 0 ≤ x → zAt G mi rm Q n lv st M X cn) : zAt G mi rm Q pc lv (.int x :: st) M X cn := by
  subst hn
  exact fun p e s m args below meth c H locs ls E hP hS hl => lv_if_ge E.1 E.2.1 hd ht (fun h => k1 h p e s m args below meth c H locs ls E hP hS hl) (fun h => k2 h p e s m args below meth c H locs ls E hP hS hl)
theorem j_if_gt {o : Int} {tg : Nat} {x : Int32} (hd : decode (zc mi) pc = .ok (.ifCond .gt o, 3)) (ht : (pc : Int) + o = (tg : Int)) (hn : pc + 3 = n) (k1 : 0 < x → zAt G mi rm Q tg lv st M X cn) (k2 : ¬ 0 < x → zAt G mi rm Q n lv st M X cn) : zAt G mi rm Q pc lv (.int x :: st) M X cn := by
  subst hn
  exact fun p e s m args below meth c H locs ls E hP hS hl => lv_if_gt E.1 E.2.1 hd ht (fun h => k1 h p e s m args below meth c H locs ls E hP hS hl) (fun h => k2 h p e s m args below meth c H locs ls E hP hS hl)
theorem j_if_le {o : Int} {tg : Nat} {x : Int32} (hd : decode (zc mi) pc = .ok (.ifCond .le o, 3)) (ht : (pc : Int) + o = (tg : Int)) (hn : pc + 3 = n) (k1 : x ≤ 0 → zAt G mi rm Q tg lv st M X cn) (k2 : ¬ x ≤ 0 → zAt G mi rm Q n lv st M X cn) : zAt G mi rm Q pc lv (.int x :: st) M X cn := by
  subst hn
  exact fun p e s m args below meth c H locs ls E hP hS hl => lv_if_le E.1 E.2.1 hd ht (fun h => k1 h p e s m args below meth c H locs ls E hP hS hl) (fun h => k2 h p e s m args below meth c H locs ls E hP hS hl)
theorem j_icmp_eq {o : Int} {tg : Nat} {x y : Int32} (hd : decode (zc mi) pc = .ok (.if_icmp .eq o, 3)) (ht : (pc : Int) + o = (tg : Int)) (hn : pc + 3 = n) (k1 : x = y → zAt G mi rm Q tg lv st M X cn) (k2 : ¬ x = y → zAt G mi rm Q n lv st M X cn) : zAt G mi rm Q pc lv (.int y :: .int x :: st) M X cn := by
  subst hn
  exact fun p e s m args below meth c H locs ls E hP hS hl => lv_icmp_eq E.1 E.2.1 hd ht (fun h => k1 h p e s m args below meth c H locs ls E hP hS hl) (fun h => k2 h p e s m args below meth c H locs ls E hP hS hl)
theorem j_icmp_ne {o : Int} {tg : Nat} {x y : Int32} (hd : decode (zc mi) pc = .ok (.if_icmp .ne o, 3)) (ht : (pc : Int) + o = (tg : Int)) (hn : pc + 3 = n) (k1 : ¬ x = y → zAt G mi rm Q tg lv st M X cn) (k2 : x = y → zAt G mi rm Q n lv st M X cn) : zAt G mi rm Q pc lv (.int y :: .int x :: st) M X cn := by
  subst hn
  exact fun p e s m args below meth c H locs ls E hP hS hl => lv_icmp_ne E.1 E.2.1 hd ht (fun h => k1 h p e s m args below meth c H locs ls E hP hS hl) (fun h => k2 h p e s m args below meth c H locs ls E hP hS hl)
theorem j_icmp_lt {o : Int} {tg : Nat} {x y : Int32} (hd : decode (zc mi) pc = .ok (.if_icmp .lt o, 3)) (ht : (pc : Int) + o = (tg : Int)) (hn : pc + 3 = n) (k1 : x < y → zAt G mi rm Q tg lv st M X cn) (k2 : ¬ x < y → zAt G mi rm Q n lv st M X cn) : zAt G mi rm Q pc lv (.int y :: .int x :: st) M X cn := by
  subst hn
  exact fun p e s m args below meth c H locs ls E hP hS hl => lv_icmp_lt E.1 E.2.1 hd ht (fun h => k1 h p e s m args below meth c H locs ls E hP hS hl) (fun h => k2 h p e s m args below meth c H locs ls E hP hS hl)
theorem j_icmp_ge {o : Int} {tg : Nat} {x y : Int32} (hd : decode (zc mi) pc = .ok (.if_icmp .ge o, 3)) (ht : (pc : Int) + o = (tg : Int)) (hn : pc + 3 = n) (k1 : y ≤ x → zAt G mi rm Q tg lv st M X cn) (k2 : ¬ y ≤ x → zAt G mi rm Q n lv st M X cn) : zAt G mi rm Q pc lv (.int y :: .int x :: st) M X cn := by
  subst hn
  exact fun p e s m args below meth c H locs ls E hP hS hl => lv_icmp_ge E.1 E.2.1 hd ht (fun h => k1 h p e s m args below meth c H locs ls E hP hS hl) (fun h => k2 h p e s m args below meth c H locs ls E hP hS hl)
theorem j_icmp_gt {o : Int} {tg : Nat} {x y : Int32} (hd : decode (zc mi) pc = .ok (.if_icmp .gt o, 3)) (ht : (pc : Int) + o = (tg : Int)) (hn : pc + 3 = n) (k1 : y < x → zAt G mi rm Q tg lv st M X cn) (k2 : ¬ y < x → zAt G mi rm Q n lv st M X cn) : zAt G mi rm Q pc lv (.int y :: .int x :: st) M X cn := by
  subst hn
  exact fun p e s m args below meth c H locs ls E hP hS hl => lv_icmp_gt E.1 E.2.1 hd ht (fun h => k1 h p e s m args below meth c H locs ls E hP hS hl) (fun h => k2 h p e s m args below meth c H locs ls E hP hS hl)
theorem j_icmp_le {o : Int} {tg : Nat} {x y : Int32} (hd : decode (zc mi) pc = .ok (.if_icmp .le o, 3)) (ht : (pc : Int) + o = (tg : Int)) (hn : pc + 3 = n) (k1 : x ≤ y → zAt G mi rm Q tg lv st M X cn) (k2 : ¬ x ≤ y → zAt G mi rm Q n lv st M X cn) : zAt G mi rm Q pc lv (.int y :: .int x :: st) M X cn := by
  subst hn
  exact fun p e s m args below meth c H locs ls E hP hS hl => lv_icmp_le E.1 E.2.1 hd ht (fun h => k1 h p e s m args below meth c H locs ls E hP hS hl) (fun h => k2 h p e s m args below meth c H locs ls E hP hS hl)
theorem j_ifnonnull {o : Int} {tg a : Nat} (hd : decode (zc mi) pc = .ok (.ifnonnull o, 3)) (ht : (pc : Int) + o = (tg : Int)) (k : zAt G mi rm Q tg lv st M X cn) : zAt G mi rm Q pc lv (.ref a :: st) M X cn :=
  fun p e s m args below meth c H locs ls E hP hS hl => lv_ifnonnull E.1 E.2.1 hd ht (k p e s m args below meth c H locs ls E hP hS hl)
theorem j_ifnonnullN {o : Int} (hd : decode (zc mi) pc = .ok (.ifnonnull o, 3)) (hn : pc + 3 = n) (k : zAt G mi rm Q n lv st M X cn) : zAt G mi rm Q pc lv (.null :: st) M X cn := by
  subst hn
  exact fun p e s m args below meth c H locs ls E hP hS hl => lv_ifnonnullN E.1 E.2.1 hd (k p e s m args below meth c H locs ls E hP hS hl)
end ZI
