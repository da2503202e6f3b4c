-- HEAP, CALLS, ENDS
section ZH
variable {G : zG} {mi : zM} {rm : Room} {Q : List Frame → Array Value → State → State → Prop} {pc n : Nat} {lv : List (Option Value)} {st : List Value} {M : zMem} {X : zX} {cn : Nat × Nat}
/-- a field of numbers of class c at k, by an entry of a class's pool -/
def zFI (own : String) (idx c k : Nat) : Prop := ∃ (C : String) (T : u_T) (N : Nat), vwCl[c]? = some (C, T, N) ∧ k < N ∧ (∀ w ∈ u_ws C T N, w ∈ zT) ∧ Cond.fieldLink own idx (T k).1 (T k).2.1 (T k).2.2.1 ∈ zT ∧ c < 100 ∧ (zK c)[k]? = some true
def zFR (own : String) (idx c k : Nat) : Prop := ∃ (C : String) (T : u_T) (N : Nat), vwCl[c]? = some (C, T, N) ∧ k < N ∧ (∀ w ∈ u_ws C T N, w ∈ zT) ∧ Cond.fieldLink own idx (T k).1 (T k).2.1 (T k).2.2.1 ∈ zT ∧ c < 100 ∧ (zK c)[k]? = some false
theorem j_get {i c k : Nat} {a : Nat} (hd : decode (zc mi) pc = .ok (.getfield i, 3)) (hn : pc + 3 = n) (hf : zFI mi.1.cls i c k) (hc : xc X a = c) (h1 : 16 ≤ a) (h2 : a < xz X) (kk : zAt G mi rm Q n lv (.int (M a k) :: st) M X cn) : zAt G mi rm Q pc lv (.ref a :: st) M X cn := by
  subst hn
  intro p e s m args below meth c0 H locs ls E hP hS hl
  obtain ⟨C, T, N, f1, f2, f3, f4, f5, f6⟩ := hf
  have hat := zP_at hP h1 h2
  rw [zE_obj hc f5] at hat
  exact va_get E.1 E.2.1 E.2.2.2.2.2.2.2.1 f3 E.2.2.2.2.2.2.1 E.2.2.2.2.2.2.2.2.1 (va_P1 hat) 0 rfl f1 k f2 (E.2.2.2.2.2.2.2.1 _ f4) (fun _ h9 => h9) (zF_get f6) hd (kk p e s m args below meth c0 H locs ls E hP hS hl)
theorem j_getr {i c k : Nat} {a b : Nat} (hd : decode (zc mi) pc = .ok (.getfield i, 3)) (hn : pc + 3 = n) (hf : zFR mi.1.cls i c k) (hc : xc X a = c) (h1 : 16 ≤ a) (h2 : a < xz X) (hr : xR X a k = some b) (kk : zAt G mi rm Q n lv (.ref b :: st) M X cn) : zAt G mi rm Q pc lv (.ref a :: st) M X cn := by
  subst hn
  intro p e s m args below meth c0 H locs ls E hP hS hl
  obtain ⟨C, T, N, f1, f2, f3, f4, f5, f6⟩ := hf
  have hat := zP_at hP h1 h2
  rw [zE_obj hc f5] at hat
  refine va_get E.1 E.2.1 E.2.2.2.2.2.2.2.1 f3 E.2.2.2.2.2.2.1 E.2.2.2.2.2.2.2.2.1 (va_P1 hat) 0 rfl f1 k f2 (E.2.2.2.2.2.2.2.1 _ f4) (fun _ h9 => h9) (zF_get f6) hd ?_
  simp only [hr, Option.map_some]
  exact kk p e s m args below meth c0 H locs ls E hP hS hl
theorem j_getn {i c k : Nat} {a : Nat} (hd : decode (zc mi) pc = .ok (.getfield i, 3)) (hn : pc + 3 = n) (hf : zFR mi.1.cls i c k) (hc : xc X a = c) (h1 : 16 ≤ a) (h2 : a < xz X) (hr : xR X a k = none) (kk : zAt G mi rm Q n lv (.null :: st) M X cn) : zAt G mi rm Q pc lv (.ref a :: st) M X cn := by
  subst hn
  intro p e s m args below meth c0 H locs ls E hP hS hl
  obtain ⟨C, T, N, f1, f2, f3, f4, f5, f6⟩ := hf
  have hat := zP_at hP h1 h2
  rw [zE_obj hc f5] at hat
  refine va_get E.1 E.2.1 E.2.2.2.2.2.2.2.1 f3 E.2.2.2.2.2.2.1 E.2.2.2.2.2.2.2.2.1 (va_P1 hat) 0 rfl f1 k f2 (E.2.2.2.2.2.2.2.1 _ f4) (fun _ h9 => h9) (zF_get f6) hd ?_
  simp only [hr, Option.map_none]
  exact kk p e s m args below meth c0 H locs ls E hP hS hl
/-- a field that can be written: fin says whether it is final -/
def zFP (own : String) (idx c k : Nat) (ty : FieldType) (fin b : Bool) : Prop := ∃ (C : String) (T : u_T) (N : Nat) (ty0 : Nat → FieldType), vwCl[c]? = some (C, T, N) ∧ k < N ∧ (∀ w ∈ u_ws C T N, w ∈ zT) ∧ Cond.fieldLink own idx (T k).1 (T k).2.1 (T k).2.2.1 ∈ zT ∧ c < 100 ∧ (zK c)[k]? = some b ∧
  (∀ k, k < N → parseFieldDescriptor (T k).2.2.1 = some (ty0 k)) ∧ (∀ a, a < N → ∀ b, b < N → a ≠ b → (T a).2.1 ≠ (T b).2.1) ∧ (T k).2.2.2 = fin ∧ parseFieldDescriptor (T k).2.2.1 = some ty ∧ (fin = true → (T k).1 = own)
theorem zput0 {p : Program} {e : Env} {s : State} {m : MethodId} {args : Array Value} {below : List Frame} {meth : Method} {c0 : Code} {H : Heap} {locs : List Loc} {ls : Array Slot} {rest : List Value} {Q : State → Prop} {cells slots i c k a : Nat} {ty : FieldType} {fin b : Bool} {fs : List Value} {v : Value}
    (E : zEnv G mi p s m args meth c0) (hd : decode (zc mi) pc = .ok (.putfield i, 3)) (hf : zFP mi.1.cls i c k ty fin b) (hfin : fin = true → mi.1.name = "<init>") (hat : va_at (zD G) vwCl (a, .inr (c, fs)) H) (hl : k < fs.length) (hn : narrow ty v = v) (hfit : fits ty v = true) (hS : va_S (zFree G) s.heap H locs) (ha : zFree G a)
    (kk : ∀ (H1 : Heap) (locs1 : List Loc), H1.size = H.size → (∀ q, q ≠ a → H1[q]? = H[q]?) → va_at (zD G) vwCl (a, .inr (c, fs.set k v)) H1 → va_S (zFree G) s.heap H1 locs1 → W p (zl G) e rm s m args below meth c0 H1 locs1 cells slots Q (F0 m (pc + 3) ls rest)) : W p (zl G) e rm s m args below meth c0 H locs cells slots Q (F0 m pc ls (v :: .ref a :: rest)) := by
  obtain ⟨C, T, N, ty0, f1, f2, f3, f4, f5, f6, f7, f8, f9, f10, f11⟩ := hf
  have hx := E.1
  have hb := E.2.1
  have hown := E.2.2.2.2.2.2.1
  have hts := E.2.2.2.2.2.2.2.1
  have hK := E.2.2.2.2.2.2.2.2.1
  have hap := va_apart (own := mi.1.cls) hts f3 ty0 f7 f8 hK f1
  obtain ⟨r, h1, cell, q1, q2, q3, q4⟩ := hat
  have hr : r = (C, T, N) := Option.some.inj (h1.symm.trans f1)
  subst hr
  obtain ⟨hS0, hfc, kC, hkC, hkind⟩ := hK.1 c _ f1
  obtain ⟨cf, kf, fi, f, hi, hsl⟩ := hS0 k f2
  have hst := (u_facts hfc hkC (u_lays hts f3 f2) hi).1
  have hlay := hts _ (f3 _ (u_in_lay f2))
  have fin0 : ∀ (H' : Heap), H'[a]? = some (cell.setSlot f.slot v) → H'.size = H.size → (∀ q, q ≠ a → H'[q]? = H[q]?) → W p (zl G) e rm s m args below meth c0 H' (locs ++ [⟨a, f.slot⟩]) cells slots Q (F0 m (pc + 3) ls rest) := by
    intro H' e1 e2 e3
    rw [hsl] at e1
    refine kk H' _ e2 e3 ⟨_, f1, t_OB.to (V := updV (vp_V fs) k v) ⟨_, e1, q2, q3, t_set q4 hap f2 v⟩ (fun j _ => vp_updV_set hl v j)⟩ (hS.put e2 e3 ha)
  cases fin with
  | false =>
    unfold u_lay at hlay
    rw [if_neg (by rw [f9]; decide)] at hlay
    have h6 := u_store hfc hkC hkind hlay hi f10 hn hfit
    exact W.putK hx hb (f := f) ⟨hown, hts _ f4, ⟨_, _, _, hi⟩, hst⟩ (by rw [q2]; exact h6) q1 q3 (by rw [hsl]; exact k2_hasslot (q4 k f2)) rfl rfl hd fin0
  | true =>
    unfold u_lay at hlay
    rw [if_pos f9] at hlay
    have hcf : m.cls = cf := by
      obtain ⟨_, _, c', _, _, _, -, -, hf', -, -, -, hown2, -⟩ := Cond.laysFinal_spec hlay
      have e1 : c' = cf := by have := hi.symm.trans hf'; simp at this; exact this.1.symm
      rw [f11 rfl] at hown2
      rw [← e1]; exact Option.some.inj (hown.symm.trans hown2)
    have h6 := u_fits hfc hkC hkind (Or.inr hlay) hi f10 hn hfit
    exact W.putFinK hx hb hown (hts _ f4) hi hst hcf (E.2.2.2.2.2.1.trans (hfin rfl)) (by rw [q2]; exact h6) q1 q3 (by rw [hsl]; exact k2_hasslot (q4 k f2)) rfl rfl hd fin0
theorem j_put {i c k : Nat} {a : Nat} {ty : FieldType} {fin : Bool} {x : Int32} (hd : decode (zc mi) pc = .ok (.putfield i, 3)) (hn : pc + 3 = n) (hf : zFP mi.1.cls i c k ty fin true) (hfin : fin = true → mi.1.name = "<init>") (hnar : narrow ty (.int x) = .int x) (hfit : fits ty (.int x) = true) (hc : xc X a = c) (h1 : 16 ≤ a) (h2 : a < xz X) (kk : zAt G mi rm Q n lv st (zs M a (upd (M a) k x)) X cn) : zAt G mi rm Q pc lv (.int x :: .ref a :: st) M X cn := by
  subst hn
  intro p e s m args below meth c0 H locs ls E hP hS hl
  have hf0 := hf
  obtain ⟨C, T, N, ty0, f1, f2, f3, f4, f5, f6, -⟩ := hf0
  have hat := zP_at hP h1 h2
  rw [zE_obj hc f5] at hat
  refine zput0 E hd hf hfin hat (by rw [zF_len]; exact (List.getElem?_eq_some_iff.mp f6).1) hnar hfit hS (zra_free G h1) (fun H1 locs1 z1 o1 hat1 hS1 => ?_)
  refine kk p e s m args below meth c0 H1 locs1 ls E (zP_put (X := X) hP h1 rfl z1 o1 ?_ (fun b hb => zE_off hb)) hS1 hl
  rw [zE_obj hc f5, zs_eq, zF_setI f6]
  exact hat1
theorem zsR_eq (X : zX) (a : Nat) (f : Nat → Option Nat) : xR (zsR X a f) a = f := if_pos rfl
theorem zfitR {ty : FieldType} (h : (∃ C, ty = .object C) ∨ ∃ t, ty = .array t) (a : Nat) : narrow ty (.ref a) = .ref a ∧ fits ty (.ref a) = true := by
  rcases h with ⟨C, rfl⟩ | ⟨t, rfl⟩ <;> exact ⟨rfl, rfl⟩
theorem j_putr {i c k : Nat} {a b : Nat} {ty : FieldType} {fin : Bool} (hd : decode (zc mi) pc = .ok (.putfield i, 3)) (hn : pc + 3 = n) (hf : zFP mi.1.cls i c k ty fin false) (hfin : fin = true → mi.1.name = "<init>") (hty : (∃ C, ty = .object C) ∨ ∃ t, ty = .array t) (hc : xc X a = c) (h1 : 16 ≤ a) (h2 : a < xz X) (kk : zAt G mi rm Q n lv st M (zsR X a (zup (xR X a) k (some b))) cn) : zAt G mi rm Q pc lv (.ref b :: .ref a :: st) M X cn := by
  subst hn
  intro p e s m args below meth c0 H locs ls E hP hS hl
  have hf0 := hf
  obtain ⟨C, T, N, ty0, f1, f2, f3, f4, f5, f6, -⟩ := hf0
  have hat := zP_at hP h1 h2
  rw [zE_obj hc f5] at hat
  obtain ⟨g1, g2⟩ := zfitR hty (zra G b)
  refine zput0 (v := .ref (zra G b)) E hd hf hfin hat (by rw [zF_len]; exact (List.getElem?_eq_some_iff.mp f6).1) g1 g2 hS (zra_free G h1) (fun H1 locs1 z1 o1 hat1 hS1 => ?_)
  refine kk p e s m args below meth c0 H1 locs1 ls E (zP_put (M := M) hP h1 rfl z1 o1 ?_ (fun b hb => zE_offR hb)) hS1 hl
  rw [zE_obj (X := zsR X a (zup (xR X a) k (some b))) hc f5]
  have e1 : (fun j => (xR (zsR X a (zup (xR X a) k (some b))) a j).map (zra G)) = (fun j => if j = k then some (zra G b) else (xR X a j).map (zra G)) := by
    funext j
    rw [zsR_eq]
    by_cases hj : j = k <;> simp [zup, hj]
  rw [e1, zF_setR f6]
  exact hat1
theorem zTyL_at (G : zG) {t : Nat} (h : t < 8) : (zTyL G)[t]? = some (zA G t, zTy t) := by
  unfold zTyL
  rw [List.getElem?_map, List.getElem?_range h]
  rfl
theorem j_iald {a L : Nat} {i : Int32} (hd : decode (zc mi) pc = .ok (.iaload, 1)) (hn : pc + 1 = n) (hc : xc X a = 100) (hL : xl X a = L) (hin : vp_in i L) (h1 : 16 ≤ a) (h2 : a < xz X) (kk : zAt G mi rm Q n lv (.int (M a i.toNatClampNeg) :: st) M X cn) : zAt G mi rm Q pc lv (.int i :: .ref a :: st) M X cn := by
  subst hn
  intro p e s m args below meth c0 H locs ls E hP hS hl
  have hat := zP_at hP h1 h2
  rw [zE_ints (t := 0) hc (by decide) hL] at hat
  exact va_iald E.1 E.2.1 E.2.2.2.2.2.2.2.2.1 (va_P1 hat) 0 0 rfl (zTyL_at G (by decide)) hin hd (kk p e s m args below meth c0 H locs ls E hP hS hl)
theorem j_bald {a L : Nat} {i : Int32} (hd : decode (zc mi) pc = .ok (.baload, 1)) (hn : pc + 1 = n) (hc : xc X a = 101) (hL : xl X a = L) (hin : vp_in i L) (h1 : 16 ≤ a) (h2 : a < xz X) (kk : zAt G mi rm Q n lv (.int (M a i.toNatClampNeg) :: st) M X cn) : zAt G mi rm Q pc lv (.int i :: .ref a :: st) M X cn := by
  subst hn
  intro p e s m args below meth c0 H locs ls E hP hS hl
  have hat := zP_at hP h1 h2
  rw [zE_ints (t := 1) hc (by decide) hL] at hat
  exact va_bald E.1 E.2.1 E.2.2.2.2.2.2.2.2.1 (va_P1 hat) 0 1 rfl (zTyL_at G (by decide)) hin hd (kk p e s m args below meth c0 H locs ls E hP hS hl)
theorem j_sald {a : Nat} {i : Int32} (hd : decode (zc mi) pc = .ok (.iaload, 1)) (hn : pc + 1 = n) (ha : a < 3) (hin : vp_in i (zoL G a)) (kk : zAt G mi rm Q n lv (.int (zoX G a i.toNatClampNeg) :: st) M X cn) : zAt G mi rm Q pc lv (.int i :: .ref a :: st) M X cn := by
  subst hn
  intro p e s m args below meth c0 H locs ls E hP hS hl
  obtain ⟨hX, hb⟩ := E.2.2.2.2.2.2.2.2.2.2.1 a ha
  have hz := E.2.2.2.2.2.2.2.2.2.1
  show W p (zl G) e rm s m args below meth c0 H locs cn.1 cn.2 (Q below args s) (F0 m pc ls (.int i :: .ref (zra G a) :: st.map (zv G)))
  rw [zra_lo G (by omega)]
  exact va_sld E.1 E.2.1 hX (by omega) (fun z => absurd hb (Nat.not_lt.mpr z)) hS hin hd (kk p e s m args below meth c0 H locs ls E hP hS hl)
theorem j_slen {a : Nat} (hd : decode (zc mi) pc = .ok (.arraylength, 1)) (hn : pc + 1 = n) (ha : a < 3) (kk : zAt G mi rm Q n lv (.int (nI (zoL G a)) :: st) M X cn) : zAt G mi rm Q pc lv (.ref a :: st) M X cn := by
  subst hn
  intro p e s m args below meth c0 H locs ls E hP hS hl
  obtain ⟨hX, hb⟩ := E.2.2.2.2.2.2.2.2.2.2.1 a ha
  have hz := E.2.2.2.2.2.2.2.2.2.1
  show W p (zl G) e rm s m args below meth c0 H locs cn.1 cn.2 (Q below args s) (F0 m pc ls (.ref (zra G a) :: st.map (zv G)))
  rw [zra_lo G (by omega)]
  exact va_slen E.1 E.2.1 hX (by omega) (fun z => absurd hb (Nat.not_lt.mpr z)) hS hd (kk p e s m args below meth c0 H locs ls E hP hS hl)
theorem j_alen {a L t : Nat} (hd : decode (zc mi) pc = .ok (.arraylength, 1)) (hn : pc + 1 = n) (hc : xc X a = 100 + t) (ht : t < 2) (hL : xl X a = L) (h1 : 16 ≤ a) (h2 : a < xz X) (kk : zAt G mi rm Q n lv (.int (nI L) :: st) M X cn) : zAt G mi rm Q pc lv (.ref a :: st) M X cn := by
  subst hn
  intro p e s m args below meth c0 H locs ls E hP hS hl
  have hat := zP_at hP h1 h2
  rw [zE_ints (t := t) hc ht hL] at hat
  exact va_alen E.1 E.2.1 E.2.2.2.2.2.2.2.2.1 (va_P1 hat) 0 t rfl (zTyL_at G (by omega)) rfl hd (kk p e s m args below meth c0 H locs ls E hP hS hl)
theorem j_aald {a b L t : Nat} {i : Int32} {C : String} (hd : decode (zc mi) pc = .ok (.aaload, 1)) (hn : pc + 1 = n) (hc : xc X a = 100 + t) (ht : 2 ≤ t ∧ t < 8) (hC : zTy t = .object C) (hL : xl X a = L) (hin : vp_in i L) (h1 : 16 ≤ a) (h2 : a < xz X) (hr : xR X a i.toNatClampNeg = some b) (kk : zAt G mi rm Q n lv (.ref b :: st) M X cn) : zAt G mi rm Q pc lv (.int i :: .ref a :: st) M X cn := by
  subst hn
  intro p e s m args below meth c0 H locs ls E hP hS hl
  have hat := zP_at hP h1 h2
  rw [zE_refs (t := t) hc ht.1 hL] at hat
  refine va_aldq E.1 E.2.1 E.2.2.2.2.2.2.2.2.1 (va_P1 hat) 0 t rfl ((zTyL_at G ht.2).trans (by rw [hC])) hin hd ?_
  simp only [hr, Option.map_some]
  exact kk p e s m args below meth c0 H locs ls E hP hS hl
theorem j_aaldN {a L t : Nat} {i : Int32} {C : String} (hd : decode (zc mi) pc = .ok (.aaload, 1)) (hn : pc + 1 = n) (hc : xc X a = 100 + t) (ht : 2 ≤ t ∧ t < 8) (hC : zTy t = .object C) (hL : xl X a = L) (hin : vp_in i L) (h1 : 16 ≤ a) (h2 : a < xz X) (hr : xR X a i.toNatClampNeg = none) (kk : zAt G mi rm Q n lv (.null :: st) M X cn) : zAt G mi rm Q pc lv (.int i :: .ref a :: st) M X cn := by
  subst hn
  intro p e s m args below meth c0 H locs ls E hP hS hl
  have hat := zP_at hP h1 h2
  rw [zE_refs (t := t) hc ht.1 hL] at hat
  refine va_aldq E.1 E.2.1 E.2.2.2.2.2.2.2.2.1 (va_P1 hat) 0 t rfl ((zTyL_at G ht.2).trans (by rw [hC])) hin hd ?_
  simp only [hr, Option.map_none]
  exact kk p e s m args below meth c0 H locs ls E hP hS hl
/-- the same of rows of rows of numbers -/
theorem j_aald2 {a b L : Nat} {i : Int32} (hd : decode (zc mi) pc = .ok (.aaload, 1)) (hn : pc + 1 = n) (hc : xc X a = 107) (hL : xl X a = L) (hin : vp_in i L) (h1 : 16 ≤ a) (h2 : a < xz X) (hr : xR X a i.toNatClampNeg = some b) (kk : zAt G mi rm Q n lv (.ref b :: st) M X cn) : zAt G mi rm Q pc lv (.int i :: .ref a :: st) M X cn := by
  subst hn
  intro p e s m args below meth c0 H locs ls E hP hS hl
  have hat := zP_at hP h1 h2
  rw [zE_refs (t := 7) hc (by decide) hL] at hat
  have hlt : i.toNatClampNeg < L := Nat.not_le.mp fun q => hin (Or.inr q)
  refine W.aald (v := .ref (zra G b)) (ty := .array .int) E.1 E.2.1 hat ((E.2.2.2.2.2.2.2.2.1.2 7 _ (zTyL_at G (by decide))).1 L _) rfl (fun q => by cases q) (by show ¬ (i < 0 ∨ (arrV _ _ _).slots.size ≤ _); rw [arrV_size]; exact hin) (by show (arrV _ _ _).slots[_]? = _; rw [arrV_read _ _ hlt]; simp [hr, va_rf]) rfl rfl hd ?_
  exact kk p e s m args below meth c0 H locs ls E hP hS hl
theorem j_iast {a L : Nat} {i x : Int32} (hd : decode (zc mi) pc = .ok (.iastore, 1)) (hn : pc + 1 = n) (hc : xc X a = 100) (hL : xl X a = L) (hin : vp_in i L) (h1 : 16 ≤ a) (h2 : a < xz X) (kk : zAt G mi rm Q n lv st (zs M a (upd (M a) i.toNatClampNeg x)) X cn) : zAt G mi rm Q pc lv (.int x :: .int i :: .ref a :: st) M X cn := by
  subst hn
  intro p e s m args below meth c0 H locs ls E hP hS hl
  have hat := zP_at hP h1 h2
  rw [zE_ints (t := 0) hc (by decide) hL] at hat
  refine W.iast E.1 E.2.1 hat ((E.2.2.2.2.2.2.2.2.1.2 0 _ (zTyL_at G (by decide))).1 L (fun j => .int (M a j))) (fun q => by cases q) (by show ¬ (i < 0 ∨ (arrV _ _ _).slots.size ≤ _); rw [arrV_size]; exact hin) rfl rfl hd fun H1 ee z oq => ?_
  refine kk p e s m args below meth c0 H1 _ ls E (zP_put (X := X) hP h1 rfl z oq ?_ (fun b hb => zE_off hb)) (hS.put z oq (zra_free G h1)) hl
  rw [zE_ints (t := 0) hc (by decide) hL, zs_eq]
  show H1[zra G a]? = some (vp_cell _ _)
  rw [ee]
  rw [vp_cell_i, vp_cell_i, arrV_store]
  congr 2
  funext q
  by_cases hq : q = i.toNatClampNeg
  · subst hq
    simp [updV, upd]
  · simp [updV, upd, hq]
theorem j_bast {a L : Nat} {i x : Int32} (hd : decode (zc mi) pc = .ok (.bastore, 1)) (hn : pc + 1 = n) (hc : xc X a = 101) (hL : xl X a = L) (hin : vp_in i L) (h1 : 16 ≤ a) (h2 : a < xz X) (kk : zAt G mi rm Q n lv st (zs M a (upd (M a) i.toNatClampNeg (vp_nar .byte x))) X cn) : zAt G mi rm Q pc lv (.int x :: .int i :: .ref a :: st) M X cn := by
  subst hn
  intro p e s m args below meth c0 H locs ls E hP hS hl
  have hat := zP_at hP h1 h2
  rw [zE_ints (t := 1) hc (by decide) hL] at hat
  refine W.bast E.1 E.2.1 hat ((E.2.2.2.2.2.2.2.2.1.2 1 _ (zTyL_at G (by decide))).1 L (fun j => .int (M a j))) (fun q => by cases q) (by show ¬ (i < 0 ∨ (arrV _ _ _).slots.size ≤ _); rw [arrV_size]; exact hin) rfl rfl hd fun H1 ee z oq => ?_
  refine kk p e s m args below meth c0 H1 _ ls E (zP_put (X := X) hP h1 rfl z oq ?_ (fun b hb => zE_off hb)) (hS.put z oq (zra_free G h1)) hl
  rw [zE_ints (t := 1) hc (by decide) hL, zs_eq]
  show H1[zra G a]? = some (vp_cell _ _)
  rw [ee]
  rw [vp_cell_i, vp_cell_i, arrV_store]
  congr 2
  funext q
  by_cases hq : q = i.toNatClampNeg
  · subst hq
    simp [updV, upd]
    rfl
  · simp [updV, upd, hq]
theorem j_aast {a b c L t : Nat} {i : Int32} {C : String} {T : u_T} {N : Nat} (hd : decode (zc mi) pc = .ok (.aastore, 1)) (hn : pc + 1 = n) (hc : xc X a = 100 + t) (ht : 2 ≤ t ∧ t < 7) (hC : zTy t = .object C) (hL : xl X a = L) (hin : vp_in i L) (h1 : 16 ≤ a) (h2 : a < xz X) (hb : xc X b = c) (hcl : vwCl[c]? = some (C, T, N)) (hc1 : c < 100) (b1 : 16 ≤ b) (b2 : b < xz X) (kk : zAt G mi rm Q n lv st M (zsR X a (zup (xR X a) i.toNatClampNeg (some b))) cn) : zAt G mi rm Q pc lv (.ref b :: .int i :: .ref a :: st) M X cn := by
  subst hn
  intro p e s m args below meth c0 H locs ls E hP hS hl
  have hat := zP_at hP h1 h2
  have hbt := zP_at hP b1 b2
  rw [zE_refs (t := t) hc ht.1 hL] at hat
  rw [zE_obj hb hc1] at hbt
  have hK := E.2.2.2.2.2.2.2.2.1
  have hlt : i.toNatClampNeg < L := Nat.not_le.mp fun q => hin (Or.inr q)
  have h0 : ¬ i < 0 := fun q => hin (Or.inl q)
  obtain ⟨r', hr', cellV, g1, g2, g3, -⟩ := hbt
  have hcls := (hK.1 c (C, T, N) hcl).2
  have htt : (zTyL G)[t]? = some (zA G t, .object C) := (zTyL_at G (by omega)).trans (by rw [hC])
  obtain ⟨kA, comp, k1, k2, k3, -⟩ := (hK.2 t _ htt).2
  have hcomp : comp = (zD G).1 c := Option.some.inj (k3.symm.trans hcls.1)
  subst hcomp
  obtain ⟨kC, hkC, -⟩ := hcls.2
  refine W.aast E.1 E.2.1 hat (fun q h => by cases h) (fun h => by cases h) k1 k2 rfl hkC ⟨h0, by show _ < (arrV _ _ _).slots.size; rw [arrV_size]; exact hlt⟩ g1 (fun q h => by rw [g3] at h; cases h) (by rw [g2]; exact hkC) (by rw [g2]; exact va_assign hcls) rfl rfl hd fun H1 ee z oq => ?_
  refine kk p e s m args below meth c0 H1 _ ls E (zP_put (M := M) hP h1 rfl z oq ?_ (fun b hb => zE_offR hb)) (hS.put z oq (zra_free G h1)) hl
  rw [zE_refs (X := zsR X a (zup (xR X a) i.toNatClampNeg (some b))) (t := t) hc ht.1 hL]
  show H1[zra G a]? = some (vp_cell _ _)
  rw [ee]
  rw [vp_cell_q, vp_cell_q, arrV_store]
  congr 2
  funext q
  by_cases hq : q = i.toNatClampNeg
  · subst hq
    simp [updV, zsR_eq, zup, va_rf]
  · simp [updV, zsR_eq, zup, hq]
theorem j_aastN {a L t : Nat} {i : Int32} {C : String} (hd : decode (zc mi) pc = .ok (.aastore, 1)) (hn : pc + 1 = n) (hc : xc X a = 100 + t) (ht : 2 ≤ t ∧ t < 7) (hC : zTy t = .object C) (hL : xl X a = L) (hin : vp_in i L) (h1 : 16 ≤ a) (h2 : a < xz X) (kk : zAt G mi rm Q n lv st M (zsR X a (zup (xR X a) i.toNatClampNeg none)) cn) : zAt G mi rm Q pc lv (.null :: .int i :: .ref a :: st) M X cn := by
  subst hn
  intro p e s m args below meth c0 H locs ls E hP hS hl
  have hat := zP_at hP h1 h2
  rw [zE_refs (t := t) hc ht.1 hL] at hat
  have hK := E.2.2.2.2.2.2.2.2.1
  have htt : (zTyL G)[t]? = some (zA G t, .object C) := (zTyL_at G (by omega)).trans (by rw [hC])
  refine va_WaastN (C := C) E.1 E.2.1 hat ((hK.2 t _ htt).1 L _) (fun h => by cases h) (by show ¬ (i < 0 ∨ (arrV _ _ _).slots.size ≤ _); rw [arrV_size]; exact hin) rfl rfl hd fun H1 ee z oq => ?_
  refine kk p e s m args below meth c0 H1 _ ls E (zP_put (M := M) hP h1 rfl z oq ?_ (fun b hb => zE_offR hb)) (hS.put z oq (zra_free G h1)) hl
  rw [zE_refs (X := zsR X a (zup (xR X a) i.toNatClampNeg none)) (t := t) hc ht.1 hL]
  show H1[zra G a]? = some (vp_cell _ _)
  rw [ee]
  rw [vp_cell_q, vp_cell_q, arrV_store]
  congr 2
  funext q
  by_cases hq : q = i.toNatClampNeg
  · subst hq
    simp [updV, zsR_eq, zup, va_rf]
  · simp [updV, zsR_eq, zup, hq]
end ZH
