-- NEW CELLS, STATICS, ENDS, CALLS
section ZC
variable {G : zG} {mi : zM} {rm : Room} {Q : List Frame → Array Value → State → State → Prop} {pc n : Nat} {lv : List (Option Value)} {st : List Value} {M : zMem} {X : zX} {cn : Nat × Nat}
/-- one more cell, of class c and length L -/
def zNew (X : zX) (c L : Nat) : zX := (fun b => if b = xz X then (fun _ => none) else xR X b, fun b => if b = xz X then c else xc X b, fun b => if b = xz X then L else xl X b, xz X + 1)
theorem zNew_c (X : zX) (c L : Nat) : xc (zNew X c L) (xz X) = c := if_pos rfl
theorem zNew_l (X : zX) (c L : Nat) : xl (zNew X c L) (xz X) = L := if_pos rfl
theorem zNew_r (X : zX) (c L : Nat) : xR (zNew X c L) (xz X) = fun _ => none := if_pos rfl
theorem zNew_co (X : zX) (c L : Nat) {b : Nat} (h : b ≠ xz X) : xc (zNew X c L) b = xc X b := if_neg h
theorem zNew_lo (X : zX) (c L : Nat) {b : Nat} (h : b ≠ xz X) : xl (zNew X c L) b = xl X b := if_neg h
theorem zNew_ro (X : zX) (c L : Nat) {b : Nat} (h : b ≠ xz X) : xR (zNew X c L) b = xR X b := if_neg h
theorem zE_offN {c L b : Nat} {f : Nat → Int32} (h : b ≠ xz X) : zE G (zs M (xz X) f) (zNew X c L) b = zE G M X b := by
  unfold zE
  rw [zNew_co X c L h, zNew_lo X c L h, zNew_ro X c L h, zs_ne M f h]
theorem zS_new {s : State} {H H1 : Heap} {locs : List Loc} (hS : va_S (zFree G) s.heap H locs) (z1 : H1.size = H.size + 1) (o1 : ∀ q, q < H.size → H1[q]? = H[q]?) : va_S (zFree G) s.heap H1 locs :=
  ⟨Nat.le_trans hS.1 (by omega), fun x h1 h2 => (o1 x (Nat.lt_of_lt_of_le h1 hS.1)).trans (hS.2.1 x h1 h2), hS.2.2⟩
/-- a class that can be made, by an entry of a class's pool -/
def zNW (own : String) (idx c L : Nat) : Prop := ∃ (C : String) (T : u_T) (ty : Nat → FieldType), vwCl[c]? = some (C, T, L) ∧ (∀ w ∈ u_ws C T L, w ∈ zT) ∧ c < 100 ∧ (∀ k, k < L → parseFieldDescriptor (T k).2.2.1 = some (ty k)) ∧ Cond.classLink own idx C ∈ zT ∧ Cond.instantiable C L ∈ zT ∧ Cond.initialized C ∈ zT ∧ ∀ j, j < L → defaultValue (ty j) = vp_V (zF c (fun _ => 0) (fun _ => none)) j
theorem zra_new {H : Heap} (h : zP G M X H) : zra G (xz X) = H.size := by
  rw [zra_hi G h.2.1, h.1]
theorem j_new {i c L : Nat} (hd : decode (zc mi) pc = .ok (.new i, 3)) (hn : pc + 3 = n) (hw : zNW mi.1.cls i c L) (hc1 : cn.1 + 1 ≤ rm.cells) (hc2 : cn.2 + L ≤ rm.slots) (kk : zAt G mi rm Q n lv (.ref (xz X) :: st) (zs M (xz X) (fun _ => 0)) (zNew X c 0) (cn.1 + 1, cn.2 + L)) : zAt G mi rm Q pc lv st M X cn := by
  subst hn
  intro p e s m args below meth c0 H locs ls E hP hS hl
  obtain ⟨C, T, ty, f1, f2, f3, f4, f5, f6, f7, f8⟩ := hw
  have hts := E.2.2.2.2.2.2.2.1
  have hKn := E.2.2.2.2.2.2.2.2.1.1 c _ f1
  refine W.newcK E.1 E.2.1 E.2.2.2.2.2.2.1 (hts _ f5) (hts _ f6) (hts _ f7) rfl hd hc1 hc2 hKn.2.1 rfl fun H1 kC hkC e1 z1 o1 => ?_
  have hz := zra_new hP
  have k1 := kk p e s m args below meth c0 H1 locs ls E (zP_new (X1 := zNew X c 0) hP rfl z1 o1 ?_ (fun b hb => zE_offN hb)) (zS_new hS z1 o1) hl
  · simp only [List.map_cons, zv, hz] at k1
    exact k1
  · rw [zE_obj (zNew_c X c 0) f3, zs_eq, zNew_r, hz]
    exact ⟨_, f1, (u_born ty hts f2 hKn hkC e1 f4).to f8⟩
theorem zArrC {s : State} (hW : zW G s) {t : Nat} (ht : t < 8) {cA : ClassId} (h : ∀ t0, zTy t = t0 → s.vm.findClass ("[" ++ t0.toString) = some cA) : cA = zA G t := by
  have h1 := (hW.1.2 t _ (zTyL_at G ht)).2
  have h2 := h _ rfl
  have h3 : s.vm.findClass ("[" ++ (zTy t).toString) = some (zA G t) := by
    simp only [] at h1
    revert h1
    cases zTy t with
    | object C => intro h1; obtain ⟨_, _, _, _, _, h4⟩ := h1; exact h4
    | _ => intro h1; exact h1
  exact Option.some.inj (h2.symm.trans h3)
theorem j_newi {i : Int32} {L : Nat} (hd : decode (zc mi) pc = .ok (.newarray .int, 2)) (hn : pc + 2 = n) (hi : ¬ i < 0) (hL : i.toNatClampNeg = L) (hb : L * 4 ≤ 536870912) (hc1 : cn.1 + 1 ≤ rm.cells) (hc2 : cn.2 + L ≤ rm.slots) (ha : Cond.arrayClass .int ∈ zT) (kk : zAt G mi rm Q n lv (.ref (xz X) :: st) (zs M (xz X) (fun _ => 0)) (zNew X 100 L) (cn.1 + 1, cn.2 + L)) : zAt G mi rm Q pc lv (.int i :: st) M X cn := by
  subst hn
  intro p e s m args below meth c0 H locs ls E hP hS hl
  have hts := E.2.2.2.2.2.2.2.1
  refine va_newaK (atype := .int) E.1 E.2.1 (hts _ ha) rfl hd rfl hi hL hb hc1 hc2 rfl fun H1 cA e1 z1 o1 hAr hNm => ?_
  have hcA : cA = zA G 0 := zArrC E.2.2.2.2.2.2.2.2 (by decide) (fun t0 h => by rw [← h]; exact hNm)
  subst hcA
  have hz := zra_new hP
  have k1 := kk p e s m args below meth c0 H1 locs ls E (zP_new (X1 := zNew X 100 L) hP rfl z1 o1 ?_ (fun b hb => zE_offN hb)) (zS_new hS z1 o1) hl
  · simp only [List.map_cons, zv, hz] at k1
    exact k1
  · rw [zE_ints (t := 0) (zNew_c X 100 L) (by decide) (zNew_l X 100 L), zs_eq, hz]
    exact e1
theorem j_newb {i : Int32} {L : Nat} (hd : decode (zc mi) pc = .ok (.newarray .byte, 2)) (hn : pc + 2 = n) (hi : ¬ i < 0) (hL : i.toNatClampNeg = L) (hb : L * 1 ≤ 536870912) (hc1 : cn.1 + 1 ≤ rm.cells) (hc2 : cn.2 + L ≤ rm.slots) (ha : Cond.arrayClass .byte ∈ zT) (kk : zAt G mi rm Q n lv (.ref (xz X) :: st) (zs M (xz X) (fun _ => 0)) (zNew X 101 L) (cn.1 + 1, cn.2 + L)) : zAt G mi rm Q pc lv (.int i :: st) M X cn := by
  subst hn
  intro p e s m args below meth c0 H locs ls E hP hS hl
  have hts := E.2.2.2.2.2.2.2.1
  refine va_newaK (atype := .byte) E.1 E.2.1 (hts _ ha) rfl hd rfl hi hL hb hc1 hc2 rfl fun H1 cA e1 z1 o1 hAr hNm => ?_
  have hcA : cA = zA G 1 := zArrC E.2.2.2.2.2.2.2.2 (by decide) (fun t0 h => by rw [← h]; exact hNm)
  subst hcA
  have hz := zra_new hP
  have k1 := kk p e s m args below meth c0 H1 locs ls E (zP_new (X1 := zNew X 101 L) hP rfl z1 o1 ?_ (fun b hb => zE_offN hb)) (zS_new hS z1 o1) hl
  · simp only [List.map_cons, zv, hz] at k1
    exact k1
  · rw [zE_ints (t := 1) (zNew_c X 101 L) (by decide) (zNew_l X 101 L), zs_eq, hz]
    exact e1
theorem j_anew {ix t : Nat} {i : Int32} {L : Nat} {C : String} (hd : decode (zc mi) pc = .ok (.anewarray ix, 3)) (hn : pc + 3 = n) (ht : 2 ≤ t ∧ t < 7) (hC : zTy t = .object C) (hCm : C ∈ ["RegretLocks$Person", "RegretLocks$Lock", "RegretLocks$Text", "RegretLocks$Sheet", "RegretLocks$Slot"]) (hcl : Cond.classLink mi.1.cls ix C ∈ zT) (hi : ¬ i < 0) (hL : i.toNatClampNeg = L) (hb : L * 4 ≤ 536870912) (hc1 : cn.1 + 1 ≤ rm.cells) (hc2 : cn.2 + L ≤ rm.slots) (kk : zAt G mi rm Q n lv (.ref (xz X) :: st) (zs M (xz X) (fun _ => 0)) (zNew X (100 + t) L) (cn.1 + 1, cn.2 + L)) : zAt G mi rm Q pc lv (.int i :: st) M X cn := by
  subst hn; subst hL
  intro p e s m args below meth c0 H locs ls E hP hS hl
  have hts := E.2.2.2.2.2.2.2.1
  have hW := E.2.2.2.2.2.2.2.2
  refine W.anew E.1 E.2.1 E.2.2.2.2.2.2.1 (hts _ hcl) (va_AO.use (hW.2.2.2.2.2.2.1 C hCm)) rfl hd rfl hi hb hc1 hc2 fun cA kA comp f1 f2 f3 f4 => ?_
  generalize hH1 : H.push ({ cls := cA, slots := Array.replicate i.toNatClampNeg .null, vm := .none } : Cell) = H1
  have z1 : H1.size = H.size + 1 := by rw [← hH1, Array.size_push]
  have e1 : H1[H.size]? = some (arrV cA i.toNatClampNeg (fun _ => .null)) := by rw [← hH1, Array.getElem?_push_size, ← arrV_new]
  have o1 : ∀ q : Nat, q < H.size → H1[q]? = H[q]? := fun q hq => by rw [← hH1, Array.getElem?_push, if_neg (Nat.ne_of_lt hq)]
  have hcA : cA = zA G t := zArrC hW (by omega) (fun t0 h => by rw [← h, hC]; exact f1)
  subst hcA
  have hz := zra_new hP
  have k1 := kk p e s m args below meth c0 H1 locs ls E (zP_new (X1 := zNew X (100 + t) i.toNatClampNeg) hP rfl z1 o1 ?_ (fun b hb => zE_offN hb)) (zS_new hS z1 o1) hl
  · simp only [List.map_cons, zv, hz] at k1
    exact k1
  · rw [zE_refs (t := t) (zNew_c X (100 + t) _) ht.1 (zNew_l X (100 + t) _), zNew_r, hz]
    exact e1
/-- a static array of the class's own -/
theorem j_gets0 {i : Nat} (hd : decode (zc mi) pc = .ok (.getstatic i, 3)) (hn : pc + 3 = n) (hw : Cond.fieldLink mi.1.cls i "RegretLocks$Kinds" "ABOVE" "[I" ∈ zT) (kk : zAt G mi rm Q n lv (.ref 0 :: st) M X cn) : zAt G mi rm Q pc lv st M X cn := by
  subst hn
  intro p e s m args below meth c0 H locs ls E hP hS hl
  have hW := E.2.2.2.2.2.2.2.2
  exact va_gets E.1 E.2.1 hW.2.2.2.1 hS E.2.2.2.2.2.2.1 (E.2.2.2.2.2.2.2.1 _ hw) (fun _ h9 => h9) hd (kk p e s m args below meth c0 H locs ls E hP hS hl)
theorem j_gets1 {i : Nat} (hd : decode (zc mi) pc = .ok (.getstatic i, 3)) (hn : pc + 3 = n) (hw : Cond.fieldLink mi.1.cls i "RegretLocks$Ways" "STEPS" "[I" ∈ zT) (kk : zAt G mi rm Q n lv (.ref 1 :: st) M X cn) : zAt G mi rm Q pc lv st M X cn := by
  subst hn
  intro p e s m args below meth c0 H locs ls E hP hS hl
  have hW := E.2.2.2.2.2.2.2.2
  exact va_gets E.1 E.2.1 hW.2.2.2.2.1 hS E.2.2.2.2.2.2.1 (E.2.2.2.2.2.2.2.1 _ hw) (fun _ h9 => h9) hd (kk p e s m args below meth c0 H locs ls E hP hS hl)
/-- the ends -/
theorem j_iret {P : Option Value → zMem → zX → Prop} {C N : Nat} {ty : FieldType} {x : Int32} (hd : decode (zc mi) pc = .ok (.ireturn, 1)) (hty : mi.2.2.2 = some ty) (hnar : narrow ty (.int x) = .int x) (h1 : cn.1 ≤ C) (h2 : cn.2 ≤ N) (h : P (some (.int x)) M X) : zAt G mi rm (zQ G P C N) pc lv [.int x] M X cn := by
  intro p e s m args below meth c0 H locs ls E hP hS hl
  refine W.widen (k := C) (n := N) h1 h2 ?_
  exact W.zret E.1 E.2.1 (E.2.2.2.1.trans hty) hnar (fun t ht hW => ⟨some (.int x), M, X, rfl, h, by rw [ht]; exact hP, hS.F ht⟩) hS.2.2 hd E.2.2.2.2.1
theorem j_vret {P : Option Value → zMem → zX → Prop} {C N : Nat} (hd : decode (zc mi) pc = .ok (.return_, 1)) (hty : mi.2.2.2 = none) (h1 : cn.1 ≤ C) (h2 : cn.2 ≤ N) (h : P none M X) : zAt G mi rm (zQ G P C N) pc lv [] M X cn := by
  intro p e s m args below meth c0 H locs ls E hP hS hl
  refine W.widen (k := C) (n := N) h1 h2 ?_
  exact W.vret E.1 E.2.1 (E.2.2.2.1.trans hty) (fun t ht hW => ⟨none, M, X, rfl, h, by rw [ht]; exact hP, hS.F ht⟩) hS.2.2 hd E.2.2.2.2.1
theorem j_aret {P : Option Value → zMem → zX → Prop} {C N : Nat} {ty : FieldType} {a : Nat} (hd : decode (zc mi) pc = .ok (.areturn, 1)) (hty : mi.2.2.2 = some ty) (hr : (∃ q, ty = .object q) ∨ ∃ t, ty = .array t) (h1 : cn.1 ≤ C) (h2 : cn.2 ≤ N) (h : P (some (.ref a)) M X) : zAt G mi rm (zQ G P C N) pc lv [.ref a] M X cn := by
  intro p e s m args below meth c0 H locs ls E hP hS hl
  refine W.widen (k := C) (n := N) h1 h2 ?_
  exact W.aret (v := .ref (zra G a)) E.1 E.2.1 (E.2.2.2.1.trans hty) hr (Or.inr ⟨_, rfl⟩) (fun t ht hW => ⟨some (.ref a), M, X, rfl, h, by rw [ht]; exact hP, hS.F ht⟩) hS.2.2 hd E.2.2.2.2.1
/-- locals at a method's entry -/
def zent (as : List Value) (n : Nat) : List (Option Value) :=
  let l := as.flatMap (fun v => if v.category = 2 then [some v, none] else [some v])
  l ++ List.replicate (n - l.length) none
theorem lv_args_in : ∀ (vs : List Value) (i j : Nat) (v : Value) (f : Value → Value) (hf : ∀ v, (f v).category = v.category), (vs.flatMap (fun v => if v.category = 2 then [some v, none] else [some v]))[j]? = some (some v) → (i + j, f v) ∈ lv_args i (vs.map f)
  | [], i, j, v, f, hf, h => by simp at h
  | w :: vs, i, j, v, f, hf, h => by
    simp only [List.flatMap_cons] at h
    simp only [List.map_cons, lv_args, hf]
    by_cases hc : w.category = 2
    · rw [if_pos hc] at h ⊢
      match j, h with
      | 0, h => simp at h; subst h; exact List.mem_cons_self
      | 1, h => simp at h
      | j + 2, h =>
        have := lv_args_in vs (i + 2) j v f hf (by simpa using h)
        rw [show i + (j + 2) = i + 2 + j by omega]
        exact List.mem_cons_of_mem _ this
    · rw [if_neg hc] at h ⊢
      match j, h with
      | 0, h => simp at h; subst h; exact List.mem_cons_self
      | j + 1, h =>
        have := lv_args_in vs (i + 1) j v f hf (by simpa using h)
        rw [show i + (j + 1) = i + 1 + j by omega]
        exact List.mem_cons_of_mem _ this
theorem lg_sl_len (vs : List Value) (f : Value → Value) (hf : ∀ v, (f v).category = v.category) : (lg_sl (vs.map f)).length = (vs.flatMap (fun v => if v.category = 2 then [some v, none] else [some v])).length := by
  induction vs with
  | nil => rfl
  | cons w vs ih =>
    simp only [lg_sl, List.map_cons, List.flatMap_cons, List.length_append, hf] at ih ⊢
    rw [ih]
    by_cases hc : w.category = 2 <;> simp [hc]
theorem zCall.of {P : Option Value → zMem → zX → Prop} {d C N : Nat} {as : List Value} (hp : plainName mi.1.cls = true) (hlen : (as.flatMap (fun v => if v.category = 2 then [some v, none] else [some v])).length ≤ mi.2.2.1) (hlv : zent as mi.2.2.1 = lv) (k : zAt G mi (zRm d C N) (zQ G P C N) 0 lv [] M X (0, 0)) : zCall G mi d as P M X C N := by
  subst hlv
  refine Met.ofW (cc := mi.2.1) (maxL := mi.2.2.1) (ret := mi.2.2.2) hp rfl ?_
  intro p e s m args below meth c s₁ B hml hv
  obtain ⟨rfl, hW, hP⟩ := hv
  have hts := atoms_spec (ws := zCode mi :: zT) B.pre
  have hown : s.vm.findClass mi.1.cls = some m.cls := findClass_of_methodNamed B.named
  have hin : meth.name = mi.1.name := (name_of_methodNamed B.named B.method).1
  have hlen2 : (lg_sl (as.map (zv G))).length ≤ mi.2.2.1 := by rw [lg_sl_len as (zv G) (zv_cat G)]; exact hlen
  have hl := lv_entry (as.map (zv G)) (n := mi.2.2.1) hlen2
  rw [lg_entry_eq]
  refine k p e s m _ below meth c s.heap [] _ ⟨B.exec, B.bytes, hml, B.returns, B.notSynchronized, hin, hown, fun w hw => hts w (List.mem_cons_of_mem _ hw), hW⟩ hP va_S.rf ⟨hl.1, hl.2.1, ?_, fun i v hi => ?_⟩
  · simp only [zent, List.length_append, List.length_replicate]; omega
  · simp only [zent] at hi
    by_cases hb : i < (as.flatMap (fun v => if v.category = 2 then [some v, none] else [some v])).length
    · rw [List.getElem?_append_left hb] at hi
      have := lv_args_in as 0 i v (zv G) (zv_cat G) hi
      rw [Nat.zero_add] at this
      exact hl.2.2 _ this
    · rw [List.getElem?_append_right (by omega)] at hi
      rw [List.getElem?_replicate] at hi
      split at hi <;> simp at hi
theorem zGood {mj : zM} (h : zCode mj ∈ zT) : GoodIn zT (zCode mj :: zT) := by
  intro w hw
  have hm : w ∈ zT := by
    rcases List.mem_cons.mp hw with rfl | h1
    · exact h
    · exact h1
  exact ⟨hm, good_of_word (List.mem_filter.mp hm).2⟩
/-- what a call site says: by the pool's entry of a class the method mj, of k parameters -/
def zCB (own : String) (idx : Nat) (mj : zM) (k : Nat) : Prop := Cond.methodLink own idx mj.1 ∈ zT ∧ zCode mj ∈ zT ∧ Cond.initialized mj.1.cls ∈ zT ∧ (mj.1.cls ≠ "java/lang/invoke/MethodHandle" ∧ mj.1.cls ≠ "java/lang/invoke/VarHandle" ∧ (parseMethodDescriptor mj.1.desc).map (fun d => d.parameters.length) = some k)
def zCSt (own : String) (idx : Nat) (mj : zM) (k : Nat) : Prop := zCB own idx mj k ∧ Cond.static mj.1 ∈ zT
def zCVi (own : String) (idx : Nat) (mj : zM) (k c : Nat) : Prop := zCB own idx mj k ∧ Cond.instanceMethod mj.1 ∈ zT ∧ Cond.selects mj.1.cls mj.1 mj.1 ∈ zT ∧ c < 100 ∧ ∃ (T : u_T) (N : Nat), vwCl[c]? = some (mj.1.cls, T, N)
def zCIn (own : String) (idx : Nat) (mj : zM) (k : Nat) : Prop := zCB own idx mj k ∧ mj.1.name = "<init>" ∧ Cond.instanceMethod mj.1 ∈ zT ∧ mj.2.2.2 = none
theorem zBlind {as : List Value} : FrameBlind (va_Pc (as.map (zv G)) (fun U => zW G U ∧ zP G M X U.heap)) := by
  intro a U g mk h
  obtain ⟨h1, h2, h3⟩ := h
  exact ⟨h1, h2.moved (State.WarmedH.refl U) (fun _ _ _ => rfl) (Nat.le_refl _), h3⟩
theorem zPc {s : State} {H : Heap} {locs : List Loc} {as : List Value} (hW : zW G s) (hP : zP G M X H) (hS : va_S (zFree G) s.heap H locs) : ∀ U : State, U.heap = H → s.WarmedH U.vm → va_Pc (as.map (zv G)) (fun U => zW G U ∧ zP G M X U.heap) (as.map (zv G)).toArray U := by
  intro U hU hw
  refine ⟨rfl, hW.moved hw (fun a h1 h2 => by rw [hU]; exact hS.2.1 a h1 h2) (by rw [hU]; exact hS.1), by rw [hU]; exact hP⟩
theorem zcat (G : zG) (st : List Value) : ((st.map (zv G)).map fun v => v.category) = st.map fun v => v.category := by
  induction st with
  | nil => rfl
  | cons a l ih => simp only [List.map_cons, ih, zv_cat]
/-- what comes behind a call -/
theorem zAfter {P : Option Value → zMem → zX → Prop} {p : Program} {e : Env} {s : State} {m : MethodId} {args : Array Value} {below : List Frame} {meth : Method} {c0 : Code} {H : Heap} {locs : List Loc} {ls : Array Slot} {mc ms : Nat} {a : Array Value} {st0 : List Value} (E : zEnv G mi p s m args meth c0) (hS : va_S (zFree G) s.heap H locs) (hl : zL G ls mi.2.2.1 lv)
    (hr : va_Run p (zl G) e rm s m args below meth c0 H locs cn.1 cn.2 mc ms (F0 m pc ls st0) (st.map (zv G)) (zQC G P a) (zFree G))
    (kk : ∀ (v : Option Value) (M1 : zMem) (X1 : zX), P v M1 X1 → zAt G mi rm Q (pc + 3) lv (v.toList ++ st) M1 X1 (cn.1 + mc, cn.2 + ms)) : W p (zl G) e rm s m args below meth c0 H locs cn.1 cn.2 (Q below args s) (F0 m pc ls st0) := by
  intro T hT Xs
  obtain ⟨v, st₀, t, T', L, h0, X', hL, h1, h2, hq, hgo⟩ := hr T hT Xs
  obtain ⟨v1, M1, X1, e1, e2, e3, e4⟩ := hq
  cases e1
  have hS1 : va_S (zFree G) s.heap T'.heap (locs ++ L) := by
    refine ⟨?_, fun q hq hA => ?_, fun q hq => ?_⟩
    · rw [h1]; have := e4.1; rw [h0] at this; exact Nat.le_trans hS.1 this
    · rw [h1, e4.2 q (by rw [h0]; exact Nat.lt_of_lt_of_le hq hS.1) hA, h0]; exact hS.2.1 q hq hA
    · rcases List.mem_append.mp hq with h | h
      · exact hS.2.2 q h
      · exact hL q h
  have k1 := kk v1 M1 X1 e2 p e s m args below meth c0 T'.heap (locs ++ L) ls E (by rw [h1]; exact e3) hS1 hl T' rfl X'
  obtain ⟨tt, a1, a2⟩ := k1
  refine ⟨tt, ?_, a2⟩
  refine hgo tt ?_
  have : (v1.toList ++ st).map (zv G) = (v1.map (zv G)).toList ++ st.map (zv G) := by
    cases v1 <;> simp
  rw [this] at a1
  exact a1
theorem j_callS {P : Option Value → zMem → zX → Prop} {d d' C N C' N' i k : Nat} {mj : zM} {as stk : List Value} (hd : decode (zc mi) pc = .ok (.invokestatic i, 3)) (hn : pc + 3 = n) (hw : zCSt mi.1.cls i mj k) (hM : zCall G mj d' as P M X C' N') (hr : d' + 1 ≤ d) (hmx : mj.2.2.1 ≤ 21) (hk : as.length = k) (hst : stk = as.reverse ++ st) (hcat : (st.map fun v => v.category).sum ≤ 8) (h1 : cn.1 + C' ≤ C) (h2 : cn.2 + N' ≤ N)
    (kk : ∀ (v : Option Value) (M1 : zMem) (X1 : zX), P v M1 X1 → zAt G mi (zRm d C N) Q n lv (v.toList ++ st) M1 X1 (cn.1 + C', cn.2 + N')) : zAt G mi (zRm d C N) Q pc lv stk M X cn := by
  subst hn; subst hst
  intro p e s m args below meth c0 H locs ls E hP hS hl
  obtain ⟨⟨w1, w2, w3, w4⟩, w5⟩ := hw
  have hts := E.2.2.2.2.2.2.2.1
  refine zAfter E hS hl (va_runS (As := as.map (zv G)) (rest := st.map (zv G)) (nL := mi.2.2.1) (n := k) (bytes := mj.2.1) (maxL := mj.2.2.1) (ret := mj.2.2.2) ⟨E.1, E.2.1, E.2.2.1, E.2.2.2.2.2.2.1, hts⟩ hM ⟨callB_of k hts (zGood w2) rfl rfl rfl (hts _ w3) (hts _ w1) w4 ⟨hr, ?_⟩, hts _ w5⟩ ⟨zBlind, zPc E.2.2.2.2.2.2.2.2 hP hS⟩ rfl (by rw [List.length_map]; exact hk) hl.1 (by simp) (by rw [zcat]; simpa [JFrame.monitorRoom] using hcat) hd ⟨h1, h2⟩) kk
  show 8 + (mj.2.2.1 + 11) + 40 * d' ≤ 40 * d
  omega
theorem zrecv {s : State} {H : Heap} {a c : Nat} {C : String} {T : u_T} {N : Nat} (hK : va_K (zD G) vwCl (zTyL G) s) (hP : zP G M X H) (hc : xc X a = c) (hcl : vwCl[c]? = some (C, T, N)) (h0 : c < 100) (h1 : 16 ≤ a) (h2 : a < xz X) : ∃ cell : Cell, H[zra G a]? = some cell ∧ cell.vm.isStatics = false ∧ s.vm.findClass C = some cell.cls := by
  have hat := zP_at hP h1 h2
  rw [zE_obj hc h0] at hat
  exact va_recv hK (va_P1 hat) hcl (q0 := 0) rfl
theorem j_callV {P : Option Value → zMem → zX → Prop} {d d' C N C' N' i k a c : Nat} {mj : zM} {as stk : List Value} (hd : decode (zc mi) pc = .ok (.invokevirtual i, 3)) (hn : pc + 3 = n) (hw : zCVi mi.1.cls i mj k c) (hM : zCall G mj d' (.ref a :: as) P M X C' N') (hr : d' + 1 ≤ d) (hmx : mj.2.2.1 ≤ 21) (hk : as.length = k) (hst : stk = as.reverse ++ .ref a :: st) (hcat : (st.map fun v => v.category).sum ≤ 8) (hc : xc X a = c) (a1 : 16 ≤ a) (a2 : a < xz X) (h1 : cn.1 + C' ≤ C) (h2 : cn.2 + N' ≤ N)
    (kk : ∀ (v : Option Value) (M1 : zMem) (X1 : zX), P v M1 X1 → zAt G mi (zRm d C N) Q n lv (v.toList ++ st) M1 X1 (cn.1 + C', cn.2 + N')) : zAt G mi (zRm d C N) Q pc lv stk M X cn := by
  subst hn; subst hst
  intro p e s m args below meth c0 H locs ls E hP hS hl
  obtain ⟨⟨w1, w2, w3, w4⟩, w5, w6, w7, T, N0, w8⟩ := hw
  have hts := E.2.2.2.2.2.2.2.1
  have hr := va_runV (l := zl G) (e := e) (below := below) (meth := meth) (locs := locs) (cells := cn.1) (slots := cn.2) (H := H) (R := zRm d C N) (g := F0 m pc ls ((as.reverse ++ .ref a :: st).map (zv G))) (As := as.map (zv G)) (b := zra G a) (C := mj.1.cls) (rest := st.map (zv G)) (nL := mi.2.2.1) (n := k) (bytes := mj.2.1) (maxL := mj.2.2.1) (ret := mj.2.2.2) ⟨E.1, E.2.1, E.2.2.1, E.2.2.2.2.2.2.1, hts⟩ hM ⟨callB_of k hts (zGood w2) rfl rfl rfl (hts _ w3) (hts _ w1) w4 ⟨hr, ?_⟩, hts _ w5, hts _ w6⟩ ⟨zBlind, zrecv E.2.2.2.2.2.2.2.2.1 hP hc w8 w7 a1 a2, zPc (as := .ref a :: as) E.2.2.2.2.2.2.2.2 hP hS⟩ rfl (by rw [List.length_map]; exact hk) hl.1 (by simp [zv]) (by rw [zcat]; simpa [JFrame.monitorRoom] using hcat) hd ⟨h1, h2⟩
  · exact zAfter E hS hl hr kk
  · show 8 + (mj.2.2.1 + 11) + 40 * d' ≤ 40 * d
    omega
theorem j_callI {P : Option Value → zMem → zX → Prop} {d d' C N C' N' i k a : Nat} {mj : zM} {as stk : List Value} (hd : decode (zc mi) pc = .ok (.invokespecial i, 3)) (hn : pc + 3 = n) (hw : zCIn mi.1.cls i mj k) (hM : zCall G mj d' (.ref a :: as) P M X C' N') (hr : d' + 1 ≤ d) (hmx : mj.2.2.1 ≤ 21) (hk : as.length = k) (hst : stk = as.reverse ++ .ref a :: st) (hcat : (st.map fun v => v.category).sum ≤ 8) (h1 : cn.1 + C' ≤ C) (h2 : cn.2 + N' ≤ N)
    (kk : ∀ (v : Option Value) (M1 : zMem) (X1 : zX), P v M1 X1 → zAt G mi (zRm d C N) Q n lv (v.toList ++ st) M1 X1 (cn.1 + C', cn.2 + N')) : zAt G mi (zRm d C N) Q pc lv stk M X cn := by
  subst hn; subst hst
  intro p e s m args below meth c0 H locs ls E hP hS hl
  obtain ⟨⟨w1, w2, w3, w4⟩, w5, w6, w7⟩ := hw
  obtain ⟨yj, bj, lj, rj⟩ := mj
  dsimp only at w7
  subst w7
  have hts := E.2.2.2.2.2.2.2.1
  have hr := va_runI (l := zl G) (e := e) (below := below) (meth := meth) (locs := locs) (cells := cn.1) (slots := cn.2) (H := H) (R := zRm d C N) (g := F0 m pc ls ((as.reverse ++ .ref a :: st).map (zv G))) (As := as.map (zv G)) (b := zra G a) (rest := st.map (zv G)) (nL := mi.2.2.1) (n := k) (bytes := bj) (maxL := lj) ⟨E.1, E.2.1, E.2.2.1, E.2.2.2.2.2.2.1, hts⟩ hM ⟨callB_of k hts (zGood w2) rfl rfl rfl (hts _ w3) (hts _ w1) w4 ⟨hr, ?_⟩, w5, hts _ w6⟩ ⟨zBlind, zPc (as := .ref a :: as) E.2.2.2.2.2.2.2.2 hP hS⟩ rfl (by rw [List.length_map]; exact hk) hl.1 (by simp [zv]) (by rw [zcat]; simpa [JFrame.monitorRoom] using hcat) hd ⟨h1, h2⟩
  · exact zAfter E hS hl hr kk
  · show 8 + (lj + 11) + 40 * d' ≤ 40 * d
    dsimp only at hmx
    omega
end ZC
