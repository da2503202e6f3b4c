-- CORE: a machine of its own over a memory of numbers (M), of references (R), of classes and lengths, by addresses that are counted from the law's start
abbrev zMem : Type := Nat → Nat → Int32
/-- references, class of a cell (under 100: an object's number in vwCl; 100 + t: an array of type t), length, next address -/
abbrev zX : Type := (Nat → Nat → Option Nat) × (Nat → Nat) × (Nat → Nat) × Nat
/-- launch, numbers of classes and slots, array classes, base, addresses lengths and contents of what is only read, a value -/
abbrev zG : Type := Launch × va_G × (Nat → ClassId) × Nat × (Nat → Nat) × (Nat → Nat) × (Nat → Nat → Int32) × Value
/-- name, code, locals, what it returns -/
abbrev zM : Type := MethodName × ByteArray × Nat × Option FieldType
abbrev zl (G : zG) : Launch := G.1
abbrev zD (G : zG) : va_G := G.2.1
abbrev zA (G : zG) : Nat → ClassId := G.2.2.1
abbrev zb (G : zG) : Nat := G.2.2.2.1
abbrev zo (G : zG) : Nat → Nat := G.2.2.2.2.1
abbrev zoL (G : zG) : Nat → Nat := G.2.2.2.2.2.1
abbrev zoX (G : zG) : Nat → Nat → Int32 := G.2.2.2.2.2.2.1
abbrev zfm (G : zG) : Value := G.2.2.2.2.2.2.2
abbrev xR (X : zX) : Nat → Nat → Option Nat := X.1
abbrev xc (X : zX) : Nat → Nat := X.2.1
abbrev xl (X : zX) : Nat → Nat := X.2.2.1
abbrev xz (X : zX) : Nat := X.2.2.2
def zra (G : zG) (a : Nat) : Nat := if a < 16 then zo G a else zb G + (a - 16)
def zv (G : zG) (v : Value) : Value := match v with
  | .ref a => .ref (zra G a)
  | w => w
def zFree (G : zG) : Nat → Prop := fun q => zb G ≤ q
def zTy (t : Nat) : FieldType := match t with
  | 0 => .int
  | 1 => .byte
  | 2 => .object "RegretLocks$Person"
  | 3 => .object "RegretLocks$Lock"
  | 4 => .object "RegretLocks$Text"
  | 5 => .object "RegretLocks$Sheet"
  | 6 => .object "RegretLocks$Slot"
  | _ => .array .int
def zTyL (G : zG) : List (ClassId × FieldType) := (List.range 8).map (fun t => (zA G t, zTy t))
def zK (c : Nat) : List Bool := match c with
  | 0 => [true, true, true, true, true]
  | 1 => [false, true, true, true, true, true, true, true, false, true, false, true, true, true]
  | 2 => [true, true, false]
  | 3 => [true, true, false]
  | 4 => [true, false, false, true]
  | 5 => [true, true, true, false, false]
  | 6 => [false, true, false, true, false, true, false, true, true, true, true, true, true, true]
  | 7 => [false, false, false, false]
  | 8 => [false, false, false, true, false, false, false, true, false, false, false, true, false]
  | 9 => [false, false, false, true, false, false, false, false, false, false, false, false, false, false, false, false, true, true, true, true, true, true, true, true, true, true, true, false, false, false, false, true, false]
  | _ => []
def zF (c : Nat) (m : Nat → Int32) (r : Nat → Option Nat) : List Value := (List.range (zK c).length).map (fun k => if (zK c).getD k true then .int (m k) else va_rf (r k))
def zE (G : zG) (M : zMem) (X : zX) (a : Nat) : va_E :=
  if xc X a < 100 then .inr (xc X a, zF (xc X a) (M a) (fun k => (xR X a k).map (zra G)))
  else if xc X a < 102 then .inl (zA G (xc X a - 100), xl X a, .inl (M a))
  else .inl (zA G (xc X a - 100), xl X a, .inr (.inr (.inr (.inr (fun k => (xR X a k).map (zra G))))))
def zP (G : zG) (M : zMem) (X : zX) (H : Heap) : Prop := H.size = zb G + (xz X - 16) ∧ 16 ≤ xz X ∧ ∀ a, 16 ≤ a → a < xz X → va_at (zD G) vwCl (zra G a, zE G M X a) H
/-- the tables' words that every state keeps -/
def zT : List Cond := lw_tbl.filter goodWord
def zNest : List Cond := [.methodLinkNest "RegretLocks$Town" 42 ⟨"RegretLocks$Person", "<init>", "()V"⟩ "RegretLocks", .methodLinkNest "RegretLocks$Town" 43 ⟨"RegretLocks$Lock", "<init>", "()V"⟩ "RegretLocks", .methodLinkNest "RegretLocks" 24 ⟨"RegretLocks$Ways", "<init>", "()V"⟩ "RegretLocks", .methodLinkNest "RegretLocks" 31 ⟨"RegretLocks$Parser", "<init>", "()V"⟩ "RegretLocks", .methodLinkNest "RegretLocks" 59 ⟨"RegretLocks$Sheet", "<init>", "()V"⟩ "RegretLocks", .methodLinkNest "RegretLocks" 60 ⟨"RegretLocks$Slot", "<init>", "()V"⟩ "RegretLocks", .methodLinkNest "RegretLocks$Slot" 15 ⟨"RegretLocks$Person", "<init>", "()V"⟩ "RegretLocks", .methodLinkNest "RegretLocks$Slot" 22 ⟨"RegretLocks$Sheet", "<init>", "()V"⟩ "RegretLocks", .methodLinkNest "RegretLocks$Town" 140 ⟨"RegretLocks", "held", "(II)I"⟩ "RegretLocks"]
def zStrs : List (Nat × String) := [(100, "wear"), (106, "fee"), (108, "fine"), (134, "rst"), (136, "eh"), (138, "ro")]
def zLen : List Nat := [4, 3, 4, 3, 2, 2]
def zByt : List (List Int32) := [[119, 101, 97, 114], [102, 101, 101], [102, 105, 110, 101], [114, 115, 116], [101, 104], [114, 111]]
/-- what every state of the run says of the tables and of what is only read -/
def zW (G : zG) (U : State) : Prop :=
  va_K (zD G) vwCl (zTyL G) U ∧ zb G ≤ U.heap.size ∧ (∀ i, i < 3 → va_X (zo G i) (zoL G i) (zoX G i) U U.heap ∧ zo G i < zb G) ∧
  va_Z "RegretLocks$Kinds" "ABOVE" "[I" (.ref (zo G 0)) (zFree G) U U.heap ∧ va_Z "RegretLocks$Ways" "STEPS" "[I" (.ref (zo G 1)) (zFree G) U U.heap ∧
  (∀ w ∈ zNest, va_Nw w U) ∧ (∀ C ∈ ["RegretLocks$Person", "RegretLocks$Lock", "RegretLocks$Text", "RegretLocks$Sheet", "RegretLocks$Slot"], va_AO C U) ∧ (Cond.arrayOver (.array .int)).before #[] U = true ∧
  vk_S 6 zLen zByt (fun i => zo G (3 + i)) (fun i => zo G (9 + i)) (zFree G) U U.heap ∧ (∀ i, i < 6 → vk_R "RegretLocks$Parser" (zStrs.getD i (0, "")).1 (zStrs.getD i (0, "")).2 (zo G (3 + i)) U) ∧
  va_Z "java/lang/String" "COMPACT_STRINGS" "Z" (.int 1) (zFree G) U U.heap ∧ va_Z "jdk/internal/util/Preconditions" "SIOOBE_FORMATTER" "Ljava/util/function/BiFunction;" (zv G (zfm G)) (zFree G) U U.heap
def zRm (d C N : Nat) : Room := { frames := d, cells := C, slots := N, locals := 40 * d }
def zc (mi : zM) : ByteArray := mi.2.1
def zEnv (G : zG) (mi : zM) (p : Program) (s : State) (m : MethodId) (args : Array Value) (meth : Method) (c : Code) : Prop :=
  p.tables.exec = Jvm.exec ∧ c.code = zc mi ∧ c.maxLocals = mi.2.2.1 ∧ meth.sig.returnType = mi.2.2.2 ∧ meth.locks = false ∧ meth.name = mi.1.name ∧ s.vm.findClass mi.1.cls = some m.cls ∧ (∀ w ∈ zT, w.before args s = true) ∧ zW G s
def zL (G : zG) (ls : Array Slot) (n : Nat) (lv : List (Option Value)) : Prop := ls.size = n ∧ lv_wf ls ∧ lv.length ≤ n ∧ ∀ (i : Nat) (v : Value), lv[i]? = some (some v) → ls[i]? = some (.val (zv G v))
/-- the machine at a place of a method comes to an end with Q -/
def zAt (G : zG) (mi : zM) (rm : Room) (Q : List Frame → Array Value → State → State → Prop) (pc : Nat) (lv : List (Option Value)) (st : List Value) (M : zMem) (X : zX) (cn : Nat × Nat) : Prop :=
  ∀ (p : Program) (e : Env) (s : State) (m : MethodId) (args : Array Value) (below : List Frame) (meth : Method) (c : Code) (H : Heap) (locs : List Loc) (ls : Array Slot),
    zEnv G mi p s m args meth c → zP G M X H → va_S (zFree G) s.heap H locs → zL G ls mi.2.2.1 lv → W p (zl G) e rm s m args below meth c H locs cn.1 cn.2 (Q below args s) (F0 m pc ls (st.map (zv G)))
def zQC (G : zG) (P : Option Value → zMem → zX → Prop) : Array Value → State → Outcome → State → Prop := fun _ st oc t =>
  ∃ (v : Option Value) (M1 : zMem) (X1 : zX), oc = .returned (v.map (zv G)) ∧ P v M1 X1 ∧ zP G M1 X1 t.heap ∧ va_F (zFree G) st t
def zQ (G : zG) (P : Option Value → zMem → zX → Prop) (C N : Nat) : List Frame → Array Value → State → State → Prop := fun below args s => MQ below (zQC G P) args s C N (zFree G)
def zCode (mi : zM) : Cond := .code mi.1 mi.2.1 mi.2.2.1 mi.2.2.2
/-- a method's contract -/
def zCall (G : zG) (mi : zM) (d : Nat) (as : List Value) (P : Option Value → zMem → zX → Prop) (M : zMem) (X : zX) (C N : Nat) : Prop :=
  Met (zl G) mi.1 (zCode mi :: zT) (zRm d C N) (va_Pc (as.map (zv G)) (fun U => zW G U ∧ zP G M X U.heap)) (zQC G P) C N (zFree G)
def zs (M : zMem) (a : Nat) (f : Nat → Int32) : zMem := fun b => if b = a then f else M b
def zsR (X : zX) (a : Nat) (f : Nat → Option Nat) : zX := (fun b => if b = a then f else xR X b, xc X, xl X, xz X)
def zup (f : Nat → Option Nat) (k : Nat) (x : Option Nat) : Nat → Option Nat := fun j => if j = k then x else f j
theorem zs_eq (M : zMem) (a : Nat) (f : Nat → Int32) : zs M a f a = f := if_pos rfl
theorem zs_ne (M : zMem) {a b : Nat} (f : Nat → Int32) (h : b ≠ a) : zs M a f b = M b := if_neg h
theorem zs_zs (M : zMem) (a : Nat) (f g : Nat → Int32) : zs (zs M a f) a g = zs M a g := by
  funext b
  unfold zs
  by_cases h : b = a <;> simp [h]
theorem zs_id (M : zMem) (a : Nat) : zs M a (M a) = M := by
  funext b
  unfold zs
  by_cases h : b = a <;> simp [h]
theorem zra_hi (G : zG) {a : Nat} (h : 16 ≤ a) : zra G a = zb G + (a - 16) := if_neg (by omega)
theorem zra_lo (G : zG) {a : Nat} (h : a < 16) : zra G a = zo G a := if_pos h
theorem zra_ne (G : zG) {a b : Nat} (ha : 16 ≤ a) (hb : 16 ≤ b) (h : b ≠ a) : zra G b ≠ zra G a := by
  rw [zra_hi G ha, zra_hi G hb]
  omega
theorem zra_free (G : zG) {a : Nat} (h : 16 ≤ a) : zFree G (zra G a) := by
  rw [zra_hi G h]
  exact Nat.le_add_right _ _
theorem zE_obj {G : zG} {M : zMem} {X : zX} {a c : Nat} (h : xc X a = c) (hc : c < 100) : zE G M X a = .inr (c, zF c (M a) (fun k => (xR X a k).map (zra G))) := by
  unfold zE
  rw [h, if_pos hc]
theorem zE_ints {G : zG} {M : zMem} {X : zX} {a t n : Nat} (h : xc X a = 100 + t) (ht : t < 2) (hn : xl X a = n) : zE G M X a = .inl (zA G t, n, .inl (M a)) := by
  unfold zE
  rw [h, hn, if_neg (by omega), if_pos (by omega), Nat.add_sub_cancel_left]
theorem zE_refs {G : zG} {M : zMem} {X : zX} {a t n : Nat} (h : xc X a = 100 + t) (ht : 2 ≤ t) (hn : xl X a = n) : zE G M X a = .inl (zA G t, n, .inr (.inr (.inr (.inr (fun k => (xR X a k).map (zra G)))))) := by
  unfold zE
  rw [h, hn, if_neg (by omega), if_neg (by omega), Nat.add_sub_cancel_left]
theorem zF_get {c k : Nat} {m : Nat → Int32} {r : Nat → Option Nat} {b : Bool} (h : (zK c)[k]? = some b) : (zF c m r)[k]? = some (if b then .int (m k) else va_rf (r k)) := by
  have hk : k < (zK c).length := (List.getElem?_eq_some_iff.mp h).1
  unfold zF
  rw [List.getElem?_map, List.getElem?_range hk]
  simp [List.getD_eq_getElem?_getD, h]
theorem zF_len {c : Nat} {m : Nat → Int32} {r : Nat → Option Nat} : (zF c m r).length = (zK c).length := by simp [zF]
theorem zF_setI {c k : Nat} {m : Nat → Int32} {r : Nat → Option Nat} {x : Int32} (h : (zK c)[k]? = some true) : zF c (upd m k x) r = (zF c m r).set k (.int x) := by
  apply List.ext_getElem?
  intro j
  rw [List.getElem?_set]
  by_cases hj : k = j
  · subst hj
    have hk : k < (zF c m r).length := by rw [zF_len]; exact (List.getElem?_eq_some_iff.mp h).1
    rw [if_pos rfl, if_pos hk, zF_get h]
    simp [upd]
  · rw [if_neg hj]
    cases hb : (zK c)[j]? with
    | none =>
      have : (zK c).length ≤ j := List.getElem?_eq_none_iff.mp hb
      rw [List.getElem?_eq_none (by rw [zF_len]; exact this), List.getElem?_eq_none (by rw [zF_len]; exact this)]
    | some b =>
      rw [zF_get hb, zF_get hb]
      simp [upd, Ne.symm hj]
theorem zF_setR {c k : Nat} {m : Nat → Int32} {r : Nat → Option Nat} {x : Option Nat} (h : (zK c)[k]? = some false) : zF c m (fun j => if j = k then x else r j) = (zF c m r).set k (va_rf x) := by
  apply List.ext_getElem?
  intro j
  rw [List.getElem?_set]
  by_cases hj : k = j
  · subst hj
    have hk : k < (zF c m r).length := by rw [zF_len]; exact (List.getElem?_eq_some_iff.mp h).1
    rw [if_pos rfl, if_pos hk, zF_get h]
    simp
  · rw [if_neg hj]
    cases hb : (zK c)[j]? with
    | none =>
      have : (zK c).length ≤ j := List.getElem?_eq_none_iff.mp hb
      rw [List.getElem?_eq_none (by rw [zF_len]; exact this), List.getElem?_eq_none (by rw [zF_len]; exact this)]
    | some b =>
      rw [zF_get hb, zF_get hb]
      simp [Ne.symm hj]
theorem va_P1 {D : va_G} {cl : List vw_C} {q : Nat × va_E} {H : Heap} (h : va_at D cl q H) : va_P D cl [q] H := fun k x hx => by
  cases k with
  | zero => cases hx; exact h
  | succ n => simp at hx
theorem zP_at {G : zG} {M : zMem} {X : zX} {H : Heap} (h : zP G M X H) {a : Nat} (h1 : 16 ≤ a) (h2 : a < xz X) : va_at (zD G) vwCl (zra G a, zE G M X a) H := h.2.2 a h1 h2
/-- one cell is another one then, nothing else -/
theorem zP_put {G : zG} {M M1 : zMem} {X X1 : zX} {H H1 : Heap} (h : zP G M X H) {a : Nat} (h1 : 16 ≤ a) (hz : xz X1 = xz X) (hs : H1.size = H.size) (ho : ∀ q, q ≠ zra G a → H1[q]? = H[q]?) (hc : va_at (zD G) vwCl (zra G a, zE G M1 X1 a) H1) (hr : ∀ b, b ≠ a → zE G M1 X1 b = zE G M X b) : zP G M1 X1 H1 := by
  refine ⟨by rw [hs, hz]; exact h.1, by rw [hz]; exact h.2.1, fun b hb1 hb2 => ?_⟩
  rw [hz] at hb2
  by_cases e : b = a
  · subst e; exact hc
  · rw [hr b e]
    exact (h.2.2 b hb1 hb2).kept (ho _ (zra_ne G h1 hb1 e))
theorem zE_off {G : zG} {M : zMem} {X : zX} {a b : Nat} {f : Nat → Int32} (h : b ≠ a) : zE G (zs M a f) X b = zE G M X b := by
  unfold zE
  rw [zs_ne M f h]
theorem zE_offR {G : zG} {M : zMem} {X : zX} {a b : Nat} {f : Nat → Option Nat} (h : b ≠ a) : zE G M (zsR X a f) b = zE G M X b := by
  unfold zE
  rw [show xR (zsR X a f) b = xR X b from if_neg h]
  rfl
/-- a new cell -/
theorem zP_new {G : zG} {M M1 : zMem} {X X1 : zX} {H H1 : Heap} (h : zP G M X H) (hz : xz X1 = xz X + 1) (hs : H1.size = H.size + 1) (ho : ∀ q, q < H.size → H1[q]? = H[q]?) (hc : va_at (zD G) vwCl (zra G (xz X), zE G M1 X1 (xz X)) H1) (hr : ∀ b, b ≠ xz X → zE G M1 X1 b = zE G M X b) : zP G M1 X1 H1 := by
  have h0 := h.1
  have h1 := h.2.1
  refine ⟨by rw [hs, hz]; omega, by omega, fun b hb1 hb2 => ?_⟩
  rw [hz] at hb2
  by_cases e : b = xz X
  · subst e; exact hc
  · rw [hr b e]
    have hv := h.2.2 b hb1 (by omega)
    exact hv.kept (ho _ hv.lt)
theorem zW.moved {G : zG} {s U : State} (h : zW G s) (hW : s.WarmedH U.vm) (hS : ∀ a : Nat, a < s.heap.size → ¬ zFree G a → U.heap[a]? = s.heap[a]?) (hz : s.heap.size ≤ U.heap.size) : zW G U := by
  have hal := hW.alike
  obtain ⟨h1, h2, h3, h4, h5, h6, h7, h8, h9, h10, h11, h12⟩ := h
  refine ⟨va_K.moved hal h1, Nat.le_trans h2 hz, fun i hi => ?_, (h4.moved hal).kept hS, (h5.moved hal).kept hS, fun w hw => ?_, fun C hC => (h7 C hC).moved hal, over_moved hal h8, (h9.moved hal).kept hS, fun i hi => (h10 i hi).warm hW, (h11.moved hal).kept hS, (h12.moved hal).kept hS⟩
  · obtain ⟨⟨scr, a1, a2, a3, a4, a5⟩, b1⟩ := h3 i hi
    refine ⟨⟨scr, ?_, State.isArrayOf_alike hal a2, a3, a4, a5⟩, b1⟩
    rw [hS _ (Array.getElem?_eq_some_iff.mp a1).1 (fun z => absurd b1 (Nat.not_lt.mpr z))]
    exact a1
  · have hh := h6 w hw
    simp only [zNest, List.mem_cons, List.not_mem_nil, or_false] at hw
    rcases hw with rfl | rfl | rfl | rfl | rfl | rfl | rfl | rfl | rfl <;> exact va_Nw.warmM hW hh
