-- START: what the Statement says of the start gives the world that all rows stand in
theorem lt_of (i : Nat) {w : Cond} {args : Array Value} {s : State} (hts : ∀ w ∈ lw_tbl, w.before args s = true) (h : lw_tbl[i]? = some w) : w.before args s = true := hts w (List.mem_of_getElem? h)
theorem room_le {s : State} {pl : Platform} {r r' : Room} (hf : r.frames ≤ r'.frames) (hl : r.locals ≤ r'.locals) (hc : r.cells ≤ r'.cells) (hs : r.slots ≤ r'.slots) (h : s.hasRoom pl r' = true) : s.hasRoom pl r = true := by
  simp only [State.hasRoom, Bool.and_eq_true, decide_eq_true_eq] at h ⊢
  obtain ⟨⟨⟨⟨y, a, b, c, d, e⟩, f⟩, g⟩, i⟩ := h
  exact ⟨⟨⟨⟨by omega, by omega, by omega, by omega, by omega, e⟩, by omega⟩, by omega⟩, i⟩
theorem W_room {p : Program} {l : Launch} {e : Env} {s : State} {m : MethodId} {args : Array Value} {below : List Frame} {meth : Method} {c : Code} {H : Heap} {locs : List Loc} {cells slots : Nat} {Q : State → Prop} {g : JFrame} (k : W p l e (zRm 2048 600000 7302250) s m args below meth c H locs cells slots Q g) : W p l e room_1 s m args below meth c H locs cells slots Q g :=
  fun T hT X => k T hT ⟨X.admits, X.cas, X.clock, X.frames, room_le (r := zRm 2048 600000 7302250) (r' := room_1) (Nat.le_of_ble_eq_true rfl) (Nat.le_of_ble_eq_true rfl) (Nat.le_of_ble_eq_true rfl) (Nat.le_of_ble_eq_true rfl) X.room, X.hears, X.method, X.code, X.here, X.tail, X.warmed, X.limits, X.bytes, X.same⟩
/-- a static array of ints whose length and places the Statement gives -/
theorem st_X {args : Array Value} {s : State} {tm : Term} {N : Nat} {f : Nat → Int32} (hN : N < 2 ^ 31) (harr : (Cond.arrayOf tm .int).before args s = true) (hlen : (Cond.eq (.length tm) (.int (Int32.ofNat N))).before args s = true) (hel : ∀ j : Nat, j < N → (Cond.eq (.elem tm (.int (Int32.ofNat j))) (.int (f j))).before args s = true) : ∃ t : Nat, tm.eval args s none [] s = some (.ref t) ∧ va_X t N f s s.heap ∧ t < s.heap.size := by
  have hl := va_eqt hlen
  obtain ⟨t, ht, cell, hcell, hof, hkn, hle, hsz, hv, -⟩ := va_Tof (A := fun _ => False) (f := fun j => .int (f j)) hN harr hl (fun j hj => va_eqt (hel j hj)) (fun _ _ h => h)
  obtain ⟨a, cell2, ht2, harr2, hv2⟩ := Term.length_spec hl
  cases ht.symm.trans ht2
  obtain ⟨hc2, -, -, -⟩ := State.arrayAt?_spec harr2
  cases hcell.symm.trans hc2
  have hlt : cell.slots.size < 2 ^ 31 := by
    simp only [Term.eval, ht, harr2, Option.bind_eq_bind, Option.bind_some] at hl
    by_cases hlt : cell.slots.size < 2147483648
    · exact hlt
    · simp [hlt] at hl
  have hsize : cell.slots.size = N := by
    have h1 : (nI cell.slots.size).toInt = (nI N).toInt := congrArg Int32.toInt hsz
    rw [nI_toInt hlt, nI_toInt hN] at h1
    omega
  exact ⟨t, ht, ⟨cell, hcell, hof, hkn, hsize, hv⟩, (Array.getElem?_eq_some_iff.mp hcell).1⟩
theorem vk_S_as {N : Nat} {len : List Nat} {byt : List (List Int32)} {aK aV bK bV : Nat → Nat} {A : Nat → Prop} {U : State} {H : Heap} (h : vk_S N len byt aK aV A U H) (h1 : ∀ i, i < N → bK i = aK i) (h2 : ∀ i, i < N → bV i = aV i) : vk_S N len byt bK bV A U H := by
  refine ⟨fun i hi => ?_, fun i j hi hj e => ?_⟩
  · rw [h1 i hi, h2 i hi]
    exact h.1 i hi
  · rw [h1 i hi, h1 j hj] at e
    exact h.2 i j hi hj e
def nwL : List Cond := flatC (Jvm.Cond.and given_1 narrow_1)
def nwT (i : Nat) : Term := .string "RegretLocks$Parser" (zStrs.getD i (0, "")).1
def abF (j : Nat) : Int32 := [(-1 : Int32), 0, 0, 1, 2, 0].getD j 0
def stF (j : Nat) : Int32 := [(81 : Int32), 9, 1].getD j 0
def abT : Term := .static "RegretLocks$Kinds" "ABOVE" "[I"
def stT : Term := .static "RegretLocks$Ways" "STEPS" "[I"
theorem nw_ab1 : Cond.arrayOf abT .int ∈ nwL := by decide +kernel
theorem nw_ab2 : Cond.eq (.length abT) (.int (Int32.ofNat 6)) ∈ nwL := by decide +kernel
theorem nw_ab3 : ∀ j : Nat, j < 6 → Cond.eq (.elem abT (.int (Int32.ofNat j))) (.int (abF j)) ∈ nwL := by decide +kernel
theorem nw_st1 : Cond.arrayOf stT .int ∈ nwL := by decide +kernel
theorem nw_st2 : Cond.eq (.length stT) (.int (Int32.ofNat 3)) ∈ nwL := by decide +kernel
theorem nw_st3 : ∀ j : Nat, j < 3 → Cond.eq (.elem stT (.int (Int32.ofNat j))) (.int (stF j)) ∈ nwL := by decide +kernel
theorem nw_co : Cond.eq (.static "java/lang/String" "COMPACT_STRINGS" "Z") (.int 1) ∈ nwL := by decide +kernel
theorem nw_fm : Cond.isRef (.static "jdk/internal/util/Preconditions" "SIOOBE_FORMATTER" "Ljava/util/function/BiFunction;") ∈ nwL := by decide +kernel
theorem nw_s1 : ∀ i : Nat, i < 6 → Cond.exactly (nwT i) "java/lang/String" ∈ nwL := by decide +kernel
theorem nw_s2 : ∀ i : Nat, i < 6 → Cond.eq (.field (nwT i) "java/lang/String" "coder" "B") (.int 0) ∈ nwL := by decide +kernel
theorem nw_s3 : ∀ i : Nat, i < 6 → Cond.arrayOf (.field (nwT i) "java/lang/String" "value" "[B") .byte ∈ nwL := by decide +kernel
theorem nw_s4 : ∀ i : Nat, i < 6 → Cond.eq (.length (.field (nwT i) "java/lang/String" "value" "[B")) (.int (Int32.ofNat (zLen.getD i 0))) ∈ nwL := by decide +kernel
theorem nw_s5 : ∀ i : Nat, i < 6 → ∀ j : Nat, j < zLen.getD i 0 → Cond.eq (.elem (.field (nwT i) "java/lang/String" "value" "[B") (.int (Int32.ofNat j))) (.int ((zByt.getD i []).getD j 0)) ∈ nwL := by decide +kernel
theorem nw_s6 : ∀ i : Nat, i < 6 → ∀ j : Nat, j < 6 → i ≠ j → Cond.not (Cond.eq (nwT i) (nwT j)) ∈ nwL ∨ Cond.not (Cond.eq (nwT j) (nwT i)) ∈ nwL := by decide +kernel
theorem st_cls {args : Array Value} {s : State} (hts : ∀ w ∈ lw_tbl, w.before args s = true) : ∃ (dC : Nat → ClassId) (dI : Nat → Nat → Nat), ∀ (k : Nat) (q : vw_C), vwCl[k]? = some q → u_Kn s q.1 q.2.1 q.2.2 (dC k) (dI k) := by
  have h : ∀ k : Nat, ∃ y : ClassId × (Nat → Nat), ∀ q : vw_C, vwCl[k]? = some q → u_Kn s q.1 q.2.1 q.2.2 y.1 y.2 := by
    intro k
    have hk : k = 0 ∨ k = 1 ∨ k = 2 ∨ k = 3 ∨ k = 4 ∨ k = 5 ∨ k = 6 ∨ k = 7 ∨ k = 8 ∨ k = 9 ∨ 10 ≤ k := by omega
    rcases hk with rfl | rfl | rfl | rfl | rfl | rfl | rfl | rfl | rfl | rfl | hk
    · obtain ⟨c, i, h⟩ := u_known (C := RX1) (T := TX1) (N := 5) (n := 5) hts inX1 (lt_of 136 hts (by decide +kernel))
      exact ⟨(c, i), fun q hq => by cases hq; exact h⟩
    · obtain ⟨c, i, h⟩ := u_known (C := RX2) (T := TX2) (N := 14) (n := 14) hts inX2 (lt_of 254 hts (by decide +kernel))
      exact ⟨(c, i), fun q hq => by cases hq; exact h⟩
    · obtain ⟨c, i, h⟩ := u_known (C := RX3) (T := TX3) (N := 3) (n := 3) hts inX3 (lt_of 111 hts (by decide +kernel))
      exact ⟨(c, i), fun q hq => by cases hq; exact h⟩
    · obtain ⟨c, i, h⟩ := u_known (C := RX4) (T := TX4) (N := 3) (n := 3) hts inX4 (lt_of 307 hts (by decide +kernel))
      exact ⟨(c, i), fun q hq => by cases hq; exact h⟩
    · obtain ⟨c, i, h⟩ := u_known (C := RX5) (T := TX5) (N := 4) (n := 4) hts inX5 (lt_of 325 hts (by decide +kernel))
      exact ⟨(c, i), fun q hq => by cases hq; exact h⟩
    · obtain ⟨c, i, h⟩ := u_known (C := RX6) (T := TX6) (N := 5) (n := 5) hts inX6 (lt_of 922 hts (by decide +kernel))
      exact ⟨(c, i), fun q hq => by cases hq; exact h⟩
    · obtain ⟨c, i, h⟩ := u_known (C := RX7) (T := TX7) (N := 14) (n := 14) hts inX7 (lt_of 100 hts (by decide +kernel))
      exact ⟨(c, i), fun q hq => by cases hq; exact h⟩
    · obtain ⟨c, i, h⟩ := u_known (C := RX8) (T := TX8) (N := 4) (n := 4) hts inX8 (lt_of 232 hts (by decide +kernel))
      exact ⟨(c, i), fun q hq => by cases hq; exact h⟩
    · obtain ⟨c, i, h⟩ := u_known (C := RX9) (T := TX9) (N := 13) (n := 13) hts inX9 (lt_of 92 hts (by decide +kernel))
      exact ⟨(c, i), fun q hq => by cases hq; exact h⟩
    · obtain ⟨c, i, h⟩ := u_known (C := RX10) (T := TX10) (N := 33) (n := 33) hts inX10 (lt_of 1053 hts (by decide +kernel))
      exact ⟨(c, i), fun q hq => by cases hq; exact h⟩
    · refine ⟨(0, fun _ => 0), fun q hq => ?_⟩
      rw [List.getElem?_eq_none (by exact hk)] at hq
      cases hq
  obtain ⟨y, hy⟩ := Classical.axiomOfChoice h
  exact ⟨fun k => (y k).1, fun k => (y k).2, fun k q hq => hy k q hq⟩
theorem st_arr {s : State} {C : String} {args : Array Value} (h : (Cond.arrayOver (.object C)).before args s = true) : ∃ cA : ClassId, ArrOfT s cA (.object C) ∧ va_RA s cA (.object C) := by
  obtain ⟨comp, c, k, h1, -, h3, h4, h5⟩ := Cond.arrayOver_spec h
  exact ⟨c, fun N z => ⟨(fun k h => by cases h), k, h3, comp, h4⟩, k, comp, h3, h4, h1, h5⟩
theorem st_arrs {args : Array Value} {s : State} (hts : ∀ w ∈ lw_tbl, w.before args s = true) : ∃ zA : Nat → ClassId, ∀ t, t < 8 → ArrOfT s (zA t) (zTy t) ∧ va_RA s (zA t) (zTy t) := by
  have h : ∀ t : Nat, ∃ c : ClassId, t < 8 → ArrOfT s c (zTy t) ∧ va_RA s c (zTy t) := by
    intro t
    have ht : t = 0 ∨ t = 1 ∨ t = 2 ∨ t = 3 ∨ t = 4 ∨ t = 5 ∨ t = 6 ∨ t = 7 ∨ 8 ≤ t := by omega
    rcases ht with rfl | rfl | rfl | rfl | rfl | rfl | rfl | rfl | ht
    · obtain ⟨c, k, comp, h1, h2, h3⟩ := Cond.arrayClass_spec (lt_of 135 hts (by decide +kernel) : (Cond.arrayClass .int).before args s = true)
      exact ⟨c, fun _ => ⟨fun n z => ⟨fun k h => (by cases h), k, h2, comp, h3⟩, h1⟩⟩
    · obtain ⟨c, k, comp, h1, h2, h3⟩ := Cond.arrayClass_spec (lt_of 302 hts (by decide +kernel) : (Cond.arrayClass .byte).before args s = true)
      exact ⟨c, fun _ => ⟨fun n z => ⟨fun k h => (by cases h), k, h2, comp, h3⟩, h1⟩⟩
    · obtain ⟨c, h⟩ := st_arr (lt_of 106 hts (by decide +kernel) : (Cond.arrayOver (.object "RegretLocks$Person")).before args s = true)
      exact ⟨c, fun _ => h⟩
    · obtain ⟨c, h⟩ := st_arr (lt_of 108 hts (by decide +kernel) : (Cond.arrayOver (.object "RegretLocks$Lock")).before args s = true)
      exact ⟨c, fun _ => h⟩
    · obtain ⟨c, h⟩ := st_arr (lt_of 110 hts (by decide +kernel) : (Cond.arrayOver (.object "RegretLocks$Text")).before args s = true)
      exact ⟨c, fun _ => h⟩
    · obtain ⟨c, h⟩ := st_arr (lt_of 304 hts (by decide +kernel) : (Cond.arrayOver (.object "RegretLocks$Sheet")).before args s = true)
      exact ⟨c, fun _ => h⟩
    · obtain ⟨c, h⟩ := st_arr (lt_of 306 hts (by decide +kernel) : (Cond.arrayOver (.object "RegretLocks$Slot")).before args s = true)
      exact ⟨c, fun _ => h⟩
    · obtain ⟨comp, c, k, h1, -, h3, h4, h5⟩ := arrayOverA_spec (lt_of 238 hts (by decide +kernel) : (Cond.arrayOver (.array .int)).before args s = true)
      exact ⟨c, fun _ => ⟨fun n z => ⟨fun k h => (by cases h), k, h3, comp, h4⟩, h5⟩⟩
    · exact ⟨0, fun z => absurd z (Nat.not_lt.mpr ht)⟩
  obtain ⟨y, hy⟩ := Classical.axiomOfChoice h
  exact ⟨y, hy⟩
def soA (tA tS b : Nat) (aK aV : Nat → Nat) (fA : Nat) (k : Nat) : Nat := if k = 0 then tA else if k = 1 then tS else if k = 2 then b else if k < 9 then aK (k - 3) else if k < 15 then aV (k - 9) else fA
def soL (L : Nat) (k : Nat) : Nat := if k = 0 then 6 else if k = 1 then 3 else L
def soX (xs : Nat → Int32) (k : Nat) : Nat → Int32 := if k = 0 then abF else if k = 1 then stF else xs
theorem soA_K {tA tS b fA : Nat} {aK aV : Nat → Nat} {i : Nat} (h : i < 6) : soA tA tS b aK aV fA (3 + i) = aK i := by
  unfold soA
  rw [if_neg (by omega), if_neg (by omega), if_neg (by omega), if_pos (by omega), Nat.add_sub_cancel_left]
theorem soA_V {tA tS b fA : Nat} {aK aV : Nat → Nat} {i : Nat} (h : i < 6) : soA tA tS b aK aV fA (9 + i) = aV i := by
  unfold soA
  rw [if_neg (by omega), if_neg (by omega), if_neg (by omega), if_neg (by omega), if_pos (by omega), Nat.add_sub_cancel_left]
theorem st_nest {args : Array Value} {s : State} (hts : ∀ w ∈ lw_tbl, w.before args s = true) : ∀ w ∈ zNest, va_Nw w s := by
  intro w hw
  simp only [zNest, List.mem_cons, List.not_mem_nil, or_false] at hw
  rcases hw with rfl | rfl | rfl | rfl | rfl | rfl | rfl | rfl | rfl
  · exact va_Nw.of rfl (lt_of 112 hts (by decide +kernel))
  · exact va_Nw.of rfl (lt_of 137 hts (by decide +kernel))
  · exact va_Nw.of rfl (lt_of 233 hts (by decide +kernel))
  · exact va_Nw.of rfl (lt_of 255 hts (by decide +kernel))
  · exact va_Nw.of rfl (lt_of 308 hts (by decide +kernel))
  · exact va_Nw.of rfl (lt_of 326 hts (by decide +kernel))
  · exact va_Nw.of rfl (lt_of 331 hts (by decide +kernel))
  · exact va_Nw.of rfl (lt_of 333 hts (by decide +kernel))
  · exact va_Nw.of rfl (lt_of 549 hts (by decide +kernel))
theorem st_over {args : Array Value} {s : State} (hts : ∀ w ∈ lw_tbl, w.before args s = true) : ∀ C ∈ ["RegretLocks$Person", "RegretLocks$Lock", "RegretLocks$Text", "RegretLocks$Sheet", "RegretLocks$Slot"], va_AO C s := by
  intro C hC
  simp only [List.mem_cons, List.not_mem_nil, or_false] at hC
  rcases hC with rfl | rfl | rfl | rfl | rfl
  · exact va_AO.of (A := args) (lt_of 106 hts (by decide +kernel))
  · exact va_AO.of (A := args) (lt_of 108 hts (by decide +kernel))
  · exact va_AO.of (A := args) (lt_of 110 hts (by decide +kernel))
  · exact va_AO.of (A := args) (lt_of 304 hts (by decide +kernel))
  · exact va_AO.of (A := args) (lt_of 306 hts (by decide +kernel))
theorem st_ref {args : Array Value} {s : State} (hts : ∀ w ∈ lw_tbl, w.before args s = true) : ∀ i, i < 6 → (Cond.stringRef "RegretLocks$Parser" (zStrs.getD i (0, "")).1 (zStrs.getD i (0, "")).2).before args s = true := by
  intro i hi
  have h : i = 0 ∨ i = 1 ∨ i = 2 ∨ i = 3 ∨ i = 4 ∨ i = 5 := by omega
  rcases h with rfl | rfl | rfl | rfl | rfl | rfl
  · exact lt_of 761 hts (by decide +kernel)
  · exact lt_of 814 hts (by decide +kernel)
  · exact lt_of 815 hts (by decide +kernel)
  · exact lt_of 836 hts (by decide +kernel)
  · exact lt_of 837 hts (by decide +kernel)
  · exact lt_of 838 hts (by decide +kernel)
theorem st_W (l : Launch) {args : Array Value} {s : State} {b L : Nat} {xs : Nat → Int32} (hts : ∀ w ∈ lw_tbl, w.before args s = true) (hgv : (Jvm.Cond.and given_1 narrow_1).before args s = true) (hX : va_X b L xs s s.heap) (hbl : b < s.heap.size) : ∃ G : zG, zl G = l ∧ zb G = s.heap.size ∧ zo G 2 = b ∧ zoL G 2 = L ∧ zW G s ∧ gOK G ∧ zFm G := by
  have hn : ∀ w ∈ nwL, w.before args s = true := flat_of_before _ hgv
  obtain ⟨dC, dI, hK⟩ := st_cls hts
  obtain ⟨yA, hA⟩ := st_arrs hts
  have hF : ∀ a : Nat, a < s.heap.size → ¬ (fun q : Nat => s.heap.size ≤ q) a := fun a h1 h2 => absurd h1 (Nat.not_lt.mpr h2)
  obtain ⟨tA, eA, xA, lA⟩ := st_X (tm := abT) (N := 6) (f := abF) (by decide) (hn _ nw_ab1) (hn _ nw_ab2) (fun j hj => hn _ (nw_ab3 j hj))
  obtain ⟨tS, eS, xS, lS⟩ := st_X (tm := stT) (N := 3) (f := stF) (by decide) (hn _ nw_st1) (hn _ nw_st2) (fun j hj => hn _ (nw_st3 j hj))
  have zA1 := va_Zref (A := fun q : Nat => s.heap.size ≤ q) (lt_of 443 hts (by decide +kernel) : (Cond.laysStatic "RegretLocks$Kinds" "ABOVE" "[I").before args s = true) (lt_of 81 hts (by decide +kernel)) eA hF
  have zS1 := va_Zref (A := fun q : Nat => s.heap.size ≤ q) (lt_of 634 hts (by decide +kernel) : (Cond.laysStatic "RegretLocks$Ways" "STEPS" "[I").before args s = true) (lt_of 76 hts (by decide +kernel)) eS hF
  have zC1 := va_Zof (A := fun q : Nat => s.heap.size ≤ q) (lt_of 775 hts (by decide +kernel) : (Cond.laysStatic "java/lang/String" "COMPACT_STRINGS" "Z").before args s = true) (lt_of 85 hts (by decide +kernel)) (va_eqi (hn _ nw_co)) hF
  have zF1 := va_Zqof (A := fun q : Nat => s.heap.size ≤ q) (lt_of 791 hts (by decide +kernel) : (Cond.laysStatic "jdk/internal/util/Preconditions" "SIOOBE_FORMATTER" "Ljava/util/function/BiFunction;").before args s = true) (lt_of 87 hts (by decide +kernel)) (hn _ nw_fm) hF
  obtain ⟨aK, aV, hS, hE⟩ := vk_Sof (args := args) (s := s) (N := 6) (tm := nwT) (len := zLen) (byt := zByt) (A := fun q : Nat => s.heap.size ≤ q) (by decide) (fun i hi => hn _ (nw_s1 i hi)) (fun i hi => hn _ (nw_s2 i hi)) (fun i hi => hn _ (nw_s3 i hi)) (fun i hi => hn _ (nw_s4 i hi)) (fun i hi j hj => hn _ (nw_s5 i hi j hj)) (fun i j hi hj hne => (nw_s6 i hi j hj hne).imp (fun h => hn _ h) (fun h => hn _ h)) hF
  have key : ∀ (fA : Nat) (fm : Value), (fm = .ref 15 ∨ fm = .null) → va_Z "jdk/internal/util/Preconditions" "SIOOBE_FORMATTER" "Ljava/util/function/BiFunction;" (match fm with | .ref _ => .ref fA | w => w) (fun q : Nat => s.heap.size ≤ q) s s.heap → ∃ G : zG, zl G = l ∧ zb G = s.heap.size ∧ zo G 2 = b ∧ zoL G 2 = L ∧ zW G s ∧ gOK G ∧ zFm G := by
    intro fA fm hfm hz
    refine ⟨(l, (dC, dI), yA, s.heap.size, soA tA tS b aK aV fA, soL L, soX xs, fm), rfl, rfl, rfl, rfl, ⟨⟨hK, fun k q hq => ?_⟩, Nat.le_refl _, fun i hi => ?_, zA1, zS1, st_nest hts, st_over hts, over_moved (Vm.Alike.refl s.vm) (lt_of 238 hts (by decide +kernel) : (Cond.arrayOver (.array .int)).before args s = true), vk_S_as hS (fun i hi => soA_K hi) (fun i hi => soA_V hi), fun i hi => ?_, zC1, ?_⟩, ⟨rfl, ⟨rfl, rfl, rfl, rfl, rfl, rfl⟩, rfl, rfl, rfl, rfl⟩, hfm⟩
    · have hm := List.mem_of_getElem? hq
      simp only [zTyL, List.mem_map, List.mem_range] at hm
      obtain ⟨t, ht, rfl⟩ := hm
      exact hA t ht
    · have h : i = 0 ∨ i = 1 ∨ i = 2 := by omega
      rcases h with rfl | rfl | rfl
      · exact ⟨xA, lA⟩
      · exact ⟨xS, lS⟩
      · exact ⟨hX, hbl⟩
    · have e : soA tA tS b aK aV fA (3 + i) = aK i := soA_K hi
      show vk_R _ _ _ (soA tA tS b aK aV fA (3 + i)) s
      rw [e]
      exact vk_R.of (A := args) (st_ref hts i hi) (hE i hi)
    · rcases hfm with rfl | rfl
      · exact hz
      · exact hz
  rcases zF1 with h | ⟨t, h⟩
  · exact key 0 .null (.inr rfl) h
  · exact key t (.ref 15) (.inl rfl) h
