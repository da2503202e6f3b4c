-- STRINGS: the constants (cells 3 .. 8, their bytes 9 .. 14), and the JDK's methods on them
section ZSt
variable {G : zG} {mi : zM} {rm : Room} {Q : List Frame → Array Value → State → State → Prop} {pc n : Nat} {lv : List (Option Value)} {st : List Value} {M : zMem} {X : zX} {cn : Nat × Nat}
def sLn (i : Nat) : Nat := zLen.getD i 0
def sBy (i j : Nat) : Int32 := (zByt.getD i []).getD j 0
theorem zWs {s : State} (h : zW G s) : vk_S 6 zLen zByt (fun i => zo G (3 + i)) (fun i => zo G (9 + i)) (zFree G) s s.heap := h.2.2.2.2.2.2.2.2.1
theorem j_ldcS {i ix : Nat} (hd : decode (zc mi) pc = .ok (.ldc ix, 2)) (hn : pc + 2 = n) (hi : i < 6) (hx : (zStrs.getD i (0, "")).1 = ix) (ho : mi.1.cls = "RegretLocks$Parser") (kk : zAt G mi rm Q n lv (.ref (3 + i) :: st) M X cn) : zAt G mi rm Q pc lv st M X cn := by
  subst hn
  intro p e s m args below meth c0 H locs ls E hP hS hl
  have hW := E.2.2.2.2.2.2.2.2
  have hZ := hW.2.2.2.2.2.2.2.2.2.1 i hi
  rw [hx] at hZ
  have hown := E.2.2.2.2.2.2.1
  rw [ho] at hown
  refine va_ldcS E.1 E.2.1 hown hZ hd ?_
  have k := kk p e s m args below meth c0 H locs ls E hP hS hl
  have ez : zv G (.ref (3 + i)) = .ref (zo G (3 + i)) := by show Value.ref (zra G (3 + i)) = _; rw [zra_lo G (by omega)]
  rw [List.map_cons, ez] at k
  exact k
theorem js_val {i ix : Nat} (hd : decode (zc mi) pc = .ok (.getfield ix, 3)) (hn : pc + 3 = n) (hi : i < 6) (hw : Cond.fieldLink mi.1.cls ix "java/lang/String" "value" "[B" ∈ zT) (kk : zAt G mi rm Q n lv (.ref (9 + i) :: st) M X cn) : zAt G mi rm Q pc lv (.ref (3 + i) :: st) M X cn := by
  subst hn
  intro p e s m args below meth c0 H locs ls E hP hS hl
  have hE := ((zWs E.2.2.2.2.2.2.2.2).1 i hi).2.2.1
  have k := kk p e s m args below meth c0 H locs ls E hP hS hl
  have ez : zv G (.ref (9 + i)) = .ref (zo G (9 + i)) := by show Value.ref (zra G (9 + i)) = _; rw [zra_lo G (by omega)]
  have e3 : zv G (.ref (3 + i)) = .ref (zo G (3 + i)) := by show Value.ref (zra G (3 + i)) = _; rw [zra_lo G (by omega)]
  rw [List.map_cons, ez] at k
  rw [List.map_cons, e3]
  exact vk_getf E.1 E.2.1 hE hS E.2.2.2.2.2.2.1 (E.2.2.2.2.2.2.2.1 _ hw) (fun _ h => h) hd k
theorem js_cod {i ix : Nat} (hd : decode (zc mi) pc = .ok (.getfield ix, 3)) (hn : pc + 3 = n) (hi : i < 6) (hw : Cond.fieldLink mi.1.cls ix "java/lang/String" "coder" "B" ∈ zT) (kk : zAt G mi rm Q n lv (.int (nI 0) :: st) M X cn) : zAt G mi rm Q pc lv (.ref (3 + i) :: st) M X cn := by
  subst hn
  intro p e s m args below meth c0 H locs ls E hP hS hl
  have hE := ((zWs E.2.2.2.2.2.2.2.2).1 i hi).2.1
  have k := kk p e s m args below meth c0 H locs ls E hP hS hl
  have e3 : zv G (.ref (3 + i)) = .ref (zo G (3 + i)) := by show Value.ref (zra G (3 + i)) = _; rw [zra_lo G (by omega)]
  rw [List.map_cons, e3]
  exact vk_getf E.1 E.2.1 hE hS E.2.2.2.2.2.2.1 (E.2.2.2.2.2.2.2.1 _ hw) (fun _ h => h) hd k
theorem js_len {i : Nat} (hd : decode (zc mi) pc = .ok (.arraylength, 1)) (hn : pc + 1 = n) (hi : i < 6) (kk : zAt G mi rm Q n lv (.int (nI (sLn i)) :: st) M X cn) : zAt G mi rm Q pc lv (.ref (9 + i) :: st) M X cn := by
  subst hn
  intro p e s m args below meth c0 H locs ls E hP hS hl
  have hE := ((zWs E.2.2.2.2.2.2.2.2).1 i hi).2.2.2
  have k := kk p e s m args below meth c0 H locs ls E hP hS hl
  have e3 : zv G (.ref (9 + i)) = .ref (zo G (9 + i)) := by show Value.ref (zra G (9 + i)) = _; rw [zra_lo G (by omega)]
  rw [List.map_cons, e3]
  exact va_tlen E.1 E.2.1 hE hS rfl hd k
theorem js_ald {i j : Nat} {v : Int32} (hd : decode (zc mi) pc = .ok (.baload, 1)) (hn : pc + 1 = n) (hi : i < 6) (hj : j < sLn i) (hb : sLn i ≤ 2147483648) (hv : sBy i j = v) (kk : zAt G mi rm Q n lv (.int v :: st) M X cn) : zAt G mi rm Q pc lv (.int (nI j) :: .ref (9 + i) :: st) M X cn := by
  subst hn
  intro p e s m args below meth c0 H locs ls E hP hS hl
  have hE := ((zWs E.2.2.2.2.2.2.2.2).1 i hi).2.2.2
  have k := kk p e s m args below meth c0 H locs ls E hP hS hl
  have e3 : zv G (.ref (9 + i)) = .ref (zo G (9 + i)) := by show Value.ref (zra G (9 + i)) = _; rw [zra_lo G (by omega)]
  rw [List.map_cons, List.map_cons, e3]
  exact va_tb E.1 E.2.1 hE hS (vp_inN hj hb) (by rw [nI_clamp (by omega)]; exact congrArg Value.int hv) hd k
theorem js_cmp {ix : Nat} (hd : decode (zc mi) pc = .ok (.getstatic ix, 3)) (hn : pc + 3 = n) (hw : Cond.fieldLink mi.1.cls ix "java/lang/String" "COMPACT_STRINGS" "Z" ∈ zT) (kk : zAt G mi rm Q n lv (.int (nI 1) :: st) M X cn) : zAt G mi rm Q pc lv st M X cn := by
  subst hn
  intro p e s m args below meth c0 H locs ls E hP hS hl
  have hW := E.2.2.2.2.2.2.2.2
  exact va_gets E.1 E.2.1 hW.2.2.2.2.2.2.2.2.2.2.1 hS E.2.2.2.2.2.2.1 (E.2.2.2.2.2.2.2.1 _ hw) (fun _ h9 => h9) hd (kk p e s m args below meth c0 H locs ls E hP hS hl)
theorem js_fmt {w : Value} {ix : Nat} (hd : decode (zc mi) pc = .ok (.getstatic ix, 3)) (hn : pc + 3 = n) (hw : Cond.fieldLink mi.1.cls ix "jdk/internal/util/Preconditions" "SIOOBE_FORMATTER" "Ljava/util/function/BiFunction;" ∈ zT) (hf : zfm G = w) (kk : zAt G mi rm Q n lv (w :: st) M X cn) : zAt G mi rm Q pc lv st M X cn := by
  subst hn
  intro p e s m args below meth c0 H locs ls E hP hS hl
  have hW := E.2.2.2.2.2.2.2.2
  have hZ := hW.2.2.2.2.2.2.2.2.2.2.2
  rw [hf] at hZ
  exact va_gets E.1 E.2.1 hZ hS E.2.2.2.2.2.2.1 (E.2.2.2.2.2.2.2.1 _ hw) (fun _ h9 => h9) hd (kk p e s m args below meth c0 H locs ls E hP hS hl)
/-- a call on a String constant -/
def zCVs (own : String) (idx : Nat) (mj : zM) (k : Nat) : Prop := zCB own idx mj k ∧ Cond.instanceMethod mj.1 ∈ zT ∧ Cond.selects mj.1.cls mj.1 mj.1 ∈ zT ∧ mj.1.cls = "java/lang/String"
theorem j_callVs {P : Option Value → zMem → zX → Prop} {d d' C N C' N' i k a : Nat} {mj : zM} {as stk : List Value} (hd : decode (zc mi) pc = .ok (.invokevirtual i, 3)) (hn : pc + 3 = n) (hw : zCVs mi.1.cls i mj k) (ha : a < 6) (hM : zCall G mj d' (.ref (3 + a) :: as) P M X C' N') (hr : d' + 1 ≤ d) (hmx : mj.2.2.1 ≤ 21) (hk : as.length = k) (hst : stk = as.reverse ++ .ref (3 + a) :: st) (hcat : (st.map fun v => v.category).sum ≤ 8) (h1 : cn.1 + C' ≤ C) (h2 : cn.2 + N' ≤ N)
    (kk : ∀ (v : Option Value) (M1 : zMem) (X1 : zX), P v M1 X1 → zAt G mi (zRm d C N) Q n lv (v.toList ++ st) M1 X1 (cn.1 + C', cn.2 + N')) : zAt G mi (zRm d C N) Q pc lv stk M X cn := by
  subst hn; subst hst
  intro p e s m args below meth c0 H locs ls E hP hS hl
  obtain ⟨⟨w1, w2, w3, w4⟩, w5, w6, w7⟩ := hw
  have hts := E.2.2.2.2.2.2.2.1
  have hre := vk_recv (zWs E.2.2.2.2.2.2.2.2) ha hS
  have e3 : zra G (3 + a) = zo G (3 + a) := zra_lo G (by omega)
  rw [← w7] at hre
  rw [← e3] at hre
  have hr := va_runV (l := zl G) (e := e) (below := below) (meth := meth) (locs := locs) (cells := cn.1) (slots := cn.2) (H := H) (R := zRm d C N) (g := F0 m pc ls ((as.reverse ++ .ref (3 + a) :: st).map (zv G))) (As := as.map (zv G)) (b := zra G (3 + a)) (C := mj.1.cls) (rest := st.map (zv G)) (nL := mi.2.2.1) (n := k) (bytes := mj.2.1) (maxL := mj.2.2.1) (ret := mj.2.2.2) ⟨E.1, E.2.1, E.2.2.1, E.2.2.2.2.2.2.1, hts⟩ hM ⟨callB_of k hts (zGood w2) rfl rfl rfl (hts _ w3) (hts _ w1) w4 ⟨hr, ?_⟩, hts _ w5, hts _ w6⟩ ⟨zBlind, hre, zPc (as := .ref (3 + a) :: as) E.2.2.2.2.2.2.2.2 hP hS⟩ rfl (by rw [List.length_map]; exact hk) hl.1 (by simp [zv]) (by rw [zcat]; simpa [JFrame.monitorRoom] using hcat) hd ⟨h1, h2⟩
  · exact zAfter E hS hl hr kk
  · show 8 + (mj.2.2.1 + 11) + 40 * d' ≤ 40 * d
    omega
theorem j_cVs {d d' C N i k a : Nat} {mj : zM} {as stk : List Value} {r : Int32} {M1 : zMem} {X1 : zX} (hd : decode (zc mi) pc = .ok (.invokevirtual i, 3)) (hn : pc + 3 = n) (hw : zCVs mi.1.cls i mj k) (ha : a < 6) (hM : zCall G mj d' (.ref (3 + a) :: as) (zI r M1 X1) M X 0 0) (hr : d' + 1 ≤ d) (hmx : mj.2.2.1 ≤ 21) (hk : as.length = k) (hst : stk = as.reverse ++ .ref (3 + a) :: st) (hcat : (st.map fun v => v.category).sum ≤ 8) (h1 : cn.1 ≤ C) (h2 : cn.2 ≤ N)
    (kk : zAt G mi (zRm d C N) Q n lv (.int r :: st) M1 X1 cn) : zAt G mi (zRm d C N) Q pc lv stk M X cn :=
  j_callVs hd hn hw ha hM hr hmx hk hst hcat h1 h2 (fun v M2 X2 h => by obtain ⟨rfl, rfl, rfl⟩ := h; exact kk)
theorem j_rx {r x : Int32} {M1 : zMem} {X1 : zX} {C N : Nat} {ty : FieldType} (hd : decode (zc mi) pc = .ok (.ireturn, 1)) (hty : mi.2.2.2 = some ty) (hb : narrow ty (.int x) = .int x) (h1 : cn.1 ≤ C) (h2 : cn.2 ≤ N) (hr : x = r) (hM : M = M1) (hX : X = X1) : zAt G mi rm (zQ G (zI r M1 X1) C N) pc lv [.int x] M X cn :=
  j_iret hd hty hb h1 h2 ⟨by rw [hr], hM, hX⟩
end ZSt
theorem fs_val : Cond.fieldLink "java/lang/String" 9 "java/lang/String" "value" "[B" ∈ zT := zTm 1590 (by decide +kernel) rfl
theorem fs_cod : Cond.fieldLink "java/lang/String" 15 "java/lang/String" "coder" "B" ∈ zT := zTm 1591 (by decide +kernel) rfl
theorem uX2_110 : zCVs "RegretLocks$Parser" 110 miJ0_length_8abf5 0 := ⟨⟨zTm 766 (by decide +kernel) rfl, tcJ0_length_8abf5, zTm 85 (by decide +kernel) rfl, by decide, by decide, by decide⟩, zTm 767 (by decide +kernel) rfl, zTm 768 (by decide +kernel) rfl, rfl⟩
theorem uJ0_505 : zCVs "java/lang/String" 505 miJ0_length_8abf5 0 := ⟨⟨zTm 847 (by decide +kernel) rfl, tcJ0_length_8abf5, zTm 85 (by decide +kernel) rfl, by decide, by decide, by decide⟩, zTm 767 (by decide +kernel) rfl, zTm 768 (by decide +kernel) rfl, rfl⟩
theorem uJ0_335 : zCVs "java/lang/String" 335 miJ0_coder_7d493 0 := ⟨⟨zTm 770 (by decide +kernel) rfl, tcJ0_coder_7d493, zTm 85 (by decide +kernel) rfl, by decide, by decide, by decide⟩, zTm 771 (by decide +kernel) rfl, zTm 772 (by decide +kernel) rfl, rfl⟩
theorem uX2_114 : zCVs "RegretLocks$Parser" 114 miJ0_charAt_5068e 1 := ⟨⟨zTm 776 (by decide +kernel) rfl, tcJ0_charAt_5068e, zTm 85 (by decide +kernel) rfl, by decide, by decide, by decide⟩, zTm 777 (by decide +kernel) rfl, zTm 778 (by decide +kernel) rfl, rfl⟩
theorem uJ0_492 : zCVs "java/lang/String" 492 miJ0_isLatin1_aae02 0 := ⟨⟨zTm 780 (by decide +kernel) rfl, tcJ0_isLatin1_aae02, zTm 85 (by decide +kernel) rfl, by decide, by decide, by decide⟩, zTm 781 (by decide +kernel) rfl, zTm 782 (by decide +kernel) rfl, rfl⟩
theorem uX2_140 : zCVs "RegretLocks$Parser" 140 miJ0_indexOf_0f7a4 1 := ⟨⟨zTm 839 (by decide +kernel) rfl, tcJ0_indexOf_0f7a4, zTm 85 (by decide +kernel) rfl, by decide, by decide, by decide⟩, zTm 840 (by decide +kernel) rfl, zTm 841 (by decide +kernel) rfl, rfl⟩
theorem uJ0_633 : zCVs "java/lang/String" 633 miJ0_indexOf_7cf53 2 := ⟨⟨zTm 843 (by decide +kernel) rfl, tcJ0_indexOf_7cf53, zTm 85 (by decide +kernel) rfl, by decide, by decide, by decide⟩, zTm 844 (by decide +kernel) rfl, zTm 845 (by decide +kernel) rfl, rfl⟩
theorem shr_0 : ∀ n, n < 100 → nI n >>> (nI 0 &&& 31) = nI n := by decide
theorem i2b_id : ∀ t, t < 128 → (Int32.toInt8 (nI t)).toInt32 = nI t := by decide
theorem i2c_id : ∀ t, t < 128 → ((Int32.toUInt32 (nI t)) % 65536).toInt32 = nI t := by decide
theorem sLn_le : ∀ i, i < 6 → sLn i ≤ 4 := by decide
/-- a constant's byte as a number -/
def sB (i j : Nat) : Nat := tN (sBy i j)
theorem sB_ok : ∀ i, i < 6 → ∀ j, j < 4 → sB i j < 128 ∧ sBy i j = nI (sB i j) ∧ ((Int32.toUInt32 (sBy i j &&& nI 255)) % 65536).toInt32 = nI (sB i j) := by decide
theorem nar_c : ∀ t, t < 128 → narrow .char (.int (nI t)) = .int (nI t) := by
  intro t ht
  show Value.int _ = Value.int _
  congr 1
  revert t
  decide
