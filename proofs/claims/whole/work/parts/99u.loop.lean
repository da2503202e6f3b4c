-- LAW C: the law's loop, from its entry to its end (R_law, lw_P, lw_Q, lw_Z, lw_ret, lw_At began as the skeleton's)
def R_law : String := "RegretLocksLaw"
def lw_P (b : Addr) (xs : List Int32) (args : Array Value) (s : State) : Prop := args = #[.ref b] ∧ s.IntsAt b xs ∧ xs.length ≤ 3072 ∧ (Jvm.Cond.and given_1 narrow_1).before args s = true
def lw_Q (_ : Array Value) (s : State) (o : Outcome) (t : State) : Prop := o = .returned (some (.int 1)) ∧ Framed s o t [] 600000 7302250
def lw_Z (below : List Frame) (a : Array Value) (s : State) : State → Prop := fun t => ∃ o, t.status = .running ∧ Ended t below o ∧ lw_Q a s o t
theorem lw_ret {p : Program} {l : Launch} {e : Env} {R : Room} {s : State} {m : MethodId} {below : List Frame} {meth : Method} {c : Code} {args : Array Value} (hx : p.tables.exec = Jvm.exec) (hb : c.code = code) (hr : meth.sig.returnType = ret) (hlocks : meth.locks = false) {pc : Nat} {H : Heap} {ls : Array Slot} (hdg : decode code pc = .ok (.ireturn, 1)) : W p l e R s m args below meth c H [] 600000 7302250 (lw_Z below args s) (F0 m pc ls [.int 1]) := by
  intro T hT X
  obtain ⟨fs, hret, hrun, hended, hW, hframe⟩ := X.leave (v := some (.int 1)) (hlocks := hlocks) (fun h => by rw [hr] at h; cases h)
  have hmeth' : T.vm.method? m = some meth := X.method'
  refine ⟨T.setFrames fs, ?_, .returned (some (.int 1)), hrun, hended, rfl, ⟨_, rfl⟩, hW, hframe⟩
  jvm_step X.here [X.here.top, hx, hb, hdg, hmeth', hr, ret, narrow_b1]
  (try refine ⟨rfl, ?_⟩); (try refine ⟨rfl, ?_⟩)
  first | (intro acts; rw [hret _ acts rfl rfl rfl]) | rw [hret _ _ rfl rfl rfl]
  exact Steps.refl _
/-- the end, from a state that has no cell of the law's yet -/
def QL (G : zG) : List Frame → Array Value → State → State → Prop := fun below args s t => s.heap.size ≤ zb G → lw_Z below args s t
section LAWC
variable {G : zG}
theorem L_end {lv : List (Option Value)} {M : zMem} {X : zX} {cn : Nat × Nat} (h1 : cn.1 ≤ 600000) (h2 : cn.2 ≤ 7302250) : zAt G miL_law (zRm 2048 600000 7302250) (QL G) 1704 lv [.int 1] M X cn := by
  intro p e s m args below meth c H locs ls E hP hS hl
  by_cases hs : s.heap.size ≤ zb G
  · have k : W p (zl G) e (zRm 2048 600000 7302250) s m args below meth c H [] 600000 7302250 (lw_Z below args s) (F0 m 1704 ls [.int 1]) := lw_ret E.1 E.2.1 E.2.2.2.1 E.2.2.2.2.1 dL_law_1704
    have k2 := va_forget (locs := locs) (fun q hq => Nat.le_trans hs (hS.2.2 q hq)) (W.widen h1 h2 k)
    intro T hT X0
    obtain ⟨t, a1, b1⟩ := k2 T hT X0
    exact ⟨t, a1, fun _ => b1⟩
  · intro T hT X0
    exact ⟨_, Steps.refl _, fun z => absurd z hs⟩
theorem sub6 {L : Nat} (h : L ≤ 3072) : (nI L - nI 6).toInt = (L : Int) - 6 := by
  by_cases h6 : 6 ≤ L
  · rw [pk_sub h6, i_N (by omega)]
    omega
  · have : L = 0 ∨ L = 1 ∨ L = 2 ∨ L = 3 ∨ L = 4 ∨ L = 5 := by omega
    rcases this with rfl | rfl | rfl | rfl | rfl | rfl <;> decide
theorem L_loop (hG : gOK G) (hf : zFm G) (hL : zoL G 2 ≤ 3072) : ∀ (k j : Nat) (M : zMem) (X : zX) (cn : Nat × Nat), zoL G 2 < 6 * (j + k) → j ≤ 512 → IvE (800 * j) M X → cn.1 ≤ 165 + 3 * j → cn.2 ≤ 13000 + 197 * j → zAt G miL_law (zRm 2048 600000 7302250) (QL G) 18 (lvL (6 * j)) [] M X cn := by
  intro k
  induction k with
  | zero =>
    intro j M X cn hk hj hv h1 h2
    refine j_iload_n (n := 19) dL_law_18 rfl rfl ?_
    refine j_aload_n (n := 20) dL_law_19 rfl rfl ?_
    refine j_slen (n := 21) dL_law_20 rfl (by decide) ?_
    refine j_bipush (n := 23) (v := nI 6) dL_law_21 rfl (by decide) ?_
    refine j_isub (n := 24) dL_law_23 rfl ?_
    refine j_icmp_gtT (n := 27) (tg := 1703) dL_law_24 rfl rfl (i_N (by omega)) (sub6 hL) (fun _ => ?_) (fun z => ?_)
    · exact j_iconst (n := 1704) (v := 1) dL_law_1703 rfl (by decide) (L_end (by omega) (by omega))
    · exfalso; omega
  | succ k ih =>
    intro j M X cn hk hj hv h1 h2
    refine j_iload_n (n := 19) dL_law_18 rfl rfl ?_
    refine j_aload_n (n := 20) dL_law_19 rfl rfl ?_
    refine j_slen (n := 21) dL_law_20 rfl (by decide) ?_
    refine j_bipush (n := 23) (v := nI 6) dL_law_21 rfl (by decide) ?_
    refine j_isub (n := 24) dL_law_23 rfl ?_
    refine j_icmp_gtT (n := 27) (tg := 1703) dL_law_24 rfl rfl (i_N (by omega)) (sub6 hL) (fun _ => ?_) (fun z => ?_)
    · exact j_iconst (n := 1704) (v := 1) dL_law_1703 rfl (by decide) (L_end (by omega) (by omega))
    · refine L_round hG hf (by omega) hv hL (by omega) (by omega) (by omega) (fun M4 X4 h4 => ?_)
      refine j_iinc (n := 1700) (y := nI (6 * (j + 1))) (lv2 := lvL (6 * (j + 1))) dL_law_1697 rfl rfl (by decide) rfl ?_ rfl ?_
      · rw [show Int32.ofInt 6 = nI 6 from by decide, nI_add]
        congr 1
      · refine j_goto (n := 18) dL_law_1700 (by decide) ?_
        exact ih (j + 1) M4 X4 _ (by omega) (by omega) (by rw [show 800 * (j + 1) = 800 * j + 800 by omega]; exact h4) (by show cn.1 + 3 ≤ _; omega) (by show cn.2 + 197 ≤ _; omega)
theorem Xs1_c : xc (zNew Xs1 9 0) 160 = 9 := by
  have h := zNew_c Xs1 9 0
  rw [Xs1_z] at h
  exact h
theorem L_start (hG : gOK G) (hf : zFm G) (hL : zoL G 2 ≤ 3072) : zAt G miL_law (zRm 2048 600000 7302250) (QL G) 0 [some (.ref 2), none, none, none] [] M00 X00 (0, 0) := by
  refine j_new (n := 3) dL_law_0 rfl nL_7 (Nat.le_of_ble_eq_true rfl) (Nat.le_of_ble_eq_true rfl) ?_
  refine j_dup (n := 4) dL_law_3 rfl rfl ?_
  refine j_callI (n := 7) (a := 16) (as := []) (st := [.ref 16]) dL_law_4 rfl sL_9 (i_Root 0 G i_Ways (zs M00 16 (fun _ => 0)) (zNew X00 8 0) 16 rfl (by decide) (by decide)) (by decide) (by decide) rfl rfl (Nat.le_of_ble_eq_true rfl) (Nat.le_of_ble_eq_true rfl) (Nat.le_of_ble_eq_true rfl) (fun v M1 X1 hp => ?_)
  obtain ⟨e1, e2, e3⟩ := hp
  have e2 : M1 = Ms1 := e2
  have e3 : X1 = Xs1 := e3
  rw [e1, e2, e3]
  refine j_astore_n (n := 8) (lv2 := [some (.ref 2), some (.ref 16), none, none]) dL_law_7 rfl rfl (by decide) rfl ?_
  refine j_new (n := 11) dL_law_8 rfl nL_10 (Nat.le_of_ble_eq_true rfl) (Nat.le_of_ble_eq_true rfl) ?_
  rw [Xs1_z]
  refine j_dup (n := 12) dL_law_11 rfl rfl ?_
  refine j_callI (n := 15) (a := 160) (as := []) (st := [.ref 160]) dL_law_12 rfl sL_12 (i_Model 0 G (zs Ms1 160 (fun _ => 0)) (zNew Xs1 9 0) 160 Xs1_c (by decide) (by rw [zNew_z, Xs1_z]; decide)) (by decide) (by decide) rfl rfl (Nat.le_of_ble_eq_true rfl) (Nat.le_of_ble_eq_true rfl) (Nat.le_of_ble_eq_true rfl) (fun v M1 X1 hp => ?_)
  obtain ⟨f1, f2, f3⟩ := hp
  have f2 : M1 = Ms := f2
  have f3 : X1 = Xs := f3
  rw [f1, f2, f3]
  refine j_astore_n (n := 16) (lv2 := [some (.ref 2), some (.ref 16), some (.ref 160), none]) dL_law_15 rfl rfl (by decide) rfl ?_
  refine j_iconst (n := 17) (v := nI 0) dL_law_16 rfl (by decide) ?_
  refine j_istore_n (n := 18) (lv2 := lvL (6 * 0)) dL_law_17 rfl rfl (by decide) rfl ?_
  exact L_loop hG hf hL 513 0 Ms Xs _ (by omega) (by omega) Iv_first (Nat.le_of_ble_eq_true rfl) (Nat.le_of_ble_eq_true rfl)
end LAWC
