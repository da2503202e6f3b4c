-- OPS A: by program (wip/whole/gen/d1.py): a call of the class beside the reference's, over the town
def OpC (G : zG) (mx mr : zM) (as : List Value) (M : zMem) (X : zX) (I : zMem → zX → Prop) (C N : Nat) : Prop := ∃ (d1 d2 : Nat) (r : Int32) (Md : zMem → zX → Prop), d1 ≤ 100 ∧ d2 ≤ 100 ∧ zCall G mx d1 (.ref 16 :: as) (zIr (fun r0 M1 X1 => r0 = r ∧ Md M1 X1)) M X C N ∧ ∀ M1 X1, Md M1 X1 → (xc X1 160 = 9 ∧ 160 < xz X1) ∧ zCall G mr d2 (.ref 160 :: as) (zIr (fun r0 M4 X4 => r0 = r ∧ I M4 X4)) M1 X1 0 0
def IvE (b : Nat) (M : zMem) (X : zX) : Prop := ∃ p c f, Iv M X p c f b
section OPS
variable {G : zG} {mx mr : zM} {as : List Value} {M : zMem} {X : zX} {p c f p1 c1 : Nat → Nat} {b b1 d1 d2 : Nat} {r r1 r2 : Int32}
theorem op_T (h : Iv M X p c f b) (hd1 : d1 ≤ 100) (hd2 : d2 ≤ 100) (hC : zCall G mx d1 (.ref 16 :: as) (zIr (fun r0 M1 X1 => r0 = r1 ∧ clDn M X c1 M1 X1)) M X 0 0) (hR : ∀ M1 X1, kM X1 → mm M1 p = M1 → (∀ a, axA a → M1 a = M a) → zCall G mr d2 (.ref 160 :: as) (zIr (fun r0 M4 X4 => r0 = r2 ∧ X4 = X1 ∧ ∃ M3, scw M1 M3 ∧ M4 = mm M3 p1)) M1 X1 0 0) (hr : r1 = r2) (hn : nxt p c b1 p1 c1) (hb : b ≤ b1) : OpC G mx mr as M X (IvE b1) 0 0 := by
  subst hr
  refine ⟨d1, d2, r1, clDn M X c1, hd1, hd2, hC, fun M1 X1 h1 => ?_⟩
  have hk := (skX_th h.1 h1.1).2.1
  refine ⟨⟨hk.2.1, kM_lt hk⟩, (hR M1 X1 hk (cl_mm h1 h.2.1) (fun a ha => cl_at h1 (by unfold axA at ha; omega) (by unfold axA at ha; unfold scz; omega))).post (fun v M4 X4 hv => ?_)⟩
  obtain ⟨r0, e1, e2, e3, M3, e4, e5⟩ := hv
  refine ⟨r0, e1, e2, p1, c1, f, ?_⟩
  rw [e3]
  exact Iv_town h h1 e4 e5 hn hb
theorem clI (h : cm M 17 c = M) (hC : zCall G mx d1 as (zI r (cm M 17 c1) X) (cm M 17 c) X 0 0) : zCall G mx d1 as (zIr (fun r0 M1 X1 => r0 = r ∧ clDn M X c1 M1 X1)) M X 0 0 := by
  rw [h] at hC
  exact hC.post (fun v M1 X1 hv => ⟨r, hv.1, rfl, .inl hv.2.2, M, scx.rf M, hv.2.1⟩)
theorem clT (h : cm M 17 c = M) (hC : zCall G mx d1 as (zIr (fun r0 M1 X1 => r0 = r ∧ X1 = X ∧ ∃ M2, scT M M2 ∧ M1 = cm M2 17 c1)) (cm M 17 c) X 0 0) : zCall G mx d1 as (zIr (fun r0 M1 X1 => r0 = r ∧ clDn M X c1 M1 X1)) M X 0 0 := by
  rw [h] at hC
  refine hC.post (fun v M1 X1 hv => ?_)
  obtain ⟨r0, e1, e2, e3, M2, e4, e5⟩ := hv
  exact ⟨r0, e1, e2, .inl e3, M2, e4.x, e5⟩
theorem clW (h : cm M 17 c = M) (hC : zCall G mx d1 as (zIr (fun r0 M1 X1 => r0 = r ∧ X1 = X ∧ ∃ M2, scx M M2 ∧ M1 = cm M2 17 c1)) (cm M 17 c) X 0 0) : zCall G mx d1 as (zIr (fun r0 M1 X1 => r0 = r ∧ clDn M X c1 M1 X1)) M X 0 0 := by
  rw [h] at hC
  refine hC.post (fun v M1 X1 hv => ?_)
  obtain ⟨r0, e1, e2, e3, M2, e4, e5⟩ := hv
  exact ⟨r0, e1, e2, .inl e3, M2, e4, e5⟩
theorem clX (h : cm M 17 c = M) (hC : zCall G mx d1 as (zIr (fun r0 M1 X1 => r0 = r ∧ (X1 = X ∨ X1 = cpX X 79 17) ∧ ∃ M2, scx M M2 ∧ M1 = cm M2 17 c1)) (cm M 17 c) X 0 0) : zCall G mx d1 as (zIr (fun r0 M1 X1 => r0 = r ∧ clDn M X c1 M1 X1)) M X 0 0 := by
  rw [h] at hC
  refine hC.post (fun v M1 X1 hv => ?_)
  obtain ⟨r0, e1, e2, e3, M2, e4, e5⟩ := hv
  exact ⟨r0, e1, e2, e3.elim .inl (fun z => .inr (.inl z)), M2, e4, e5⟩
theorem clM (hc : cm M 17 c = M) (hC : zCall G mx d1 as (zI r M X) M X 0 0) : zCall G mx d1 as (zIr (fun r0 M1 X1 => r0 = r ∧ clDn M X c M1 X1)) M X 0 0 := hC.post (fun v M1 X1 hv => ⟨r, hv.1, rfl, .inl hv.2.2, M, scx.rf M, hv.2.1.trans hc.symm⟩)
theorem rfI (h : mm M p = M) (hC : zCall G mx d1 as (zI r (mm M p1) X) (mm M p) X 0 0) : zCall G mx d1 as (zIr (fun r0 M4 X4 => r0 = r ∧ X4 = X ∧ ∃ M3, scw M M3 ∧ M4 = mm M3 p1)) M X 0 0 := by
  rw [h] at hC
  exact hC.post (fun v M1 X1 hv => ⟨r, hv.1, rfl, hv.2.2, M, scw.rf M, hv.2.1⟩)
theorem rfR (h : mm M p = M) (hC : zCall G mx d1 as (zIr (fun r0 M1 X1 => r0 = r ∧ X1 = X ∧ ∃ M2, scr M M2 ∧ M1 = mm M2 p1)) (mm M p) X 0 0) : zCall G mx d1 as (zIr (fun r0 M4 X4 => r0 = r ∧ X4 = X ∧ ∃ M3, scw M M3 ∧ M4 = mm M3 p1)) M X 0 0 := by
  rw [h] at hC
  refine hC.post (fun v M1 X1 hv => ?_)
  obtain ⟨r0, e1, e2, e3, M2, e4, e5⟩ := hv
  exact ⟨r0, e1, e2, e3, M2, e4.w, e5⟩
theorem rfW (h : mm M p = M) (hC : zCall G mx d1 as (zIr (fun r0 M1 X1 => r0 = r ∧ X1 = X ∧ ∃ M2, scw M M2 ∧ M1 = mm M2 p1)) (mm M p) X 0 0) : zCall G mx d1 as (zIr (fun r0 M4 X4 => r0 = r ∧ X4 = X ∧ ∃ M3, scw M M3 ∧ M4 = mm M3 p1)) M X 0 0 := by
  rw [h] at hC
  exact hC
theorem Ax_wfS (h : Ax M) : wfS M := fun k hk => ⟨(h.2.2.2.1 k hk).2.2.1, (h.2.2.2.1 k hk).2.2.2.1⟩
theorem Ax_wfSC (h : Ax M) : wfSC M := fun k hk => by
  rw [(h.2.2.2.1 k hk).1, (h.2.2.2.1 k hk).2.1]
  exact ⟨(h.2.2.2.1 k hk).2.2.1, (h.2.2.2.1 k hk).2.2.2.1⟩
theorem Ax_wfH (h : Ax M) : wfH M := fun k hk => by
  obtain ⟨h1, h2, h3, h4, h5, h6, h7⟩ := h.2.2.2.2 k hk
  exact ⟨h2, fun z => (h5 z).2.1, h3⟩
theorem Ax_wfHC (h : Ax M) : wfHC M := fun k hk => by
  obtain ⟨h1, h2, h3, h4, h5, h6, h7⟩ := h.2.2.2.2 k hk
  rw [h1]
  exact ⟨h2, fun z => ⟨by rw [(h5 z).1]; exact (h5 z).2.1, (h5 z).2.2.1⟩, h4⟩
theorem op_one (hv : Iv M X p c f b) (kind room x y z : Int32) : OpC G miX9_one miX10_one [.int kind, .int room, .int x, .int y, .int z] M X (IvE b) 0 0 := by
  obtain ⟨i1, i2, i3, i4, i5, i6, i7, i8⟩ := id hv
  have w := lvE_wf i4 i5
  exact op_T hv (by decide) (by decide) (clI i3 (k_one 0 G M X i1.1 c w.1.1 kind room x y z)) (fun M1 X1 hk hm ha => rfI hm (c_one 0 G M1 X1 hk p i5.1.1 kind room x y z)) (rl_one i4 kind room x y z) (nx_one i4 i5 kind room x y z) (Nat.le_refl _)
theorem op_told (hv : Iv M X p c f b) (one what : Int32) : OpC G miX9_told miX10_told [.int one, .int what] M X (IvE b) 0 0 := by
  obtain ⟨i1, i2, i3, i4, i5, i6, i7, i8⟩ := id hv
  have w := lvE_wf i4 i5
  exact op_T hv (by decide) (by decide) (clI i3 (k_told 0 G M X i1.1 c w.1 one what)) (fun M1 X1 hk hm ha => rfI hm (c_told 0 G M1 X1 hk p i5.1 one what)) (rl_told i4 i5.1.1 one what) (nx_rf i4 i5 (Nat.le_refl _)) (Nat.le_refl _)
theorem op_as (hv : Iv M X p c f b) (hG : gOK G) (one kind : Int32) : OpC G miX9_as miX10_as [.int one, .int kind] M X (IvE b) 0 0 := by
  obtain ⟨i1, i2, i3, i4, i5, i6, i7, i8⟩ := id hv
  have w := lvE_wf i4 i5
  exact op_T hv (by decide) (by decide) (clI i3 (k_as 0 G M X i1.1 c hG w.1 one kind)) (fun M1 X1 hk hm ha => rfI hm (c_as 0 G M1 X1 hk p i5.1 one kind)) (rl_as i4 i5.1.1 one kind) (nx_rf i4 i5 (Nat.le_refl _)) (Nat.le_refl _)
theorem op_turns (hv : Iv M X p c f b) (one kind : Int32) : OpC G miX9_turns miX10_turns [.int one, .int kind] M X (IvE b) 0 0 := by
  obtain ⟨i1, i2, i3, i4, i5, i6, i7, i8⟩ := id hv
  have w := lvE_wf i4 i5
  exact op_T hv (by decide) (by decide) (clI i3 (k_turns 0 G M X i1.1 c w.1.1 one kind)) (fun M1 X1 hk hm ha => rfI hm (c_turns 0 G M1 X1 hk p i5.1.1 one kind)) (rl_turns i4 i5.1.1 one kind) (nx_turns i4 i5 one kind) (Nat.le_refl _)
theorem op_set (hv : Iv M X p c f b) (one what v : Int32) : OpC G miX9_set miX10_set [.int one, .int what, .int v] M X (IvE b) 0 0 := by
  obtain ⟨i1, i2, i3, i4, i5, i6, i7, i8⟩ := id hv
  have w := lvE_wf i4 i5
  exact op_T hv (by decide) (by decide) (clI i3 (k_set 0 G M X i1.1 c w.1.1 one what v)) (fun M1 X1 hk hm ha => rfI hm (c_set 0 G M1 X1 hk p i5.1.1 one what v)) (rl_set i4 i5.1.1 one what v) (nx_set i4 i5 one what v) (Nat.le_refl _)
theorem op_lock (hv : Iv M X p c f b) (x y z u : Int32) : OpC G miX9_lock miX10_lock [.int x, .int y, .int z, .int u] M X (IvE b) 0 0 := by
  obtain ⟨i1, i2, i3, i4, i5, i6, i7, i8⟩ := id hv
  have w := lvE_wf i4 i5
  exact op_T hv (by decide) (by decide) (clI i3 (k_lock 0 G M X i1.1 c w.2.1.1 x y z u)) (fun M1 X1 hk hm ha => rfI hm (c_lock 0 G M1 X1 hk p i5.2.1.1 x y z u)) (rl_lock i4 x y z u) (nx_lock i4 i5 x y z u) (Nat.le_refl _)
theorem op_about (hv : Iv M X p c f b) (lock what : Int32) : OpC G miX9_about miX10_about [.int lock, .int what] M X (IvE b) 0 0 := by
  obtain ⟨i1, i2, i3, i4, i5, i6, i7, i8⟩ := id hv
  have w := lvE_wf i4 i5
  exact op_T hv (by decide) (by decide) (clI i3 (k_about 0 G M X i1.1 c w.1 w.2.1 lock what)) (fun M1 X1 hk hm ha => rfI hm (c_about 0 G M1 X1 hk p i5.1 i5.2.1 lock what)) (rl_about i4 i5.1 i5.2.1 lock what) (nx_rf i4 i5 (Nat.le_refl _)) (Nat.le_refl _)
theorem op_sets (hv : Iv M X p c f b) (lock what v : Int32) : OpC G miX9_sets miX10_sets [.int lock, .int what, .int v] M X (IvE b) 0 0 := by
  obtain ⟨i1, i2, i3, i4, i5, i6, i7, i8⟩ := id hv
  have w := lvE_wf i4 i5
  exact op_T hv (by decide) (by decide) (clI i3 (k_sets 0 G M X i1.1 c w.2.1.1 lock what v)) (fun M1 X1 hk hm ha => rfI hm (c_sets 0 G M1 X1 hk p i5.2.1.1 lock what v)) (rl_sets i4 lock what v) (nx_sets i4 i5 lock what v) (Nat.le_refl _)
theorem op_mends (hv : Iv M X p c f b) (lock : Int32) : OpC G miX9_mends miX10_mends [.int lock] M X (IvE b) 0 0 := by
  obtain ⟨i1, i2, i3, i4, i5, i6, i7, i8⟩ := id hv
  have w := lvE_wf i4 i5
  exact op_T hv (by decide) (by decide) (clI i3 (k_mends 0 G M X i1.1 c w.2.1 lock)) (fun M1 X1 hk hm ha => rfI hm (c_mends 0 G M1 X1 hk p i5.2.1 lock)) (rl_mends i4 lock) (nx_mends i4 i5 lock) (Nat.le_refl _)
theorem op_rule (hv : Iv M X p c f b) (what v : Int32) : OpC G miX9_rule miX10_rule [.int what, .int v] M X (IvE b) 0 0 := by
  obtain ⟨i1, i2, i3, i4, i5, i6, i7, i8⟩ := id hv
  have w := lvE_wf i4 i5
  exact op_T hv (by decide) (by decide) (clI i3 (k_rule 0 G M X i1.1 c what v)) (fun M1 X1 hk hm ha => rfI hm (c_rule 0 G M1 X1 hk p  what v)) (rl_rule i4 what v) (nx_rule i4 i5 what v) (Nat.le_refl _)
theorem op_at (hv : Iv M X p c f b) (room : Int32) : OpC G miX9_at miX10_at [.int room] M X (IvE b) 0 0 := by
  obtain ⟨i1, i2, i3, i4, i5, i6, i7, i8⟩ := id hv
  have w := lvE_wf i4 i5
  exact op_T hv (by decide) (by decide) (clI i3 (k_at 0 G M X i1.1 c w.1 room)) (fun M1 X1 hk hm ha => rfI hm (c_at 0 G M1 X1 hk p i5.1 room)) (rl_at i4 i5.1.1 room) (nx_rf i4 i5 (Nat.le_refl _)) (Nat.le_refl _)
theorem op_deal (hv : Iv M X p c f b) (n : Int32) : OpC G miX9_deal miX10_deal [.int n] M X (IvE b) 0 0 := by
  obtain ⟨i1, i2, i3, i4, i5, i6, i7, i8⟩ := id hv
  have w := lvE_wf i4 i5
  exact op_T hv (by decide) (by decide) (clI i3 (k_deal 0 G M X i1.1 c w.1.1 n)) (fun M1 X1 hk hm ha => rfI hm (c_deal 0 G M1 X1 hk p i5.1.1 n)) (rl_deal i4 n) (nx_deal i4 i5 n) (Nat.le_refl _)
theorem op_seed (hv : Iv M X p c f b) (v : Int32) : OpC G miX9_seed miX10_seed [.int v] M X (IvE b) 0 0 := by
  obtain ⟨i1, i2, i3, i4, i5, i6, i7, i8⟩ := id hv
  have w := lvE_wf i4 i5
  exact op_T hv (by decide) (by decide) (clI i3 (k_seed 0 G M X i1.1 c v)) (fun M1 X1 hk hm ha => rfI hm (c_seed 0 G M1 X1 hk p  v)) (by rw [i4.n (show 9 < 10 by decide)]) (nx_seed i4 i5 (tN v)) (Nat.le_refl _)
theorem op_passes (hv : Iv M X p c f b) (hb : b ≤ 700000000) (one lock : Int32) : OpC G miX9_passes miX10_passes [.int one, .int lock] M X (IvE (b + 1)) 0 0 := by
  obtain ⟨i1, i2, i3, i4, i5, i6, i7, i8⟩ := id hv
  have w := lvE_wf i4 i5
  exact op_T hv (by decide) (by decide) (clT i3 (k_passes 0 G M X i1.1 c i6 b 9999 w (by omega) (by omega) one lock)) (fun M1 X1 hk hm ha => rfR hm (c_passes 0 G M1 X1 hk p i5.1 i5.2.1 i5.2.2.1 (by have := i5.2.2.2.1; omega) one lock)) (rl_passes i4 i5.1 i5.2.1 one lock) (nx_passes i4 i5 one lock) (by omega)
theorem op_days (hv : Iv M X p c f b) (hb : b ≤ 700000000) (n : Int32) : OpC G miX9_days miX10_days [.int n] M X (IvE (b + 800)) 0 0 := by
  obtain ⟨i1, i2, i3, i4, i5, i6, i7, i8⟩ := id hv
  have w := lvE_wf i4 i5
  exact op_T hv (by decide) (by decide) (clT i3 (k_days 0 G M X i1.1 c i6 b w (by omega) n)) (fun M1 X1 hk hm ha => rfR hm (c_days 0 G M1 X1 hk p b i5 (by omega) n)) (rl_days i4 i5 n) (nx_days i4 i5 n) (by omega)
theorem op_town (hv : Iv M X p c f b) (what : Int32) : OpC G miX9_town miX10_town [.int what] M X (IvE b) 0 0 := by
  obtain ⟨i1, i2, i3, i4, i5, i6, i7, i8⟩ := id hv
  have w := lvE_wf i4 i5
  exact op_T hv (by decide) (by decide) (clI i3 (k_town 0 G M X i1.1 c w.1 w.2.1 what)) (fun M1 X1 hk hm ha => rfI hm (c_town 0 G M1 X1 hk p i5.1 i5.2.1 what)) (rl_town i4 i5 what) (nx_rf i4 i5 (Nat.le_refl _)) (Nat.le_refl _)
theorem op_just (hv : Iv M X p c f b) (lock people : Int32) : OpC G miX9_just miX10_just [.int lock, .int people] M X (IvE b) 0 0 := by
  obtain ⟨i1, i2, i3, i4, i5, i6, i7, i8⟩ := id hv
  have w := lvE_wf i4 i5
  exact op_T hv (by decide) (by decide) (clI i3 (k_just 0 G M X i1.1 c w.1 w.2.1 lock people)) (fun M1 X1 hk hm ha => rfI hm (c_just 0 G M1 X1 hk p i5.1 i5.2.1 lock people)) (rl_just i4 i5.1 i5.2.1 lock people) (nx_rf i4 i5 (Nat.le_refl _)) (Nat.le_refl _)
theorem op_sorry_ (hv : Iv M X p c f b) (one lock : Int32) : OpC G miX9_sorry miX10_sorry [.int one, .int lock] M X (IvE b) 0 0 := by
  obtain ⟨i1, i2, i3, i4, i5, i6, i7, i8⟩ := id hv
  have w := lvE_wf i4 i5
  exact op_T hv (by decide) (by decide) (clI i3 (k_sorry 0 G M X i1.1 c w.1 w.2.1 one lock)) (fun M1 X1 hk hm ha => rfI hm (c_sorry 0 G M1 X1 hk p i5.1 i5.2.1 one lock)) (rl_sorry i4 i5.1 i5.2.1 one lock) (nx_rf i4 i5 (Nat.le_refl _)) (Nat.le_refl _)
theorem op_why (hv : Iv M X p c f b) (key : Int32) : OpC G miX9_why miX10_why [.int key] M X (IvE b) 0 0 := by
  obtain ⟨i1, i2, i3, i4, i5, i6, i7, i8⟩ := id hv
  have w := lvE_wf i4 i5
  exact op_T hv (by decide) (by decide) (clI i3 (k_why 0 G M X i1.1 c i6 w.2.2.1.1 key)) (fun M1 X1 hk hm ha => rfI hm (c_why 0 G M1 X1 hk p i5.2.2.1 key)) (rl_why i4 key) (nx_rf i4 i5 (Nat.le_refl _)) (Nat.le_refl _)
theorem op_fee (hv : Iv M X p c f b) : OpC G miX9_fee miX10_fee [] M X (IvE b) 0 0 := by
  obtain ⟨i1, i2, i3, i4, i5, i6, i7, i8⟩ := id hv
  have w := lvE_wf i4 i5
  exact op_T hv (by decide) (by decide) (clT i3 (k_fee 0 G M X i1.1 c i6 w.2.2.1)) (fun M1 X1 hk hm ha => rfR hm (c_fee 0 G M1 X1 hk p i5.2.2.1)) (rl_fee i4) (nx_rf i4 i5 (Nat.le_refl _)) (Nat.le_refl _)
theorem op_fine (hv : Iv M X p c f b) (one : Int32) : OpC G miX9_fine miX10_fine [.int one] M X (IvE b) 0 0 := by
  obtain ⟨i1, i2, i3, i4, i5, i6, i7, i8⟩ := id hv
  have w := lvE_wf i4 i5
  exact op_T hv (by decide) (by decide) (clT i3 (k_fine 0 G M X i1.1 c i6 w.1 w.2.2.1 one)) (fun M1 X1 hk hm ha => rfR hm (c_fine 0 G M1 X1 hk p i5.1 i5.2.2.1 one)) (rl_fine i4 i5.1.1 one) (nx_rf i4 i5 (Nat.le_refl _)) (Nat.le_refl _)
theorem op_textTold (hv : Iv M X p c f b) (t what : Int32) : OpC G miX9_textTold miX10_textTold [.int t, .int what] M X (IvE b) 0 0 := by
  obtain ⟨i1, i2, i3, i4, i5, i6, i7, i8⟩ := id hv
  have w := lvE_wf i4 i5
  exact op_T hv (by decide) (by decide) (clI i3 (k_textTold 0 G M X i1.1 c i6 w.2.2.1.1 t what)) (fun M1 X1 hk hm ha => rfI hm (c_textTold 0 G M1 X1 hk p i5.2.2.1.1 t what)) (rl_textTold i4 t what) (nx_rf i4 i5 (Nat.le_refl _)) (Nat.le_refl _)
theorem op_behind (hv : Iv M X p c f b) (hb : b ≤ 700000000) (n what : Int32) : OpC G miX9_behind miX10_behind [.int n, .int what] M X (IvE b) 0 0 := by
  obtain ⟨i1, i2, i3, i4, i5, i6, i7, i8⟩ := id hv
  have w := lvE_wf i4 i5
  exact op_T hv (by decide) (by decide) (clX i3 (k_behind 0 G M X i1.1 c i6 i1.2.2.1.1 b w (by omega) n what)) (fun M1 X1 hk hm ha => rfW hm (c_behind 0 G M1 X1 hk p b i5 (by omega) n what)) (rl_behind i4 i5 n what) (nx_rf i4 i5 (Nat.le_refl _)) (Nat.le_refl _)
theorem op_enters (hv : Iv M X p c f b) (hb : b ≤ 700000000) (one room : Int32) : OpC G miX9_enters miX10_enters [.int one, .int room] M X (IvE b) 0 0 := by
  obtain ⟨i1, i2, i3, i4, i5, i6, i7, i8⟩ := id hv
  have w := lvE_wf i4 i5
  exact op_T hv (by decide) (by decide) (clX i3 (k_enters 0 G M X i1.1 c i6 i1.2.2.1.1 b w (by omega) one room)) (fun M1 X1 hk hm ha => rfW hm (c_enters 0 G M1 X1 hk p b i5 (by omega) one room)) (rl_enters i4 i5 one room) (nx_rf i4 i5 (Nat.le_refl _)) (Nat.le_refl _)
theorem op_freed (hv : Iv M X p c f b) (hb : b ≤ 700000000) (n what : Int32) : OpC G miX9_freed miX10_freed [.int n, .int what] M X (IvE b) 0 0 := by
  obtain ⟨i1, i2, i3, i4, i5, i6, i7, i8⟩ := id hv
  have w := lvE_wf i4 i5
  exact op_T hv (by decide) (by decide) (clX i3 (k_freed 0 G M X i1.1 c i6 i1.2.2.1.1 b w (by omega) n what)) (fun M1 X1 hk hm ha => rfW hm (c_freed 0 G M1 X1 hk p b i5 (by omega) n what)) (rl_freed i4 i5 n what) (nx_rf i4 i5 (Nat.le_refl _)) (Nat.le_refl _)
theorem op_becomes (hv : Iv M X p c f b) (hb : b ≤ 700000000) (one n what : Int32) : OpC G miX9_becomes miX10_becomes [.int one, .int n, .int what] M X (IvE b) 0 0 := by
  obtain ⟨i1, i2, i3, i4, i5, i6, i7, i8⟩ := id hv
  have w := lvE_wf i4 i5
  exact op_T hv (by decide) (by decide) (clX i3 (k_becomes 0 G M X i1.1 c i6 i1.2.2.1.1 b w (by omega) one n what)) (fun M1 X1 hk hm ha => rfW hm (c_becomes 0 G M1 X1 hk p b i5 (by omega) one n what)) (rl_becomes i4 i5 one n what) (nx_rf i4 i5 (Nat.le_refl _)) (Nat.le_refl _)
theorem op_reach (hv : Iv M X p c f b) (hG : gOK G) (one : Int32) : OpC G miX9_reach miX10_reach [.int one] M X (IvE b) 0 0 := by
  obtain ⟨i1, i2, i3, i4, i5, i6, i7, i8⟩ := id hv
  have w := lvE_wf i4 i5
  exact op_T hv (by decide) (by decide) (clW i3 (k_reach 0 G M X i1.1 c hG i6 w.1 w.2.1 w.2.2.1 (by have := w.2.2.2.1; omega) one)) (fun M1 X1 hk hm ha => rfW hm (c_reach 0 G M1 X1 hk p i5.1 i5.2.1 i5.2.2.1 (by have := i5.2.2.2.1; omega) one)) (rl_reach i4 i5.1 i5.2.1 one) (nx_rf i4 i5 (Nat.le_refl _)) (Nat.le_refl _)
theorem op_way (hv : Iv M X p c f b) (hG : gOK G) (one room : Int32) : OpC G miX9_way miX10_way [.int one, .int room] M X (IvE b) 0 0 := by
  obtain ⟨i1, i2, i3, i4, i5, i6, i7, i8⟩ := id hv
  have w := lvE_wf i4 i5
  exact op_T hv (by decide) (by decide) (clW i3 (k_way 0 G M X i1.1 c hG i6 w.1 w.2.1 w.2.2.1 (by have := w.2.2.2.1; omega) one room)) (fun M1 X1 hk hm ha => rfW hm (c_way 0 G M1 X1 hk p i5.1 i5.2.1 i5.2.2.1 (by have := i5.2.2.2.1; omega) one room)) (rl_way i4 i5.1 i5.2.1 one room) (nx_rf i4 i5 (Nat.le_refl _)) (Nat.le_refl _)
theorem op_pardoned (hv : Iv M X p c f b) (hG : gOK G) (one : Int32) : OpC G miX9_pardoned miX10_pardoned [.int one] M X (IvE b) 0 0 := by
  obtain ⟨i1, i2, i3, i4, i5, i6, i7, i8⟩ := id hv
  have w := lvE_wf i4 i5
  exact op_T hv (by decide) (by decide) (clW i3 (k_pardoned 0 G M X i1.1 c hG i6 w.1 w.2.1 w.2.2.1 (by have := w.2.2.2.1; omega) one)) (fun M1 X1 hk hm ha => rfW hm (c_pardoned 0 G M1 X1 hk p b 9999 i5 (by omega) one)) (rl_pardoned i4 i5 one) (nx_rf i4 i5 (Nat.le_refl _)) (Nat.le_refl _)
end OPS
