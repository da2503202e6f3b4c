-- MULTI: int[3][9] by multianewarray, over the library's row
theorem mul_outer (cA : ClassId) (h : Nat) (f : Nat → Value) (hf : ∀ j, j < 3 → f j = .ref (h + 1 + j)) : Jvm.Free.Multi.outerC cA 3 h 3 = arrV cA 3 f := by
  have o := Jvm.Free.Multi.outerC_facts cA 3 h 3
  have hs : (Jvm.Free.Multi.outerC cA 3 h 3).slots = (arrV cA 3 f).slots := by
    apply Array.ext_getElem?
    intro j
    by_cases hj : j < 3
    · rw [Jvm.Free.Multi.outerC_slot cA 3 h 3 j hj, if_pos hj, arrV_read cA f hj, hf j hj]
    · rw [Array.getElem?_eq_none (by rw [o.2.2]; omega), Array.getElem?_eq_none (by rw [arrV_size]; omega)]
  have he : Jvm.Free.Multi.outerC cA 3 h 3 = { cls := cA, slots := (Jvm.Free.Multi.outerC cA 3 h 3).slots, vm := .none } := rfl
  exact he.trans (by rw [hs]; rfl)
theorem mulX_z (X : zX) : xz (mulX X) = xz X + 4 := rfl
theorem mulX_o {X : zX} {b : Nat} (h : b < xz X) : xc (mulX X) b = xc X b ∧ xl (mulX X) b = xl X b ∧ xR (mulX X) b = xR X b := by
  refine ⟨?_, ?_, ?_⟩
  · unfold mulX
    repeat (first | rw [zpu_c] | rw [zNew_co _ _ _ (by first | omega | (simp only [zpu_z, zNew_z]; omega))])
  · unfold mulX
    repeat (first | rw [zpu_l] | rw [zNew_lo _ _ _ (by first | omega | (simp only [zpu_z, zNew_z]; omega))])
  · unfold mulX
    repeat (first | rw [zpu_ne _ _ _ (by first | omega | (simp only [zpu_z, zNew_z]; omega))] | rw [zNew_ro _ _ _ (by first | omega | (simp only [zpu_z, zNew_z]; omega))])
theorem mulX_0 (X : zX) : xc (mulX X) (xz X) = 107 ∧ xl (mulX X) (xz X) = 3 ∧ ∀ j, j < 3 → xR (mulX X) (xz X) j = some (xz X + 1 + j) := by
  refine ⟨?_, ?_, ?_⟩
  · simp [mulX, zpu, zsR, zNew, xc, xl, xz, xR]
    rw [if_neg (by omega), if_neg (by omega)]
  · simp [mulX, zpu, zsR, zNew, xc, xl, xz, xR]
    rw [if_neg (by omega), if_neg (by omega)]
  · intro j hj
    have : j = 0 ∨ j = 1 ∨ j = 2 := by omega
    rcases this with rfl | rfl | rfl <;> simp [mulX, zpu, zsR, zup, zNew, xc, xl, xz, xR]
theorem mulX_i (X : zX) {j : Nat} (hj : j < 3) : xc (mulX X) (xz X + 1 + j) = 100 ∧ xl (mulX X) (xz X + 1 + j) = 9 := by
  have : j = 0 ∨ j = 1 ∨ j = 2 := by omega
  rcases this with rfl | rfl | rfl <;> simp [mulX, zpu, zsR, zNew, xc, xl, xz, xR]
theorem mulM_o {M : zMem} {z b : Nat} (h : b < z) : mulM M z b = M b := by
  unfold mulM
  rw [zs_ne _ _ (by omega), zs_ne _ _ (by omega), zs_ne _ _ (by omega), zs_ne _ _ (by omega)]
theorem mulM_i (M : zMem) (z : Nat) {j : Nat} (hj : j < 3) : mulM M z (z + 1 + j) = fun _ => 0 := by
  have : j = 0 ∨ j = 1 ∨ j = 2 := by omega
  rcases this with rfl | rfl | rfl <;> simp [mulM, zs]
theorem zE_mul {G : zG} {M : zMem} {X : zX} {b : Nat} (h : b < xz X) : zE G (mulM M (xz X)) (mulX X) b = zE G M X b := by
  obtain ⟨h1, h2, h3⟩ := mulX_o h
  unfold zE
  rw [h1, h2, h3, mulM_o h]
section ZM
variable {G : zG} {mi : zM} {rm : Room} {Q : List Frame → Array Value → State → State → Prop} {pc n : Nat} {lv : List (Option Value)} {st : List Value} {M : zMem} {X : zX} {cn : Nat × Nat}
theorem j_multi {ix : Nat} (hd : decode (zc mi) pc = .ok (.multianewarray ix 2, 4)) (hn : pc + 4 = n) (hcl : Cond.classLink mi.1.cls ix ("[" ++ (FieldType.array .int).toString) ∈ zT) (ha : Cond.arrayClass .int ∈ zT) (hc1 : cn.1 + 4 ≤ rm.cells) (hc2 : cn.2 + 30 ≤ rm.slots) (kk : zAt G mi rm Q n lv (.ref (xz X) :: st) (mulM M (xz X)) (mulX X) (cn.1 + 4, cn.2 + 30)) : zAt G mi rm Q pc lv (.int (nI 9) :: .int (nI 3) :: st) M X cn := by
  subst hn
  intro p e s m args below meth c0 H locs ls E hP hS hl
  have hts := E.2.2.2.2.2.2.2.1
  have hW := E.2.2.2.2.2.2.2.2
  have hov : (Cond.arrayOver (.array .int)).before args s = true := over_moved (Vm.Alike.refl s.vm) hW.2.2.2.2.2.2.2.1
  have hz := zra_new hP
  have e3 : (nI 3).toNatClampNeg = 3 := by decide
  have e9 : (nI 9).toNatClampNeg = 9 := by decide
  intro T hT Xs
  subst hT
  obtain ⟨vm1, cA, comp, w1, f1, f2, -, -, X1, step⟩ := Xs.multianewarray2F E.1 (ty := .int) E.2.2.2.2.2.2.1 (hts _ hcl) hov (hts _ ha) (g := F0 m pc ls ((.int (nI 9) :: .int (nI 3) :: st).map (zv G))) rfl (by rw [E.2.1]; exact hd) (n := nI 3) (k := nI 9) rfl (by decide) (by decide) (by rw [e3]; decide) (by rw [e9]; decide) (by rw [e9]; decide) rfl rfl (by rw [e3]; exact hc1) (by rw [e3, e9]; exact hc2)
  rw [e3, e9] at X1 step
  have hcA : cA = zA G 7 := zArrC hW (by decide) (fun t0 h => by rw [← h]; exact f1)
  have hco : comp = zA G 0 := zArrC hW (by decide) (fun t0 h => by rw [← h]; exact f2)
  subst hcA; subst hco
  have g1 := Jvm.Free.Multi.fill_facts (T.setVm vm1) (zA G 7) (zA G 0) 3 9 (defaultValue .int) 3
  have g2 := fun (a : Addr) (ha : a < T.heap.size) => Jvm.Free.Multi.fill_old (T.setVm vm1) (zA G 7) (zA G 0) 3 9 (defaultValue .int) (a := a) ha 3
  have g3 := fun (j : Nat) (hj : j < 3) => Jvm.Free.Multi.fill_inner (T.setVm vm1) (zA G 7) (zA G 0) 3 9 (defaultValue .int) 3 j hj
  revert X1 step g1 g2 g3
  generalize Jvm.Free.Multi.fill (T.setVm vm1) (zA G 7) (zA G 0) 3 9 (defaultValue .int) 3 = U
  intro X1 step g1 g2 g3
  have s1 : U.heap.size = T.heap.size + 4 := g1.1
  have c1 : U.heap[T.heap.size]? = some (Jvm.Free.Multi.outerC (zA G 7) 3 T.heap.size 3) := g1.2.1
  have c3 : ∀ j, j < 3 → U.heap[T.heap.size + 1 + j]? = some (Jvm.Free.Multi.innerC (zA G 0) 9 (defaultValue .int)) := g3
  have c2 : ∀ a : Nat, a < T.heap.size → U.heap[a]? = T.heap[a]? := g2
  have h16 := hP.2.1
  have hsz := hP.1
  have hzz : ∀ j, j < 3 → zra G (xz X + 1 + j) = T.heap.size + 1 + j := fun j hj => by
    rw [zra_hi G (by omega), hsz]; omega
  have hPn : zP G (mulM M (xz X)) (mulX X) U.heap := by
    refine ⟨by rw [s1, mulX_z]; omega, by rw [mulX_z]; omega, fun b hb1 hb2 => ?_⟩
    rw [mulX_z] at hb2
    by_cases hb : b < xz X
    · rw [zE_mul hb]
      have hv := hP.2.2 b hb1 hb
      exact hv.kept (c2 _ hv.lt)
    · by_cases hb0 : b = xz X
      · subst hb0
        obtain ⟨m1, m2, m3⟩ := mulX_0 X
        rw [zE_refs (t := 7) m1 (by decide) m2, hz]
        show U.heap[T.heap.size]? = some (vp_cell _ _)
        rw [vp_cell_q, c1]
        congr 1
        apply mul_outer
        intro j hj
        simp only [m3 j hj, Option.map_some, hzz j hj, va_rf]
      · obtain ⟨j, rfl⟩ : ∃ j, b = xz X + 1 + j := ⟨b - (xz X + 1), by omega⟩
        have hj : j < 3 := by omega
        obtain ⟨m1, m2⟩ := mulX_i X hj
        rw [zE_ints (t := 0) m1 (by decide) m2, mulM_i M (xz X) hj, hzz j hj]
        show U.heap[T.heap.size + 1 + j]? = some (vp_cell _ _)
        rw [c3 j hj, vp_cell_i]
        show some (Jvm.Free.Multi.innerC _ _ _) = some (arrV _ 9 (fun _ => .int 0))
        rw [← arrV_new]
        rfl
  have k1 := kk p e s m args below meth c0 U.heap locs ls E hPn ⟨Nat.le_trans hS.1 (by omega), fun x h1 h2 => (c2 x (Nat.lt_of_lt_of_le h1 hS.1)).trans (hS.2.1 x h1 h2), hS.2.2⟩ hl
  have X2 : Stand p (zl G) e rm s m args below meth c0 U locs (cn.1 + 4) (cn.2 + 30) := X1
  obtain ⟨t, a1, b1⟩ := k1 U rfl X2
  refine ⟨t, step t ?_, b1⟩
  simp only [List.map_cons, zv, hz] at a1
  exact a1
end ZM
