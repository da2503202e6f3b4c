-- INIT B: by program (wip/whole/gen/c25.py)
theorem zN_in {i : Nat} {w : Cond} (h : zNest[i]? = some w) : w ∈ zNest := List.mem_of_getElem? h
theorem sX7_42 : zCN "RegretLocks$Town" 42 miX3_init 0 ∧ miX3_init.1.name = "<init>" ∧ Cond.instanceMethod miX3_init.1 ∈ zT ∧ miX3_init.2.2.2 = none := ⟨⟨zN_in (i := 0) (by decide +kernel), tcX3_init, zTm 74 (by decide +kernel) rfl, by decide, by decide, by decide⟩, rfl, zTm 113 (by decide +kernel) rfl, rfl⟩
theorem sX7_43 : zCN "RegretLocks$Town" 43 miX1_init 0 ∧ miX1_init.1.name = "<init>" ∧ Cond.instanceMethod miX1_init.1 ∈ zT ∧ miX1_init.2.2.2 = none := ⟨⟨zN_in (i := 1) (by decide +kernel), tcX1_init, zTm 75 (by decide +kernel) rfl, by decide, by decide, by decide⟩, rfl, zTm 138 (by decide +kernel) rfl, rfl⟩
theorem sX9_24 : zCN "RegretLocks" 24 miX8_init 0 ∧ miX8_init.1.name = "<init>" ∧ Cond.instanceMethod miX8_init.1 ∈ zT ∧ miX8_init.2.2.2 = none := ⟨⟨zN_in (i := 2) (by decide +kernel), tcX8_init, zTm 76 (by decide +kernel) rfl, by decide, by decide, by decide⟩, rfl, zTm 234 (by decide +kernel) rfl, rfl⟩
theorem sX9_31 : zCN "RegretLocks" 31 miX2_init 0 ∧ miX2_init.1.name = "<init>" ∧ Cond.instanceMethod miX2_init.1 ∈ zT ∧ miX2_init.2.2.2 = none := ⟨⟨zN_in (i := 3) (by decide +kernel), tcX2_init, zTm 77 (by decide +kernel) rfl, by decide, by decide, by decide⟩, rfl, zTm 256 (by decide +kernel) rfl, rfl⟩
theorem sX9_59 : zCN "RegretLocks" 59 miX4_init 0 ∧ miX4_init.1.name = "<init>" ∧ Cond.instanceMethod miX4_init.1 ∈ zT ∧ miX4_init.2.2.2 = none := ⟨⟨zN_in (i := 4) (by decide +kernel), tcX4_init, zTm 78 (by decide +kernel) rfl, by decide, by decide, by decide⟩, rfl, zTm 309 (by decide +kernel) rfl, rfl⟩
theorem sX9_60 : zCN "RegretLocks" 60 miX5_init 0 ∧ miX5_init.1.name = "<init>" ∧ Cond.instanceMethod miX5_init.1 ∈ zT ∧ miX5_init.2.2.2 = none := ⟨⟨zN_in (i := 5) (by decide +kernel), tcX5_init, zTm 79 (by decide +kernel) rfl, by decide, by decide, by decide⟩, rfl, zTm 327 (by decide +kernel) rfl, rfl⟩
theorem sX5_15 : zCN "RegretLocks$Slot" 15 miX3_init 0 ∧ miX3_init.1.name = "<init>" ∧ Cond.instanceMethod miX3_init.1 ∈ zT ∧ miX3_init.2.2.2 = none := ⟨⟨zN_in (i := 6) (by decide +kernel), tcX3_init, zTm 74 (by decide +kernel) rfl, by decide, by decide, by decide⟩, rfl, zTm 113 (by decide +kernel) rfl, rfl⟩
theorem sX5_22 : zCN "RegretLocks$Slot" 22 miX4_init 0 ∧ miX4_init.1.name = "<init>" ∧ Cond.instanceMethod miX4_init.1 ∈ zT ∧ miX4_init.2.2.2 = none := ⟨⟨zN_in (i := 7) (by decide +kernel), tcX4_init, zTm 78 (by decide +kernel) rfl, by decide, by decide, by decide⟩, rfl, zTm 309 (by decide +kernel) rfl, rfl⟩
def iMSlot (M : zMem) (X : zX) (a : Nat) : zMem := (iMSheet (zs (iMPerson (zs (zw M a 0 (nI 0)) (xz X) (fun _ => 0)) (zNew X 2 0) (xz X)) (xz X + 2) (fun _ => 0)) (zNew (zpu (iXPerson (zNew X 2 0) (xz X)) a 1 (xz X)) 3 0) (xz X + 2))
def iXSlot (X : zX) (a : Nat) : zX := zpu (iXSheet (zNew (zpu (iXPerson (zNew X 2 0) (xz X)) a 1 (xz X)) 3 0) (xz X + 2)) a 2 (xz X + 2)
theorem iXSlot_z (X : zX) (a : Nat) : xz (iXSlot X a) = xz X + 4 := rfl
theorem iXSlot_o {X : zX} {a b : Nat} (h : b < xz X) : xc (iXSlot X a) b = xc X b ∧ xl (iXSlot X a) b = xl X b ∧ xz (iXSlot X a) = xz X + 4 := by
  refine ⟨?_, ?_, rfl⟩
  · unfold iXSlot
    repeat (first | rw [zpu_c] | rw [zNew_co _ _ _ (by first | omega | (simp only [zpu_z, zNew_z, iXPerson_z, iXSheet_z]; omega))] | rw [(iXPerson_o (by first | omega | (simp only [zpu_z, zNew_z, iXPerson_z, iXSheet_z]; omega))).1] | rw [(iXSheet_o (by first | omega | (simp only [zpu_z, zNew_z, iXPerson_z, iXSheet_z]; omega))).1])
  · unfold iXSlot
    repeat (first | rw [zpu_l] | rw [zNew_lo _ _ _ (by first | omega | (simp only [zpu_z, zNew_z, iXPerson_z, iXSheet_z]; omega))] | rw [(iXPerson_o (by first | omega | (simp only [zpu_z, zNew_z, iXPerson_z, iXSheet_z]; omega))).2.1] | rw [(iXSheet_o (by first | omega | (simp only [zpu_z, zNew_z, iXPerson_z, iXSheet_z]; omega))).2.1])
theorem iXSlot_r {X : zX} {a b : Nat} (h : b < xz X) (h2 : b ≠ a) : xR (iXSlot X a) b = xR X b := by
  unfold iXSlot
  repeat (first | rw [zpu_ne _ _ _ (by first | omega | (simp only [zpu_z, zNew_z, iXPerson_z, iXSheet_z]; omega))] | rw [zNew_ro _ _ _ (by first | omega | (simp only [zpu_z, zNew_z, iXPerson_z, iXSheet_z]; omega))] | rw [iXPerson_r (by first | omega | (simp only [zpu_z, zNew_z, iXPerson_z, iXSheet_z]; omega)) (by first | omega | (simp only [zpu_z, zNew_z, iXPerson_z, iXSheet_z]; omega))] | rw [iXSheet_r (by first | omega | (simp only [zpu_z, zNew_z, iXPerson_z, iXSheet_z]; omega)) (by first | omega | (simp only [zpu_z, zNew_z, iXPerson_z, iXSheet_z]; omega))])
theorem i_Slot (d : Nat) (G : zG) (M : zMem) (X : zX) (a : Nat) (c0_0 : xc X a = 4) (ha : 16 ≤ a) (hax : a < xz X) : zCall G miX5_init (d + 2) [.ref a] (zV (iMSlot M X a) (iXSlot X a)) M X 4 33 := by
  refine zCall.of (lv := [some (.ref a)]) (by decide) (Nat.le_of_ble_eq_true rfl) rfl ?_
  have z0 : xz X = xz X + 0 := rfl
  refine j_aload_n (n := 1) dX5_init_0 rfl rfl ?_
  refine j_oinit (n := 4) dX5_init_1 rfl oX5_1 (by omega) (Nat.le_of_ble_eq_true rfl) ?_
  refine j_aload_n (n := 5) dX5_init_4 rfl rfl ?_
  refine j_iconst (n := 6) (v := nI 0) dX5_init_5 rfl rfl ?_
  refine j_putI (n := 9) (k := 0) (x := nI 0) dX5_init_6 rfl pX5_9 (fun h => by cases h) rfl rfl c0_0 (by omega) (by omega) ?_
  obtain ⟨M1, hM1⟩ : ∃ Y, Y = zw M a 0 (nI 0) := ⟨_, rfl⟩
  rw [← hM1]
  obtain ⟨X1, hX1⟩ : ∃ Y, Y = X := ⟨_, rfl⟩
  rw [← hX1]
  have z1 : xz X1 = xz X + 0 := by rw [hX1]; show xz X + 0 = xz X + 0; omega
  have c0_1 : xc X1 (a) = 4 := by rw [hX1]; exact c0_0
  refine j_aload_n (n := 10) dX5_init_9 rfl rfl ?_
  refine j_new (n := 13) dX5_init_10 rfl nX5_13 (Nat.le_of_ble_eq_true rfl) (Nat.le_of_ble_eq_true rfl) ?_
  rw [show xz X1 = xz X by omega]
  obtain ⟨M2, hM2⟩ : ∃ Y, Y = zs M1 (xz X) (fun _ => 0) := ⟨_, rfl⟩
  obtain ⟨X2, hX2⟩ : ∃ Y, Y = zNew X1 2 0 := ⟨_, rfl⟩
  rw [← hM2, ← hX2]
  have z2 : xz X2 = xz X + 1 := by rw [hX2]; show xz X1 + 1 = xz X + 1; omega
  have c0_2 : xc X2 (a) = 4 := by rw [hX2]; exact (zNew_co _ _ _ (by omega)).trans c0_1
  have c1_2 : xc X2 (xz X) = 2 := by rw [hX2]; rw [show xz X = xz X1 by omega]; exact zNew_c _ _ _
  refine j_dup (n := 14) dX5_init_13 rfl rfl ?_
  refine j_callIN (n := 17) (a := xz X) (as := []) (st := [.ref (xz X), .ref a]) dX5_init_14 rfl sX5_15 (i_Person d G M2 X2 (xz X) c1_2 (by omega) (by omega)) (by omega) (by decide) rfl rfl (Nat.le_of_ble_eq_true rfl) (Nat.le_of_ble_eq_true rfl) (Nat.le_of_ble_eq_true rfl) (fun v N1 Y1 hh => ?_)
  obtain ⟨rfl, hN, hY⟩ := hh
  rw [hN, hY]
  clear hN hY
  obtain ⟨M3, hM3⟩ : ∃ Y, Y = iMPerson M2 X2 (xz X) := ⟨_, rfl⟩
  obtain ⟨X3, hX3⟩ : ∃ Y, Y = iXPerson X2 (xz X) := ⟨_, rfl⟩
  rw [← hM3, ← hX3]
  have z3 : xz X3 = xz X + 2 := by rw [hX3]; show xz X2 + 1 = xz X + 2; omega
  have c0_3 : xc X3 (a) = 4 := by rw [hX3]; exact (iXPerson_o (by omega)).1.trans c0_2
  have c1_3 : xc X3 (xz X) = 2 := by rw [hX3]; exact (iXPerson_o (by omega)).1.trans c1_2
  clear z1 c0_1
  refine j_putR (n := 20) (k := 1) (b := xz X) dX5_init_17 rfl pX5_16 (fun _ => rfl) (.inl ⟨_, rfl⟩) c0_3 (by omega) (by omega) ?_
  obtain ⟨X4, hX4⟩ : ∃ Y, Y = zpu X3 a 1 (xz X) := ⟨_, rfl⟩
  obtain ⟨M4, hM4⟩ : ∃ Y, Y = M3 := ⟨_, rfl⟩
  rw [← hX4, ← hM4]
  have z4 : xz X4 = xz X + 2 := by rw [hX4]; show xz X3 + 0 = xz X + 2; omega
  have c0_4 : xc X4 (a) = 4 := by rw [hX4]; exact c0_3
  have c1_4 : xc X4 (xz X) = 2 := by rw [hX4]; exact c1_3
  clear z2 c0_2 c1_2
  refine j_aload_n (n := 21) dX5_init_20 rfl rfl ?_
  refine j_new (n := 24) dX5_init_21 rfl nX5_20 (Nat.le_of_ble_eq_true rfl) (Nat.le_of_ble_eq_true rfl) ?_
  rw [show xz X4 = xz X + 2 by omega]
  obtain ⟨M5, hM5⟩ : ∃ Y, Y = zs M4 (xz X + 2) (fun _ => 0) := ⟨_, rfl⟩
  obtain ⟨X5, hX5⟩ : ∃ Y, Y = zNew X4 3 0 := ⟨_, rfl⟩
  rw [← hM5, ← hX5]
  have z5 : xz X5 = xz X + 3 := by rw [hX5]; show xz X4 + 1 = xz X + 3; omega
  have c0_5 : xc X5 (a) = 4 := by rw [hX5]; exact (zNew_co _ _ _ (by omega)).trans c0_4
  have c1_5 : xc X5 (xz X) = 2 := by rw [hX5]; exact (zNew_co _ _ _ (by omega)).trans c1_4
  clear z3 c0_3 c1_3
  have c2_5 : xc X5 (xz X + 2) = 3 := by rw [hX5]; rw [show xz X + 2 = xz X4 by omega]; exact zNew_c _ _ _
  refine j_dup (n := 25) dX5_init_24 rfl rfl ?_
  refine j_callIN (n := 28) (a := xz X + 2) (as := []) (st := [.ref (xz X + 2), .ref a]) dX5_init_25 rfl sX5_22 (i_Sheet d G M5 X5 (xz X + 2) c2_5 (by omega) (by omega)) (by omega) (by decide) rfl rfl (Nat.le_of_ble_eq_true rfl) (Nat.le_of_ble_eq_true rfl) (Nat.le_of_ble_eq_true rfl) (fun v N1 Y1 hh => ?_)
  obtain ⟨rfl, hN, hY⟩ := hh
  rw [hN, hY]
  clear hN hY
  obtain ⟨M6, hM6⟩ : ∃ Y, Y = iMSheet M5 X5 (xz X + 2) := ⟨_, rfl⟩
  obtain ⟨X6, hX6⟩ : ∃ Y, Y = iXSheet X5 (xz X + 2) := ⟨_, rfl⟩
  rw [← hM6, ← hX6]
  have z6 : xz X6 = xz X + 4 := by rw [hX6]; show xz X5 + 1 = xz X + 4; omega
  have c0_6 : xc X6 (a) = 4 := by rw [hX6]; exact (iXSheet_o (by omega)).1.trans c0_5
  have c1_6 : xc X6 (xz X) = 2 := by rw [hX6]; exact (iXSheet_o (by omega)).1.trans c1_5
  have c2_6 : xc X6 (xz X + 2) = 3 := by rw [hX6]; exact (iXSheet_o (by omega)).1.trans c2_5
  clear z4 c0_4 c1_4
  refine j_putR (n := 31) (k := 2) (b := xz X + 2) dX5_init_28 rfl pX5_23 (fun _ => rfl) (.inl ⟨_, rfl⟩) c0_6 (by omega) (by omega) ?_
  obtain ⟨X7, hX7⟩ : ∃ Y, Y = zpu X6 a 2 (xz X + 2) := ⟨_, rfl⟩
  obtain ⟨M7, hM7⟩ : ∃ Y, Y = M6 := ⟨_, rfl⟩
  rw [← hX7, ← hM7]
  have z7 : xz X7 = xz X + 4 := by rw [hX7]; show xz X6 + 0 = xz X + 4; omega
  have c0_7 : xc X7 (a) = 4 := by rw [hX7]; exact c0_6
  have c1_7 : xc X7 (xz X) = 2 := by rw [hX7]; exact c1_6
  have c2_7 : xc X7 (xz X + 2) = 3 := by rw [hX7]; exact c2_6
  clear z5 c0_5 c1_5 c2_5
  exact j_rv dX5_init_31 rfl (Nat.le_of_ble_eq_true rfl) (Nat.le_of_ble_eq_true rfl) (by subst hM1 hX1 hM2 hX2 hM3 hX3 hM4 hX4 hM5 hX5 hM6 hX6 hM7 hX7; rfl) (by subst hM1 hX1 hM2 hX2 hM3 hX3 hM4 hX4 hM5 hX5 hM6 hX6 hM7 hX7; rfl)
