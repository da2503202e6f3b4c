-- INIT C: by program (wip/whole/gen/c26.py)
def iMTownA (M : zMem) (X : zX) (a : Nat) : zMem := zw (zw (zw (zs (zs (zs (zs M (xz X) (fun _ => 0)) (xz X + 1) (fun _ => 0)) (xz X + 2) (fun _ => 0)) (xz X + 3) (fun _ => 0)) a 7 (nI 30)) a 8 (nI 10)) a 13 (nI 1)
def iXTownA (X : zX) (a : Nat) : zX := (zpu (zNew (zpu (zNew (zpu (zNew (zpu (zNew X 102 8) a 0 (xz X)) 103 10) a 2 (xz X + 1)) 104 14) a 4 (xz X + 2)) 104 3) a 6 (xz X + 3))
def iMTown (M : zMem) (X : zX) (a : Nat) : zMem := lkM (peM (iMTownA M X a) (iXTownA X a) (xz X) 8) (peX (iXTownA X a) (xz X) 8) 10
def iXTown (X : zX) (a : Nat) : zX := lkX (peX (iXTownA X a) (xz X) 8) (xz X + 1) 10
theorem iXTown_z (X : zX) (a : Nat) : xz (iXTown X a) = xz X + 30 := by
  unfold iXTown
  rw [lkX_z, peX_z]
  rfl
theorem iXTown_o {X : zX} {a b : Nat} (h : b < xz X) : xc (iXTown X a) b = xc X b ∧ xl (iXTown X a) b = xl X b := by
  have z : xz (iXTownA X a) = xz X + 4 := rfl
  have z2 := peX_z (iXTownA X a) (xz X) 8
  have q := lkX_o (X := peX (iXTownA X a) (xz X) 8) (lk := xz X + 1) (b := b) (by omega) 10
  have q2 := peX_o (X := iXTownA X a) (pa := xz X) (b := b) (by omega) 8
  have q3 : xc (iXTownA X a) b = xc X b ∧ xl (iXTownA X a) b = xl X b := by
    refine ⟨?_, ?_⟩
    · unfold iXTownA
      repeat (first | rw [zpu_c] | rw [zNew_co _ _ _ (by first | omega | (simp only [zpu_z, zNew_z]; omega))])
    · unfold iXTownA
      repeat (first | rw [zpu_l] | rw [zNew_lo _ _ _ (by first | omega | (simp only [zpu_z, zNew_z]; omega))])
  exact ⟨q.1.trans (q2.1.trans q3.1), q.2.trans (q2.2.trans q3.2)⟩
theorem iXTown_r {X : zX} {a b : Nat} (h : b < xz X) (h2 : b ≠ a) : xR (iXTown X a) b = xR X b := by
  have z : xz (iXTownA X a) = xz X + 4 := rfl
  have z2 := peX_z (iXTownA X a) (xz X) 8
  unfold iXTown
  rw [lkX_r (by omega) (by omega), peX_r (by omega) (by omega)]
  unfold iXTownA
  repeat (first | rw [zpu_ne _ _ _ (by first | omega | (simp only [zpu_z, zNew_z]; omega))] | rw [zNew_ro _ _ _ (by first | omega | (simp only [zpu_z, zNew_z]; omega))])
theorem i_Town (d : Nat) (G : zG) (M : zMem) (X : zX) (a : Nat) (c0_0 : xc X a = 6) (ha : 16 ≤ a) (hax : a < xz X) : zCall G miX7_init (d + 2) [.ref a] (zV (iMTown M X a) (iXTown X a)) M X 30 133 := by
  refine zCall.of (lv := [some (.ref a), none]) (by decide) (Nat.le_of_ble_eq_true rfl) rfl ?_
  have z0 : xz X = xz X + 0 := rfl
  refine j_aload_n (n := 1) dX7_init_0 rfl rfl ?_
  refine j_oinit (n := 4) dX7_init_1 rfl oX7_3 (by omega) (Nat.le_of_ble_eq_true rfl) ?_
  refine j_aload_n (n := 5) dX7_init_4 rfl rfl ?_
  refine j_bipush (n := 7) (v := nI 8) dX7_init_5 rfl (by decide) ?_
  refine j_anew (n := 10) (t := 2) (L := 8) dX7_init_7 rfl (by decide) rfl (by decide) (zTm 105 (by decide +kernel) rfl) (by decide) (by decide) (by decide) (Nat.le_of_ble_eq_true rfl) (Nat.le_of_ble_eq_true rfl) ?_
  obtain ⟨M1, hM1⟩ : ∃ Y, Y = zs M (xz X) (fun _ => 0) := ⟨_, rfl⟩
  obtain ⟨X1, hX1⟩ : ∃ Y, Y = zNew X 102 8 := ⟨_, rfl⟩
  rw [← hM1, ← hX1]
  have z1 : xz X1 = xz X + 1 := by rw [hX1]; show xz X + 1 = xz X + 1; omega
  have c0_1 : xc X1 (a) = 6 := by rw [hX1]; exact (zNew_co _ _ _ (by omega)).trans c0_0
  have c1_1 : xc X1 (xz X) = 102 := by rw [hX1]; exact zNew_c _ _ _
  have l1_1 : xl X1 (xz X) = 8 := by rw [hX1]; exact zNew_l _ _ _
  refine j_putR (n := 13) (k := 0) (b := xz X) dX7_init_10 rfl pX7_11 (fun _ => rfl) (.inr ⟨_, rfl⟩) c0_1 (by omega) (by omega) ?_
  obtain ⟨X2, hX2⟩ : ∃ Y, Y = zpu X1 a 0 (xz X) := ⟨_, rfl⟩
  obtain ⟨M2, hM2⟩ : ∃ Y, Y = M1 := ⟨_, rfl⟩
  rw [← hX2, ← hM2]
  have z2 : xz X2 = xz X + 1 := by rw [hX2]; show xz X1 + 0 = xz X + 1; omega
  have c0_2 : xc X2 (a) = 6 := by rw [hX2]; exact c0_1
  have c1_2 : xc X2 (xz X) = 102 := by rw [hX2]; exact c1_1
  have l1_2 : xl X2 (xz X) = 8 := by rw [hX2]; exact l1_1
  have r0_2 : xR X2 a 0 = some (xz X) := by rw [hX2]; exact zpu_eq _ _ _ _
  refine j_aload_n (n := 14) dX7_init_13 rfl rfl ?_
  refine j_bipush (n := 16) (v := nI 10) dX7_init_14 rfl (by decide) ?_
  refine j_anew (n := 19) (t := 3) (L := 10) dX7_init_16 rfl (by decide) rfl (by decide) (zTm 107 (by decide +kernel) rfl) (by decide) (by decide) (by decide) (Nat.le_of_ble_eq_true rfl) (Nat.le_of_ble_eq_true rfl) ?_
  rw [show xz X2 = xz X + 1 by omega]
  obtain ⟨M3, hM3⟩ : ∃ Y, Y = zs M2 (xz X + 1) (fun _ => 0) := ⟨_, rfl⟩
  obtain ⟨X3, hX3⟩ : ∃ Y, Y = zNew X2 103 10 := ⟨_, rfl⟩
  rw [← hM3, ← hX3]
  have z3 : xz X3 = xz X + 2 := by rw [hX3]; show xz X2 + 1 = xz X + 2; omega
  have c0_3 : xc X3 (a) = 6 := by rw [hX3]; exact (zNew_co _ _ _ (by omega)).trans c0_2
  have c1_3 : xc X3 (xz X) = 102 := by rw [hX3]; exact (zNew_co _ _ _ (by omega)).trans c1_2
  have l1_3 : xl X3 (xz X) = 8 := by rw [hX3]; exact (zNew_lo _ _ _ (by omega)).trans l1_2
  have r0_3 : xR X3 a 0 = some (xz X) := by rw [hX3]; exact (congrFun (zNew_ro _ _ _ (by omega)) _).trans r0_2
  clear z1 c0_1 c1_1 l1_1
  have c2_3 : xc X3 (xz X + 1) = 103 := by rw [hX3]; rw [show xz X + 1 = xz X2 by omega]; exact zNew_c _ _ _
  have l2_3 : xl X3 (xz X + 1) = 10 := by rw [hX3]; rw [show xz X + 1 = xz X2 by omega]; exact zNew_l _ _ _
  refine j_putR (n := 22) (k := 2) (b := xz X + 1) dX7_init_19 rfl pX7_19 (fun _ => rfl) (.inr ⟨_, rfl⟩) c0_3 (by omega) (by omega) ?_
  obtain ⟨X4, hX4⟩ : ∃ Y, Y = zpu X3 a 2 (xz X + 1) := ⟨_, rfl⟩
  obtain ⟨M4, hM4⟩ : ∃ Y, Y = M3 := ⟨_, rfl⟩
  rw [← hX4, ← hM4]
  have z4 : xz X4 = xz X + 2 := by rw [hX4]; show xz X3 + 0 = xz X + 2; omega
  have c0_4 : xc X4 (a) = 6 := by rw [hX4]; exact c0_3
  have c1_4 : xc X4 (xz X) = 102 := by rw [hX4]; exact c1_3
  have l1_4 : xl X4 (xz X) = 8 := by rw [hX4]; exact l1_3
  have c2_4 : xc X4 (xz X + 1) = 103 := by rw [hX4]; exact c2_3
  have l2_4 : xl X4 (xz X + 1) = 10 := by rw [hX4]; exact l2_3
  have r0_4 : xR X4 a 0 = some (xz X) := by rw [hX4]; exact (zpu_nk _ _ _ (by decide)).trans r0_3
  clear z2 c0_2 c1_2 l1_2 r0_2
  have r2_4 : xR X4 a 2 = some (xz X + 1) := by rw [hX4]; exact zpu_eq _ _ _ _
  refine j_aload_n (n := 23) dX7_init_22 rfl rfl ?_
  refine j_bipush (n := 25) (v := nI 14) dX7_init_23 rfl (by decide) ?_
  refine j_anew (n := 28) (t := 4) (L := 14) dX7_init_25 rfl (by decide) rfl (by decide) (zTm 109 (by decide +kernel) rfl) (by decide) (by decide) (by decide) (Nat.le_of_ble_eq_true rfl) (Nat.le_of_ble_eq_true rfl) ?_
  rw [show xz X4 = xz X + 2 by omega]
  obtain ⟨M5, hM5⟩ : ∃ Y, Y = zs M4 (xz X + 2) (fun _ => 0) := ⟨_, rfl⟩
  obtain ⟨X5, hX5⟩ : ∃ Y, Y = zNew X4 104 14 := ⟨_, rfl⟩
  rw [← hM5, ← hX5]
  have z5 : xz X5 = xz X + 3 := by rw [hX5]; show xz X4 + 1 = xz X + 3; omega
  have c0_5 : xc X5 (a) = 6 := by rw [hX5]; exact (zNew_co _ _ _ (by omega)).trans c0_4
  have c1_5 : xc X5 (xz X) = 102 := by rw [hX5]; exact (zNew_co _ _ _ (by omega)).trans c1_4
  have l1_5 : xl X5 (xz X) = 8 := by rw [hX5]; exact (zNew_lo _ _ _ (by omega)).trans l1_4
  have c2_5 : xc X5 (xz X + 1) = 103 := by rw [hX5]; exact (zNew_co _ _ _ (by omega)).trans c2_4
  have l2_5 : xl X5 (xz X + 1) = 10 := by rw [hX5]; exact (zNew_lo _ _ _ (by omega)).trans l2_4
  have r0_5 : xR X5 a 0 = some (xz X) := by rw [hX5]; exact (congrFun (zNew_ro _ _ _ (by omega)) _).trans r0_4
  have r2_5 : xR X5 a 2 = some (xz X + 1) := by rw [hX5]; exact (congrFun (zNew_ro _ _ _ (by omega)) _).trans r2_4
  clear z3 c0_3 c1_3 l1_3 r0_3 c2_3 l2_3
  have c3_5 : xc X5 (xz X + 2) = 104 := by rw [hX5]; rw [show xz X + 2 = xz X4 by omega]; exact zNew_c _ _ _
  have l3_5 : xl X5 (xz X + 2) = 14 := by rw [hX5]; rw [show xz X + 2 = xz X4 by omega]; exact zNew_l _ _ _
  refine j_putR (n := 31) (k := 4) (b := xz X + 2) dX7_init_28 rfl pX7_25 (fun _ => rfl) (.inr ⟨_, rfl⟩) c0_5 (by omega) (by omega) ?_
  obtain ⟨X6, hX6⟩ : ∃ Y, Y = zpu X5 a 4 (xz X + 2) := ⟨_, rfl⟩
  obtain ⟨M6, hM6⟩ : ∃ Y, Y = M5 := ⟨_, rfl⟩
  rw [← hX6, ← hM6]
  have z6 : xz X6 = xz X + 3 := by rw [hX6]; show xz X5 + 0 = xz X + 3; omega
  have c0_6 : xc X6 (a) = 6 := by rw [hX6]; exact c0_5
  have c1_6 : xc X6 (xz X) = 102 := by rw [hX6]; exact c1_5
  have l1_6 : xl X6 (xz X) = 8 := by rw [hX6]; exact l1_5
  have c2_6 : xc X6 (xz X + 1) = 103 := by rw [hX6]; exact c2_5
  have l2_6 : xl X6 (xz X + 1) = 10 := by rw [hX6]; exact l2_5
  have c3_6 : xc X6 (xz X + 2) = 104 := by rw [hX6]; exact c3_5
  have l3_6 : xl X6 (xz X + 2) = 14 := by rw [hX6]; exact l3_5
  have r0_6 : xR X6 a 0 = some (xz X) := by rw [hX6]; exact (zpu_nk _ _ _ (by decide)).trans r0_5
  have r2_6 : xR X6 a 2 = some (xz X + 1) := by rw [hX6]; exact (zpu_nk _ _ _ (by decide)).trans r2_5
  clear z4 c0_4 c1_4 c2_4 l1_4 l2_4 r0_4 r2_4
  refine j_aload_n (n := 32) dX7_init_31 rfl rfl ?_
  refine j_iconst (n := 33) (v := nI 3) dX7_init_32 rfl rfl ?_
  refine j_anew (n := 36) (t := 4) (L := 3) dX7_init_33 rfl (by decide) rfl (by decide) (zTm 109 (by decide +kernel) rfl) (by decide) (by decide) (by decide) (Nat.le_of_ble_eq_true rfl) (Nat.le_of_ble_eq_true rfl) ?_
  rw [show xz X6 = xz X + 3 by omega]
  obtain ⟨M7, hM7⟩ : ∃ Y, Y = zs M6 (xz X + 3) (fun _ => 0) := ⟨_, rfl⟩
  obtain ⟨X7, hX7⟩ : ∃ Y, Y = zNew X6 104 3 := ⟨_, rfl⟩
  rw [← hM7, ← hX7]
  have z7 : xz X7 = xz X + 4 := by rw [hX7]; show xz X6 + 1 = xz X + 4; omega
  have c0_7 : xc X7 (a) = 6 := by rw [hX7]; exact (zNew_co _ _ _ (by omega)).trans c0_6
  have c1_7 : xc X7 (xz X) = 102 := by rw [hX7]; exact (zNew_co _ _ _ (by omega)).trans c1_6
  have l1_7 : xl X7 (xz X) = 8 := by rw [hX7]; exact (zNew_lo _ _ _ (by omega)).trans l1_6
  have c2_7 : xc X7 (xz X + 1) = 103 := by rw [hX7]; exact (zNew_co _ _ _ (by omega)).trans c2_6
  have l2_7 : xl X7 (xz X + 1) = 10 := by rw [hX7]; exact (zNew_lo _ _ _ (by omega)).trans l2_6
  have c3_7 : xc X7 (xz X + 2) = 104 := by rw [hX7]; exact (zNew_co _ _ _ (by omega)).trans c3_6
  have l3_7 : xl X7 (xz X + 2) = 14 := by rw [hX7]; exact (zNew_lo _ _ _ (by omega)).trans l3_6
  have r0_7 : xR X7 a 0 = some (xz X) := by rw [hX7]; exact (congrFun (zNew_ro _ _ _ (by omega)) _).trans r0_6
  have r2_7 : xR X7 a 2 = some (xz X + 1) := by rw [hX7]; exact (congrFun (zNew_ro _ _ _ (by omega)) _).trans r2_6
  clear z5 c0_5 c1_5 c2_5 l1_5 l2_5 r0_5 r2_5 c3_5 l3_5
  have c4_7 : xc X7 (xz X + 3) = 104 := by rw [hX7]; rw [show xz X + 3 = xz X6 by omega]; exact zNew_c _ _ _
  have l4_7 : xl X7 (xz X + 3) = 3 := by rw [hX7]; rw [show xz X + 3 = xz X6 by omega]; exact zNew_l _ _ _
  refine j_putR (n := 39) (k := 6) (b := xz X + 3) dX7_init_36 rfl pX7_29 (fun _ => rfl) (.inr ⟨_, rfl⟩) c0_7 (by omega) (by omega) ?_
  obtain ⟨X8, hX8⟩ : ∃ Y, Y = zpu X7 a 6 (xz X + 3) := ⟨_, rfl⟩
  obtain ⟨M8, hM8⟩ : ∃ Y, Y = M7 := ⟨_, rfl⟩
  rw [← hX8, ← hM8]
  have z8 : xz X8 = xz X + 4 := by rw [hX8]; show xz X7 + 0 = xz X + 4; omega
  have c0_8 : xc X8 (a) = 6 := by rw [hX8]; exact c0_7
  have c1_8 : xc X8 (xz X) = 102 := by rw [hX8]; exact c1_7
  have l1_8 : xl X8 (xz X) = 8 := by rw [hX8]; exact l1_7
  have c2_8 : xc X8 (xz X + 1) = 103 := by rw [hX8]; exact c2_7
  have l2_8 : xl X8 (xz X + 1) = 10 := by rw [hX8]; exact l2_7
  have c3_8 : xc X8 (xz X + 2) = 104 := by rw [hX8]; exact c3_7
  have l3_8 : xl X8 (xz X + 2) = 14 := by rw [hX8]; exact l3_7
  have c4_8 : xc X8 (xz X + 3) = 104 := by rw [hX8]; exact c4_7
  have l4_8 : xl X8 (xz X + 3) = 3 := by rw [hX8]; exact l4_7
  have r0_8 : xR X8 a 0 = some (xz X) := by rw [hX8]; exact (zpu_nk _ _ _ (by decide)).trans r0_7
  have r2_8 : xR X8 a 2 = some (xz X + 1) := by rw [hX8]; exact (zpu_nk _ _ _ (by decide)).trans r2_7
  clear z6 c0_6 c1_6 c2_6 c3_6 l1_6 l2_6 l3_6 r0_6 r2_6
  refine j_aload_n (n := 40) dX7_init_39 rfl rfl ?_
  refine j_bipush (n := 42) (v := nI 30) dX7_init_40 rfl (by decide) ?_
  refine j_putI (n := 45) (k := 7) (x := nI 30) dX7_init_42 rfl pX7_32 (fun h => by cases h) rfl rfl c0_8 (by omega) (by omega) ?_
  obtain ⟨M9, hM9⟩ : ∃ Y, Y = zw M8 a 7 (nI 30) := ⟨_, rfl⟩
  rw [← hM9]
  obtain ⟨X9, hX9⟩ : ∃ Y, Y = X8 := ⟨_, rfl⟩
  rw [← hX9]
  have z9 : xz X9 = xz X + 4 := by rw [hX9]; show xz X8 + 0 = xz X + 4; omega
  have c0_9 : xc X9 (a) = 6 := by rw [hX9]; exact c0_8
  have c1_9 : xc X9 (xz X) = 102 := by rw [hX9]; exact c1_8
  have l1_9 : xl X9 (xz X) = 8 := by rw [hX9]; exact l1_8
  have c2_9 : xc X9 (xz X + 1) = 103 := by rw [hX9]; exact c2_8
  have l2_9 : xl X9 (xz X + 1) = 10 := by rw [hX9]; exact l2_8
  have c3_9 : xc X9 (xz X + 2) = 104 := by rw [hX9]; exact c3_8
  have l3_9 : xl X9 (xz X + 2) = 14 := by rw [hX9]; exact l3_8
  have c4_9 : xc X9 (xz X + 3) = 104 := by rw [hX9]; exact c4_8
  have l4_9 : xl X9 (xz X + 3) = 3 := by rw [hX9]; exact l4_8
  have r0_9 : xR X9 a 0 = some (xz X) := by rw [hX9]; exact r0_8
  have r2_9 : xR X9 a 2 = some (xz X + 1) := by rw [hX9]; exact r2_8
  clear z7 c0_7 c1_7 c2_7 c3_7 l1_7 l2_7 l3_7 r0_7 r2_7 c4_7 l4_7
  refine j_aload_n (n := 46) dX7_init_45 rfl rfl ?_
  refine j_bipush (n := 48) (v := nI 10) dX7_init_46 rfl (by decide) ?_
  refine j_putI (n := 51) (k := 8) (x := nI 10) dX7_init_48 rfl pX7_36 (fun h => by cases h) rfl rfl c0_9 (by omega) (by omega) ?_
  obtain ⟨M10, hM10⟩ : ∃ Y, Y = zw M9 a 8 (nI 10) := ⟨_, rfl⟩
  rw [← hM10]
  obtain ⟨X10, hX10⟩ : ∃ Y, Y = X9 := ⟨_, rfl⟩
  rw [← hX10]
  have z10 : xz X10 = xz X + 4 := by rw [hX10]; show xz X9 + 0 = xz X + 4; omega
  have c0_10 : xc X10 (a) = 6 := by rw [hX10]; exact c0_9
  have c1_10 : xc X10 (xz X) = 102 := by rw [hX10]; exact c1_9
  have l1_10 : xl X10 (xz X) = 8 := by rw [hX10]; exact l1_9
  have c2_10 : xc X10 (xz X + 1) = 103 := by rw [hX10]; exact c2_9
  have l2_10 : xl X10 (xz X + 1) = 10 := by rw [hX10]; exact l2_9
  have c3_10 : xc X10 (xz X + 2) = 104 := by rw [hX10]; exact c3_9
  have l3_10 : xl X10 (xz X + 2) = 14 := by rw [hX10]; exact l3_9
  have c4_10 : xc X10 (xz X + 3) = 104 := by rw [hX10]; exact c4_9
  have l4_10 : xl X10 (xz X + 3) = 3 := by rw [hX10]; exact l4_9
  have r0_10 : xR X10 a 0 = some (xz X) := by rw [hX10]; exact r0_9
  have r2_10 : xR X10 a 2 = some (xz X + 1) := by rw [hX10]; exact r2_9
  clear z8 c0_8 c1_8 c2_8 c3_8 c4_8 l1_8 l2_8 l3_8 l4_8 r0_8 r2_8
  refine j_aload_n (n := 52) dX7_init_51 rfl rfl ?_
  refine j_iconst (n := 53) (v := nI 1) dX7_init_52 rfl rfl ?_
  refine j_putI (n := 56) (k := 13) (x := nI 1) dX7_init_53 rfl pX7_39 (fun h => by cases h) rfl rfl c0_10 (by omega) (by omega) ?_
  obtain ⟨M11, hM11⟩ : ∃ Y, Y = zw M10 a 13 (nI 1) := ⟨_, rfl⟩
  rw [← hM11]
  obtain ⟨X11, hX11⟩ : ∃ Y, Y = X10 := ⟨_, rfl⟩
  rw [← hX11]
  have z11 : xz X11 = xz X + 4 := by rw [hX11]; show xz X10 + 0 = xz X + 4; omega
  have c0_11 : xc X11 (a) = 6 := by rw [hX11]; exact c0_10
  have c1_11 : xc X11 (xz X) = 102 := by rw [hX11]; exact c1_10
  have l1_11 : xl X11 (xz X) = 8 := by rw [hX11]; exact l1_10
  have c2_11 : xc X11 (xz X + 1) = 103 := by rw [hX11]; exact c2_10
  have l2_11 : xl X11 (xz X + 1) = 10 := by rw [hX11]; exact l2_10
  have c3_11 : xc X11 (xz X + 2) = 104 := by rw [hX11]; exact c3_10
  have l3_11 : xl X11 (xz X + 2) = 14 := by rw [hX11]; exact l3_10
  have c4_11 : xc X11 (xz X + 3) = 104 := by rw [hX11]; exact c4_10
  have l4_11 : xl X11 (xz X + 3) = 3 := by rw [hX11]; exact l4_10
  have r0_11 : xR X11 a 0 = some (xz X) := by rw [hX11]; exact r0_10
  have r2_11 : xR X11 a 2 = some (xz X + 1) := by rw [hX11]; exact r2_10
  clear z9 c0_9 c1_9 c2_9 c3_9 c4_9 l1_9 l2_9 l3_9 l4_9 r0_9 r2_9
  refine j_iconst (n := 57) (v := nI 0) dX7_init_56 rfl rfl ?_
  refine j_istore_n (n := 58) (lv2 := [some (.ref a), some (.int (nI 0))]) dX7_init_57 rfl rfl (by decide) rfl ?_
  have q1 : a < xz X11 := by omega
  have q2 : xz X < xz X11 := by omega
  have q3 : xz X + 1 < xz X11 := by omega
  clear z11
  subst hM1 hX1 hM2 hX2 hM3 hX3 hM4 hX4 hM5 hX5 hM6 hX6 hM7 hX7 hM8 hX8 hM9 hX9 hM10 hX10 hM11 hX11
  exact t_people d G _ _ a (xz X) (xz X + 1) ha q1 (by omega) q2 (by omega) (by omega) q3 (by omega) (by omega) c0_11 c1_11 l1_11 r0_11 c2_11 l2_11 r2_11 _ 0 rfl (by decide)
