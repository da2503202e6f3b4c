-- INIT G: by program (wip/whole/gen/c30.py)
theorem i_Ways : WaysI := by
  intro d G M X a c0_0 ha hax
  refine zCall.of (lv := [some (.ref a)]) (by decide) (Nat.le_of_ble_eq_true rfl) rfl ?_
  have z0 : xz X = xz X + 0 := rfl
  refine j_aload_n (n := 1) dX8_init_0 rfl rfl ?_
  refine j_oinit (n := 4) dX8_init_1 rfl oX8_3 (by omega) (Nat.le_of_ble_eq_true rfl) ?_
  refine j_aload_n (n := 5) dX8_init_4 rfl rfl ?_
  refine j_bipush (n := 7) (v := nI 8) dX8_init_5 rfl (by decide) ?_
  refine j_newi (n := 9) (L := 8) dX8_init_7 rfl (by decide) (by decide) (by decide) (Nat.le_of_ble_eq_true rfl) (Nat.le_of_ble_eq_true rfl) ac_int ?_
  obtain ⟨M1, hM1⟩ : ∃ Y, Y = zs M (xz X) (fun _ => 0) := ⟨_, rfl⟩
  obtain ⟨X1, hX1⟩ : ∃ Y, Y = zNew X 100 8 := ⟨_, rfl⟩
  rw [← hM1, ← hX1]
  have z1 : xz X1 = xz X + 1 := by rw [hX1]; show xz X + 1 = xz X + 1; omega
  have c0_1 : xc X1 (a) = 7 := by rw [hX1]; exact (zNew_co _ _ _ (by omega)).trans c0_0
  have c1_1 : xc X1 (xz X) = 100 := by rw [hX1]; exact zNew_c _ _ _
  have l1_1 : xl X1 (xz X) = 8 := by rw [hX1]; exact zNew_l _ _ _
  refine j_putR (n := 12) (k := 0) (b := xz X) dX8_init_9 rfl pX8_9 (fun _ => rfl) (.inr ⟨_, rfl⟩) c0_1 (by omega) (by omega) ?_
  obtain ⟨X2, hX2⟩ : ∃ Y, Y = zpu X1 a 0 (xz X) := ⟨_, rfl⟩
  obtain ⟨M2, hM2⟩ : ∃ Y, Y = M1 := ⟨_, rfl⟩
  rw [← hX2, ← hM2]
  have z2 : xz X2 = xz X + 1 := by rw [hX2]; show xz X1 + 0 = xz X + 1; omega
  have c0_2 : xc X2 (a) = 7 := by rw [hX2]; exact c0_1
  have c1_2 : xc X2 (xz X) = 100 := by rw [hX2]; exact c1_1
  have l1_2 : xl X2 (xz X) = 8 := by rw [hX2]; exact l1_1
  refine j_aload_n (n := 13) dX8_init_12 rfl rfl ?_
  refine j_sipush (n := 16) (v := nI 729) dX8_init_13 rfl (by decide) ?_
  refine j_newi (n := 18) (L := 729) dX8_init_16 rfl (by decide) (by decide) (by decide) (Nat.le_of_ble_eq_true rfl) (Nat.le_of_ble_eq_true rfl) ac_int ?_
  rw [show xz X2 = xz X + 1 by omega]
  obtain ⟨M3, hM3⟩ : ∃ Y, Y = zs M2 (xz X + 1) (fun _ => 0) := ⟨_, rfl⟩
  obtain ⟨X3, hX3⟩ : ∃ Y, Y = zNew X2 100 729 := ⟨_, rfl⟩
  rw [← hM3, ← hX3]
  have z3 : xz X3 = xz X + 2 := by rw [hX3]; show xz X2 + 1 = xz X + 2; omega
  have c0_3 : xc X3 (a) = 7 := by rw [hX3]; exact (zNew_co _ _ _ (by omega)).trans c0_2
  have c1_3 : xc X3 (xz X) = 100 := by rw [hX3]; exact (zNew_co _ _ _ (by omega)).trans c1_2
  have l1_3 : xl X3 (xz X) = 8 := by rw [hX3]; exact (zNew_lo _ _ _ (by omega)).trans l1_2
  clear z1 c0_1 c1_1 l1_1
  have c2_3 : xc X3 (xz X + 1) = 100 := by rw [hX3]; rw [show xz X + 1 = xz X2 by omega]; exact zNew_c _ _ _
  have l2_3 : xl X3 (xz X + 1) = 729 := by rw [hX3]; rw [show xz X + 1 = xz X2 by omega]; exact zNew_l _ _ _
  refine j_putR (n := 21) (k := 1) (b := xz X + 1) dX8_init_18 rfl pX8_15 (fun _ => rfl) (.inr ⟨_, rfl⟩) c0_3 (by omega) (by omega) ?_
  obtain ⟨X4, hX4⟩ : ∃ Y, Y = zpu X3 a 1 (xz X + 1) := ⟨_, rfl⟩
  obtain ⟨M4, hM4⟩ : ∃ Y, Y = M3 := ⟨_, rfl⟩
  rw [← hX4, ← hM4]
  have z4 : xz X4 = xz X + 2 := by rw [hX4]; show xz X3 + 0 = xz X + 2; omega
  have c0_4 : xc X4 (a) = 7 := by rw [hX4]; exact c0_3
  have c1_4 : xc X4 (xz X) = 100 := by rw [hX4]; exact c1_3
  have l1_4 : xl X4 (xz X) = 8 := by rw [hX4]; exact l1_3
  have c2_4 : xc X4 (xz X + 1) = 100 := by rw [hX4]; exact c2_3
  have l2_4 : xl X4 (xz X + 1) = 729 := by rw [hX4]; exact l2_3
  clear z2 c0_2 c1_2 l1_2
  refine j_aload_n (n := 22) dX8_init_21 rfl rfl ?_
  refine j_iconst (n := 23) (v := nI 3) dX8_init_22 rfl rfl ?_
  refine j_bipush (n := 25) (v := nI 9) dX8_init_23 rfl (by decide) ?_
  refine j_multi (n := 29) dX8_init_25 rfl (zTm 237 (by decide +kernel) rfl) ac_int (Nat.le_of_ble_eq_true rfl) (Nat.le_of_ble_eq_true rfl) ?_
  rw [show xz X4 = xz X + 2 by omega]
  obtain ⟨M5, hM5⟩ : ∃ Y, Y = mulM M4 (xz X + 2) := ⟨_, rfl⟩
  obtain ⟨X5, hX5⟩ : ∃ Y, Y = mulX X4 := ⟨_, rfl⟩
  rw [← hM5, ← hX5]
  have z5 : xz X5 = xz X + 6 := by rw [hX5]; show xz X4 + 4 = xz X + 6; omega
  have c0_5 : xc X5 (a) = 7 := by rw [hX5]; exact (mulX_o (by omega)).1.trans c0_4
  have c1_5 : xc X5 (xz X) = 100 := by rw [hX5]; exact (mulX_o (by omega)).1.trans c1_4
  have l1_5 : xl X5 (xz X) = 8 := by rw [hX5]; exact (mulX_o (by omega)).2.1.trans l1_4
  have c2_5 : xc X5 (xz X + 1) = 100 := by rw [hX5]; exact (mulX_o (by omega)).1.trans c2_4
  have l2_5 : xl X5 (xz X + 1) = 729 := by rw [hX5]; exact (mulX_o (by omega)).2.1.trans l2_4
  clear z3 c0_3 c1_3 l1_3 c2_3 l2_3
  have c3_5 : xc X5 (xz X + 2) = 107 := by rw [hX5]; rw [show xz X + 2 = xz X4 by omega]; exact (mulX_0 _).1
  have l3_5 : xl X5 (xz X + 2) = 3 := by rw [hX5]; rw [show xz X + 2 = xz X4 by omega]; exact (mulX_0 _).2.1
  refine j_putR (n := 32) (k := 2) (b := xz X + 2) dX8_init_29 rfl pX8_20 (fun _ => rfl) (.inr ⟨_, rfl⟩) c0_5 (by omega) (by omega) ?_
  obtain ⟨X6, hX6⟩ : ∃ Y, Y = zpu X5 a 2 (xz X + 2) := ⟨_, rfl⟩
  obtain ⟨M6, hM6⟩ : ∃ Y, Y = M5 := ⟨_, rfl⟩
  rw [← hX6, ← hM6]
  have z6 : xz X6 = xz X + 6 := by rw [hX6]; show xz X5 + 0 = xz X + 6; omega
  have c0_6 : xc X6 (a) = 7 := by rw [hX6]; exact c0_5
  have c1_6 : xc X6 (xz X) = 100 := by rw [hX6]; exact c1_5
  have l1_6 : xl X6 (xz X) = 8 := by rw [hX6]; exact l1_5
  have c2_6 : xc X6 (xz X + 1) = 100 := by rw [hX6]; exact c2_5
  have l2_6 : xl X6 (xz X + 1) = 729 := by rw [hX6]; exact l2_5
  have c3_6 : xc X6 (xz X + 2) = 107 := by rw [hX6]; exact c3_5
  have l3_6 : xl X6 (xz X + 2) = 3 := by rw [hX6]; exact l3_5
  clear z4 c0_4 c1_4 c2_4 l1_4 l2_4
  refine j_aload_n (n := 33) dX8_init_32 rfl rfl ?_
  refine j_iconst (n := 34) (v := nI 3) dX8_init_33 rfl rfl ?_
  refine j_newi (n := 36) (L := 3) dX8_init_34 rfl (by decide) (by decide) (by decide) (Nat.le_of_ble_eq_true rfl) (Nat.le_of_ble_eq_true rfl) ac_int ?_
  rw [show xz X6 = xz X + 6 by omega]
  obtain ⟨M7, hM7⟩ : ∃ Y, Y = zs M6 (xz X + 6) (fun _ => 0) := ⟨_, rfl⟩
  obtain ⟨X7, hX7⟩ : ∃ Y, Y = zNew X6 100 3 := ⟨_, rfl⟩
  rw [← hM7, ← hX7]
  have z7 : xz X7 = xz X + 7 := by rw [hX7]; show xz X6 + 1 = xz X + 7; omega
  have c0_7 : xc X7 (a) = 7 := by rw [hX7]; exact (zNew_co _ _ _ (by omega)).trans c0_6
  have c1_7 : xc X7 (xz X) = 100 := by rw [hX7]; exact (zNew_co _ _ _ (by omega)).trans c1_6
  have l1_7 : xl X7 (xz X) = 8 := by rw [hX7]; exact (zNew_lo _ _ _ (by omega)).trans l1_6
  have c2_7 : xc X7 (xz X + 1) = 100 := by rw [hX7]; exact (zNew_co _ _ _ (by omega)).trans c2_6
  have l2_7 : xl X7 (xz X + 1) = 729 := by rw [hX7]; exact (zNew_lo _ _ _ (by omega)).trans l2_6
  have c3_7 : xc X7 (xz X + 2) = 107 := by rw [hX7]; exact (zNew_co _ _ _ (by omega)).trans c3_6
  have l3_7 : xl X7 (xz X + 2) = 3 := by rw [hX7]; exact (zNew_lo _ _ _ (by omega)).trans l3_6
  clear z5 c0_5 c1_5 c2_5 l1_5 l2_5 c3_5 l3_5
  have c4_7 : xc X7 (xz X + 6) = 100 := by rw [hX7]; rw [show xz X + 6 = xz X6 by omega]; exact zNew_c _ _ _
  have l4_7 : xl X7 (xz X + 6) = 3 := by rw [hX7]; rw [show xz X + 6 = xz X6 by omega]; exact zNew_l _ _ _
  refine j_putR (n := 39) (k := 3) (b := xz X + 6) dX8_init_36 rfl pX8_23 (fun _ => rfl) (.inr ⟨_, rfl⟩) c0_7 (by omega) (by omega) ?_
  obtain ⟨X8, hX8⟩ : ∃ Y, Y = zpu X7 a 3 (xz X + 6) := ⟨_, rfl⟩
  obtain ⟨M8, hM8⟩ : ∃ Y, Y = M7 := ⟨_, rfl⟩
  rw [← hX8, ← hM8]
  have z8 : xz X8 = xz X + 7 := by rw [hX8]; show xz X7 + 0 = xz X + 7; omega
  have c0_8 : xc X8 (a) = 7 := by rw [hX8]; exact c0_7
  have c1_8 : xc X8 (xz X) = 100 := by rw [hX8]; exact c1_7
  have l1_8 : xl X8 (xz X) = 8 := by rw [hX8]; exact l1_7
  have c2_8 : xc X8 (xz X + 1) = 100 := by rw [hX8]; exact c2_7
  have l2_8 : xl X8 (xz X + 1) = 729 := by rw [hX8]; exact l2_7
  have c3_8 : xc X8 (xz X + 2) = 107 := by rw [hX8]; exact c3_7
  have l3_8 : xl X8 (xz X + 2) = 3 := by rw [hX8]; exact l3_7
  have c4_8 : xc X8 (xz X + 6) = 100 := by rw [hX8]; exact c4_7
  have l4_8 : xl X8 (xz X + 6) = 3 := by rw [hX8]; exact l4_7
  clear z6 c0_6 c1_6 c2_6 c3_6 l1_6 l2_6 l3_6
  exact j_rv dX8_init_39 rfl (Nat.le_of_ble_eq_true rfl) (Nat.le_of_ble_eq_true rfl) (by subst hM1 hX1 hM2 hX2 hM3 hX3 hM4 hX4 hM5 hX5 hM6 hX6 hM7 hX7 hM8 hX8; rfl) (by subst hM1 hX1 hM2 hX2 hM3 hX3 hM4 hX4 hM5 hX5 hM6 hX6 hM7 hX7 hM8 hX8; rfl)
