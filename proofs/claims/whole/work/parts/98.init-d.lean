-- INIT D: by program (wip/whole/gen/c27.py)
def iMModelB (M : zMem) (X : zX) (a : Nat) (nw sh : Nat) : zMem := zw (zw (zw (zw (zw (zw (zw (zs (zs (zs (zs (zs (zs (zs (zs (zs (zs M (xz X) (fun _ => 0)) (xz X + 1) (fun _ => 0)) (xz X + 2) (fun _ => 0)) (xz X + 3) (fun _ => 0)) (xz X + 4) (fun _ => 0)) (xz X + 5) (fun _ => 0)) (xz X + 6) (fun _ => 0)) (xz X + 7) (fun _ => 0)) (xz X + 8) (fun _ => 0)) (xz X + 9) (fun _ => 0)) nw 9 (nI 1)) nw 6 (nI 30)) nw 7 (nI 10)) sh 0 (-1)) sh 1 (-1)) sh 2 (-1)) sh 3 (-1)
def iXModelB (X : zX) (a : Nat) : zX := (zpu (zNew (zpu (zNew (zpu (zNew (zpu (zNew (zpu (zNew (zpu (zNew (zpu (zNew (zpu (zNew (zpu (zNew (zpu (zNew X 100 120) a 11 (xz X)) 100 729) a 12 (xz X + 1)) 100 27) a 13 (xz X + 2)) 100 100) a 14 (xz X + 3)) 100 96) a 15 (xz X + 4)) 100 128) a 27 (xz X + 5)) 100 100) a 28 (xz X + 6)) 100 24) a 29 (xz X + 7)) 100 60) a 30 (xz X + 8)) 100 60) a 32 (xz X + 9))
theorem i_ModelB (d : Nat) (G : zG) (M : zMem) (X : zX) (a nw sh : Nat) (ha : 16 ≤ a) (hax : a < xz X) (hnw : 16 ≤ nw) (gnw : nw < xz X) (hsh : 16 ≤ sh) (gsh : sh < xz X) (dn : a ≠ nw) (ds : a ≠ sh) (c0_0 : xc X a = 9) (c1_0 : xc X nw = 100) (l1_0 : xl X nw = 3100) (r0_0 : xR X a 0 = some nw) (c2_0 : xc X sh = 100) (l2_0 : xl X sh = 4) (r4_0 : xR X a 4 = some sh) : zAt G miX10_init (zRm (d + 1) 20 10868) (zQ G (zV (iMModelB M X a nw sh) (iXModelB X a)) 20 10868) 81 [some (.ref a), none] [] M X (10, 9424) := by
  have z0 : xz X = xz X + 0 := rfl
  refine j_aload_n (n := 82) dX10_init_81 rfl rfl ?_
  refine j_bipush (n := 84) (v := nI 120) dX10_init_82 rfl (by decide) ?_
  refine j_newi (n := 86) (L := 120) dX10_init_84 rfl (by decide) (by decide) (by decide) (Nat.le_of_ble_eq_true rfl) (Nat.le_of_ble_eq_true rfl) ac_int ?_
  obtain ⟨M1, hM1⟩ : ∃ Y, Y = zs M (xz X) (fun _ => 0) := ⟨_, rfl⟩
  obtain ⟨X1, hX1⟩ : ∃ Y, Y = zNew X 100 120 := ⟨_, rfl⟩
  rw [← hM1, ← hX1]
  have z1 : xz X1 = xz X + 1 := by rw [hX1]; show xz X + 1 = xz X + 1; omega
  have c0_1 : xc X1 (a) = 9 := by rw [hX1]; exact (zNew_co _ _ _ (by omega)).trans c0_0
  have c1_1 : xc X1 (nw) = 100 := by rw [hX1]; exact (zNew_co _ _ _ (by omega)).trans c1_0
  have l1_1 : xl X1 (nw) = 3100 := by rw [hX1]; exact (zNew_lo _ _ _ (by omega)).trans l1_0
  have c2_1 : xc X1 (sh) = 100 := by rw [hX1]; exact (zNew_co _ _ _ (by omega)).trans c2_0
  have l2_1 : xl X1 (sh) = 4 := by rw [hX1]; exact (zNew_lo _ _ _ (by omega)).trans l2_0
  have r0_1 : xR X1 a 0 = some (nw) := by rw [hX1]; exact (congrFun (zNew_ro _ _ _ (by omega)) _).trans r0_0
  have r4_1 : xR X1 a 4 = some (sh) := by rw [hX1]; exact (congrFun (zNew_ro _ _ _ (by omega)) _).trans r4_0
  have c3_1 : xc X1 (xz X) = 100 := by rw [hX1]; exact zNew_c _ _ _
  have l3_1 : xl X1 (xz X) = 120 := by rw [hX1]; exact zNew_l _ _ _
  refine j_putR (n := 89) (k := 11) (b := xz X) dX10_init_86 rfl pX10_40 (fun _ => rfl) (.inr ⟨_, rfl⟩) c0_1 (by omega) (by omega) ?_
  obtain ⟨X2, hX2⟩ : ∃ Y, Y = zpu X1 a 11 (xz X) := ⟨_, rfl⟩
  obtain ⟨M2, hM2⟩ : ∃ Y, Y = M1 := ⟨_, rfl⟩
  rw [← hX2, ← hM2]
  have z2 : xz X2 = xz X + 1 := by rw [hX2]; show xz X1 + 0 = xz X + 1; omega
  have c0_2 : xc X2 (a) = 9 := by rw [hX2]; exact c0_1
  have c1_2 : xc X2 (nw) = 100 := by rw [hX2]; exact c1_1
  have l1_2 : xl X2 (nw) = 3100 := by rw [hX2]; exact l1_1
  have c2_2 : xc X2 (sh) = 100 := by rw [hX2]; exact c2_1
  have l2_2 : xl X2 (sh) = 4 := by rw [hX2]; exact l2_1
  have r0_2 : xR X2 a 0 = some (nw) := by rw [hX2]; exact (zpu_nk _ _ _ (by decide)).trans r0_1
  have r4_2 : xR X2 a 4 = some (sh) := by rw [hX2]; exact (zpu_nk _ _ _ (by decide)).trans r4_1
  refine j_aload_n (n := 90) dX10_init_89 rfl rfl ?_
  refine j_sipush (n := 93) (v := nI 729) dX10_init_90 rfl (by decide) ?_
  refine j_newi (n := 95) (L := 729) dX10_init_93 rfl (by decide) (by decide) (by decide) (Nat.le_of_ble_eq_true rfl) (Nat.le_of_ble_eq_true rfl) ac_int ?_
  rw [show xz X2 = xz X + 1 by omega]
  obtain ⟨M3, hM3⟩ : ∃ Y, Y = zs M2 (xz X + 1) (fun _ => 0) := ⟨_, rfl⟩
  obtain ⟨X3, hX3⟩ : ∃ Y, Y = zNew X2 100 729 := ⟨_, rfl⟩
  rw [← hM3, ← hX3]
  have z3 : xz X3 = xz X + 2 := by rw [hX3]; show xz X2 + 1 = xz X + 2; omega
  have c0_3 : xc X3 (a) = 9 := by rw [hX3]; exact (zNew_co _ _ _ (by omega)).trans c0_2
  have c1_3 : xc X3 (nw) = 100 := by rw [hX3]; exact (zNew_co _ _ _ (by omega)).trans c1_2
  have l1_3 : xl X3 (nw) = 3100 := by rw [hX3]; exact (zNew_lo _ _ _ (by omega)).trans l1_2
  have c2_3 : xc X3 (sh) = 100 := by rw [hX3]; exact (zNew_co _ _ _ (by omega)).trans c2_2
  have l2_3 : xl X3 (sh) = 4 := by rw [hX3]; exact (zNew_lo _ _ _ (by omega)).trans l2_2
  have r0_3 : xR X3 a 0 = some (nw) := by rw [hX3]; exact (congrFun (zNew_ro _ _ _ (by omega)) _).trans r0_2
  have r4_3 : xR X3 a 4 = some (sh) := by rw [hX3]; exact (congrFun (zNew_ro _ _ _ (by omega)) _).trans r4_2
  clear z1 c0_1 c1_1 c2_1 l1_1 l2_1 r0_1 r4_1 c3_1 l3_1
  have c3_3 : xc X3 (xz X + 1) = 100 := by rw [hX3]; rw [show xz X + 1 = xz X2 by omega]; exact zNew_c _ _ _
  have l3_3 : xl X3 (xz X + 1) = 729 := by rw [hX3]; rw [show xz X + 1 = xz X2 by omega]; exact zNew_l _ _ _
  refine j_putR (n := 98) (k := 12) (b := xz X + 1) dX10_init_95 rfl pX10_43 (fun _ => rfl) (.inr ⟨_, rfl⟩) c0_3 (by omega) (by omega) ?_
  obtain ⟨X4, hX4⟩ : ∃ Y, Y = zpu X3 a 12 (xz X + 1) := ⟨_, rfl⟩
  obtain ⟨M4, hM4⟩ : ∃ Y, Y = M3 := ⟨_, rfl⟩
  rw [← hX4, ← hM4]
  have z4 : xz X4 = xz X + 2 := by rw [hX4]; show xz X3 + 0 = xz X + 2; omega
  have c0_4 : xc X4 (a) = 9 := by rw [hX4]; exact c0_3
  have c1_4 : xc X4 (nw) = 100 := by rw [hX4]; exact c1_3
  have l1_4 : xl X4 (nw) = 3100 := by rw [hX4]; exact l1_3
  have c2_4 : xc X4 (sh) = 100 := by rw [hX4]; exact c2_3
  have l2_4 : xl X4 (sh) = 4 := by rw [hX4]; exact l2_3
  have r0_4 : xR X4 a 0 = some (nw) := by rw [hX4]; exact (zpu_nk _ _ _ (by decide)).trans r0_3
  have r4_4 : xR X4 a 4 = some (sh) := by rw [hX4]; exact (zpu_nk _ _ _ (by decide)).trans r4_3
  clear z2 c0_2 c1_2 c2_2 l1_2 l2_2 r0_2 r4_2
  refine j_aload_n (n := 99) dX10_init_98 rfl rfl ?_
  refine j_bipush (n := 101) (v := nI 27) dX10_init_99 rfl (by decide) ?_
  refine j_newi (n := 103) (L := 27) dX10_init_101 rfl (by decide) (by decide) (by decide) (Nat.le_of_ble_eq_true rfl) (Nat.le_of_ble_eq_true rfl) ac_int ?_
  rw [show xz X4 = xz X + 2 by omega]
  obtain ⟨M5, hM5⟩ : ∃ Y, Y = zs M4 (xz X + 2) (fun _ => 0) := ⟨_, rfl⟩
  obtain ⟨X5, hX5⟩ : ∃ Y, Y = zNew X4 100 27 := ⟨_, rfl⟩
  rw [← hM5, ← hX5]
  have z5 : xz X5 = xz X + 3 := by rw [hX5]; show xz X4 + 1 = xz X + 3; omega
  have c0_5 : xc X5 (a) = 9 := by rw [hX5]; exact (zNew_co _ _ _ (by omega)).trans c0_4
  have c1_5 : xc X5 (nw) = 100 := by rw [hX5]; exact (zNew_co _ _ _ (by omega)).trans c1_4
  have l1_5 : xl X5 (nw) = 3100 := by rw [hX5]; exact (zNew_lo _ _ _ (by omega)).trans l1_4
  have c2_5 : xc X5 (sh) = 100 := by rw [hX5]; exact (zNew_co _ _ _ (by omega)).trans c2_4
  have l2_5 : xl X5 (sh) = 4 := by rw [hX5]; exact (zNew_lo _ _ _ (by omega)).trans l2_4
  have r0_5 : xR X5 a 0 = some (nw) := by rw [hX5]; exact (congrFun (zNew_ro _ _ _ (by omega)) _).trans r0_4
  have r4_5 : xR X5 a 4 = some (sh) := by rw [hX5]; exact (congrFun (zNew_ro _ _ _ (by omega)) _).trans r4_4
  clear z3 c0_3 c1_3 c2_3 l1_3 l2_3 r0_3 r4_3 c3_3 l3_3
  have c3_5 : xc X5 (xz X + 2) = 100 := by rw [hX5]; rw [show xz X + 2 = xz X4 by omega]; exact zNew_c _ _ _
  have l3_5 : xl X5 (xz X + 2) = 27 := by rw [hX5]; rw [show xz X + 2 = xz X4 by omega]; exact zNew_l _ _ _
  refine j_putR (n := 106) (k := 13) (b := xz X + 2) dX10_init_103 rfl pX10_46 (fun _ => rfl) (.inr ⟨_, rfl⟩) c0_5 (by omega) (by omega) ?_
  obtain ⟨X6, hX6⟩ : ∃ Y, Y = zpu X5 a 13 (xz X + 2) := ⟨_, rfl⟩
  obtain ⟨M6, hM6⟩ : ∃ Y, Y = M5 := ⟨_, rfl⟩
  rw [← hX6, ← hM6]
  have z6 : xz X6 = xz X + 3 := by rw [hX6]; show xz X5 + 0 = xz X + 3; omega
  have c0_6 : xc X6 (a) = 9 := by rw [hX6]; exact c0_5
  have c1_6 : xc X6 (nw) = 100 := by rw [hX6]; exact c1_5
  have l1_6 : xl X6 (nw) = 3100 := by rw [hX6]; exact l1_5
  have c2_6 : xc X6 (sh) = 100 := by rw [hX6]; exact c2_5
  have l2_6 : xl X6 (sh) = 4 := by rw [hX6]; exact l2_5
  have r0_6 : xR X6 a 0 = some (nw) := by rw [hX6]; exact (zpu_nk _ _ _ (by decide)).trans r0_5
  have r4_6 : xR X6 a 4 = some (sh) := by rw [hX6]; exact (zpu_nk _ _ _ (by decide)).trans r4_5
  clear z4 c0_4 c1_4 c2_4 l1_4 l2_4 r0_4 r4_4
  refine j_aload_n (n := 107) dX10_init_106 rfl rfl ?_
  refine j_bipush (n := 109) (v := nI 100) dX10_init_107 rfl (by decide) ?_
  refine j_newi (n := 111) (L := 100) dX10_init_109 rfl (by decide) (by decide) (by decide) (Nat.le_of_ble_eq_true rfl) (Nat.le_of_ble_eq_true rfl) ac_int ?_
  rw [show xz X6 = xz X + 3 by omega]
  obtain ⟨M7, hM7⟩ : ∃ Y, Y = zs M6 (xz X + 3) (fun _ => 0) := ⟨_, rfl⟩
  obtain ⟨X7, hX7⟩ : ∃ Y, Y = zNew X6 100 100 := ⟨_, rfl⟩
  rw [← hM7, ← hX7]
  have z7 : xz X7 = xz X + 4 := by rw [hX7]; show xz X6 + 1 = xz X + 4; omega
  have c0_7 : xc X7 (a) = 9 := by rw [hX7]; exact (zNew_co _ _ _ (by omega)).trans c0_6
  have c1_7 : xc X7 (nw) = 100 := by rw [hX7]; exact (zNew_co _ _ _ (by omega)).trans c1_6
  have l1_7 : xl X7 (nw) = 3100 := by rw [hX7]; exact (zNew_lo _ _ _ (by omega)).trans l1_6
  have c2_7 : xc X7 (sh) = 100 := by rw [hX7]; exact (zNew_co _ _ _ (by omega)).trans c2_6
  have l2_7 : xl X7 (sh) = 4 := by rw [hX7]; exact (zNew_lo _ _ _ (by omega)).trans l2_6
  have r0_7 : xR X7 a 0 = some (nw) := by rw [hX7]; exact (congrFun (zNew_ro _ _ _ (by omega)) _).trans r0_6
  have r4_7 : xR X7 a 4 = some (sh) := by rw [hX7]; exact (congrFun (zNew_ro _ _ _ (by omega)) _).trans r4_6
  clear z5 c0_5 c1_5 c2_5 l1_5 l2_5 r0_5 r4_5 c3_5 l3_5
  have c3_7 : xc X7 (xz X + 3) = 100 := by rw [hX7]; rw [show xz X + 3 = xz X6 by omega]; exact zNew_c _ _ _
  have l3_7 : xl X7 (xz X + 3) = 100 := by rw [hX7]; rw [show xz X + 3 = xz X6 by omega]; exact zNew_l _ _ _
  refine j_putR (n := 114) (k := 14) (b := xz X + 3) dX10_init_111 rfl pX10_49 (fun _ => rfl) (.inr ⟨_, rfl⟩) c0_7 (by omega) (by omega) ?_
  obtain ⟨X8, hX8⟩ : ∃ Y, Y = zpu X7 a 14 (xz X + 3) := ⟨_, rfl⟩
  obtain ⟨M8, hM8⟩ : ∃ Y, Y = M7 := ⟨_, rfl⟩
  rw [← hX8, ← hM8]
  have z8 : xz X8 = xz X + 4 := by rw [hX8]; show xz X7 + 0 = xz X + 4; omega
  have c0_8 : xc X8 (a) = 9 := by rw [hX8]; exact c0_7
  have c1_8 : xc X8 (nw) = 100 := by rw [hX8]; exact c1_7
  have l1_8 : xl X8 (nw) = 3100 := by rw [hX8]; exact l1_7
  have c2_8 : xc X8 (sh) = 100 := by rw [hX8]; exact c2_7
  have l2_8 : xl X8 (sh) = 4 := by rw [hX8]; exact l2_7
  have r0_8 : xR X8 a 0 = some (nw) := by rw [hX8]; exact (zpu_nk _ _ _ (by decide)).trans r0_7
  have r4_8 : xR X8 a 4 = some (sh) := by rw [hX8]; exact (zpu_nk _ _ _ (by decide)).trans r4_7
  clear z6 c0_6 c1_6 c2_6 l1_6 l2_6 r0_6 r4_6
  refine j_aload_n (n := 115) dX10_init_114 rfl rfl ?_
  refine j_bipush (n := 117) (v := nI 96) dX10_init_115 rfl (by decide) ?_
  refine j_newi (n := 119) (L := 96) dX10_init_117 rfl (by decide) (by decide) (by decide) (Nat.le_of_ble_eq_true rfl) (Nat.le_of_ble_eq_true rfl) ac_int ?_
  rw [show xz X8 = xz X + 4 by omega]
  obtain ⟨M9, hM9⟩ : ∃ Y, Y = zs M8 (xz X + 4) (fun _ => 0) := ⟨_, rfl⟩
  obtain ⟨X9, hX9⟩ : ∃ Y, Y = zNew X8 100 96 := ⟨_, rfl⟩
  rw [← hM9, ← hX9]
  have z9 : xz X9 = xz X + 5 := by rw [hX9]; show xz X8 + 1 = xz X + 5; omega
  have c0_9 : xc X9 (a) = 9 := by rw [hX9]; exact (zNew_co _ _ _ (by omega)).trans c0_8
  have c1_9 : xc X9 (nw) = 100 := by rw [hX9]; exact (zNew_co _ _ _ (by omega)).trans c1_8
  have l1_9 : xl X9 (nw) = 3100 := by rw [hX9]; exact (zNew_lo _ _ _ (by omega)).trans l1_8
  have c2_9 : xc X9 (sh) = 100 := by rw [hX9]; exact (zNew_co _ _ _ (by omega)).trans c2_8
  have l2_9 : xl X9 (sh) = 4 := by rw [hX9]; exact (zNew_lo _ _ _ (by omega)).trans l2_8
  have r0_9 : xR X9 a 0 = some (nw) := by rw [hX9]; exact (congrFun (zNew_ro _ _ _ (by omega)) _).trans r0_8
  have r4_9 : xR X9 a 4 = some (sh) := by rw [hX9]; exact (congrFun (zNew_ro _ _ _ (by omega)) _).trans r4_8
  clear z7 c0_7 c1_7 c2_7 l1_7 l2_7 r0_7 r4_7 c3_7 l3_7
  have c3_9 : xc X9 (xz X + 4) = 100 := by rw [hX9]; rw [show xz X + 4 = xz X8 by omega]; exact zNew_c _ _ _
  have l3_9 : xl X9 (xz X + 4) = 96 := by rw [hX9]; rw [show xz X + 4 = xz X8 by omega]; exact zNew_l _ _ _
  refine j_putR (n := 122) (k := 15) (b := xz X + 4) dX10_init_119 rfl pX10_52 (fun _ => rfl) (.inr ⟨_, rfl⟩) c0_9 (by omega) (by omega) ?_
  obtain ⟨X10, hX10⟩ : ∃ Y, Y = zpu X9 a 15 (xz X + 4) := ⟨_, rfl⟩
  obtain ⟨M10, hM10⟩ : ∃ Y, Y = M9 := ⟨_, rfl⟩
  rw [← hX10, ← hM10]
  have z10 : xz X10 = xz X + 5 := by rw [hX10]; show xz X9 + 0 = xz X + 5; omega
  have c0_10 : xc X10 (a) = 9 := by rw [hX10]; exact c0_9
  have c1_10 : xc X10 (nw) = 100 := by rw [hX10]; exact c1_9
  have l1_10 : xl X10 (nw) = 3100 := by rw [hX10]; exact l1_9
  have c2_10 : xc X10 (sh) = 100 := by rw [hX10]; exact c2_9
  have l2_10 : xl X10 (sh) = 4 := by rw [hX10]; exact l2_9
  have r0_10 : xR X10 a 0 = some (nw) := by rw [hX10]; exact (zpu_nk _ _ _ (by decide)).trans r0_9
  have r4_10 : xR X10 a 4 = some (sh) := by rw [hX10]; exact (zpu_nk _ _ _ (by decide)).trans r4_9
  clear z8 c0_8 c1_8 c2_8 l1_8 l2_8 r0_8 r4_8
  refine j_aload_n (n := 123) dX10_init_122 rfl rfl ?_
  refine j_sipush (n := 126) (v := nI 128) dX10_init_123 rfl (by decide) ?_
  refine j_newi (n := 128) (L := 128) dX10_init_126 rfl (by decide) (by decide) (by decide) (Nat.le_of_ble_eq_true rfl) (Nat.le_of_ble_eq_true rfl) ac_int ?_
  rw [show xz X10 = xz X + 5 by omega]
  obtain ⟨M11, hM11⟩ : ∃ Y, Y = zs M10 (xz X + 5) (fun _ => 0) := ⟨_, rfl⟩
  obtain ⟨X11, hX11⟩ : ∃ Y, Y = zNew X10 100 128 := ⟨_, rfl⟩
  rw [← hM11, ← hX11]
  have z11 : xz X11 = xz X + 6 := by rw [hX11]; show xz X10 + 1 = xz X + 6; omega
  have c0_11 : xc X11 (a) = 9 := by rw [hX11]; exact (zNew_co _ _ _ (by omega)).trans c0_10
  have c1_11 : xc X11 (nw) = 100 := by rw [hX11]; exact (zNew_co _ _ _ (by omega)).trans c1_10
  have l1_11 : xl X11 (nw) = 3100 := by rw [hX11]; exact (zNew_lo _ _ _ (by omega)).trans l1_10
  have c2_11 : xc X11 (sh) = 100 := by rw [hX11]; exact (zNew_co _ _ _ (by omega)).trans c2_10
  have l2_11 : xl X11 (sh) = 4 := by rw [hX11]; exact (zNew_lo _ _ _ (by omega)).trans l2_10
  have r0_11 : xR X11 a 0 = some (nw) := by rw [hX11]; exact (congrFun (zNew_ro _ _ _ (by omega)) _).trans r0_10
  have r4_11 : xR X11 a 4 = some (sh) := by rw [hX11]; exact (congrFun (zNew_ro _ _ _ (by omega)) _).trans r4_10
  clear z9 c0_9 c1_9 c2_9 l1_9 l2_9 r0_9 r4_9 c3_9 l3_9
  have c3_11 : xc X11 (xz X + 5) = 100 := by rw [hX11]; rw [show xz X + 5 = xz X10 by omega]; exact zNew_c _ _ _
  have l3_11 : xl X11 (xz X + 5) = 128 := by rw [hX11]; rw [show xz X + 5 = xz X10 by omega]; exact zNew_l _ _ _
  refine j_putR (n := 131) (k := 27) (b := xz X + 5) dX10_init_128 rfl pX10_55 (fun _ => rfl) (.inr ⟨_, rfl⟩) c0_11 (by omega) (by omega) ?_
  obtain ⟨X12, hX12⟩ : ∃ Y, Y = zpu X11 a 27 (xz X + 5) := ⟨_, rfl⟩
  obtain ⟨M12, hM12⟩ : ∃ Y, Y = M11 := ⟨_, rfl⟩
  rw [← hX12, ← hM12]
  have z12 : xz X12 = xz X + 6 := by rw [hX12]; show xz X11 + 0 = xz X + 6; omega
  have c0_12 : xc X12 (a) = 9 := by rw [hX12]; exact c0_11
  have c1_12 : xc X12 (nw) = 100 := by rw [hX12]; exact c1_11
  have l1_12 : xl X12 (nw) = 3100 := by rw [hX12]; exact l1_11
  have c2_12 : xc X12 (sh) = 100 := by rw [hX12]; exact c2_11
  have l2_12 : xl X12 (sh) = 4 := by rw [hX12]; exact l2_11
  have r0_12 : xR X12 a 0 = some (nw) := by rw [hX12]; exact (zpu_nk _ _ _ (by decide)).trans r0_11
  have r4_12 : xR X12 a 4 = some (sh) := by rw [hX12]; exact (zpu_nk _ _ _ (by decide)).trans r4_11
  clear z10 c0_10 c1_10 c2_10 l1_10 l2_10 r0_10 r4_10
  refine j_aload_n (n := 132) dX10_init_131 rfl rfl ?_
  refine j_bipush (n := 134) (v := nI 100) dX10_init_132 rfl (by decide) ?_
  refine j_newi (n := 136) (L := 100) dX10_init_134 rfl (by decide) (by decide) (by decide) (Nat.le_of_ble_eq_true rfl) (Nat.le_of_ble_eq_true rfl) ac_int ?_
  rw [show xz X12 = xz X + 6 by omega]
  obtain ⟨M13, hM13⟩ : ∃ Y, Y = zs M12 (xz X + 6) (fun _ => 0) := ⟨_, rfl⟩
  obtain ⟨X13, hX13⟩ : ∃ Y, Y = zNew X12 100 100 := ⟨_, rfl⟩
  rw [← hM13, ← hX13]
  have z13 : xz X13 = xz X + 7 := by rw [hX13]; show xz X12 + 1 = xz X + 7; omega
  have c0_13 : xc X13 (a) = 9 := by rw [hX13]; exact (zNew_co _ _ _ (by omega)).trans c0_12
  have c1_13 : xc X13 (nw) = 100 := by rw [hX13]; exact (zNew_co _ _ _ (by omega)).trans c1_12
  have l1_13 : xl X13 (nw) = 3100 := by rw [hX13]; exact (zNew_lo _ _ _ (by omega)).trans l1_12
  have c2_13 : xc X13 (sh) = 100 := by rw [hX13]; exact (zNew_co _ _ _ (by omega)).trans c2_12
  have l2_13 : xl X13 (sh) = 4 := by rw [hX13]; exact (zNew_lo _ _ _ (by omega)).trans l2_12
  have r0_13 : xR X13 a 0 = some (nw) := by rw [hX13]; exact (congrFun (zNew_ro _ _ _ (by omega)) _).trans r0_12
  have r4_13 : xR X13 a 4 = some (sh) := by rw [hX13]; exact (congrFun (zNew_ro _ _ _ (by omega)) _).trans r4_12
  clear z11 c0_11 c1_11 c2_11 l1_11 l2_11 r0_11 r4_11 c3_11 l3_11
  have c3_13 : xc X13 (xz X + 6) = 100 := by rw [hX13]; rw [show xz X + 6 = xz X12 by omega]; exact zNew_c _ _ _
  have l3_13 : xl X13 (xz X + 6) = 100 := by rw [hX13]; rw [show xz X + 6 = xz X12 by omega]; exact zNew_l _ _ _
  refine j_putR (n := 139) (k := 28) (b := xz X + 6) dX10_init_136 rfl pX10_58 (fun _ => rfl) (.inr ⟨_, rfl⟩) c0_13 (by omega) (by omega) ?_
  obtain ⟨X14, hX14⟩ : ∃ Y, Y = zpu X13 a 28 (xz X + 6) := ⟨_, rfl⟩
  obtain ⟨M14, hM14⟩ : ∃ Y, Y = M13 := ⟨_, rfl⟩
  rw [← hX14, ← hM14]
  have z14 : xz X14 = xz X + 7 := by rw [hX14]; show xz X13 + 0 = xz X + 7; omega
  have c0_14 : xc X14 (a) = 9 := by rw [hX14]; exact c0_13
  have c1_14 : xc X14 (nw) = 100 := by rw [hX14]; exact c1_13
  have l1_14 : xl X14 (nw) = 3100 := by rw [hX14]; exact l1_13
  have c2_14 : xc X14 (sh) = 100 := by rw [hX14]; exact c2_13
  have l2_14 : xl X14 (sh) = 4 := by rw [hX14]; exact l2_13
  have r0_14 : xR X14 a 0 = some (nw) := by rw [hX14]; exact (zpu_nk _ _ _ (by decide)).trans r0_13
  have r4_14 : xR X14 a 4 = some (sh) := by rw [hX14]; exact (zpu_nk _ _ _ (by decide)).trans r4_13
  clear z12 c0_12 c1_12 c2_12 l1_12 l2_12 r0_12 r4_12
  refine j_aload_n (n := 140) dX10_init_139 rfl rfl ?_
  refine j_bipush (n := 142) (v := nI 24) dX10_init_140 rfl (by decide) ?_
  refine j_newi (n := 144) (L := 24) dX10_init_142 rfl (by decide) (by decide) (by decide) (Nat.le_of_ble_eq_true rfl) (Nat.le_of_ble_eq_true rfl) ac_int ?_
  rw [show xz X14 = xz X + 7 by omega]
  obtain ⟨M15, hM15⟩ : ∃ Y, Y = zs M14 (xz X + 7) (fun _ => 0) := ⟨_, rfl⟩
  obtain ⟨X15, hX15⟩ : ∃ Y, Y = zNew X14 100 24 := ⟨_, rfl⟩
  rw [← hM15, ← hX15]
  have z15 : xz X15 = xz X + 8 := by rw [hX15]; show xz X14 + 1 = xz X + 8; omega
  have c0_15 : xc X15 (a) = 9 := by rw [hX15]; exact (zNew_co _ _ _ (by omega)).trans c0_14
  have c1_15 : xc X15 (nw) = 100 := by rw [hX15]; exact (zNew_co _ _ _ (by omega)).trans c1_14
  have l1_15 : xl X15 (nw) = 3100 := by rw [hX15]; exact (zNew_lo _ _ _ (by omega)).trans l1_14
  have c2_15 : xc X15 (sh) = 100 := by rw [hX15]; exact (zNew_co _ _ _ (by omega)).trans c2_14
  have l2_15 : xl X15 (sh) = 4 := by rw [hX15]; exact (zNew_lo _ _ _ (by omega)).trans l2_14
  have r0_15 : xR X15 a 0 = some (nw) := by rw [hX15]; exact (congrFun (zNew_ro _ _ _ (by omega)) _).trans r0_14
  have r4_15 : xR X15 a 4 = some (sh) := by rw [hX15]; exact (congrFun (zNew_ro _ _ _ (by omega)) _).trans r4_14
  clear z13 c0_13 c1_13 c2_13 l1_13 l2_13 r0_13 r4_13 c3_13 l3_13
  have c3_15 : xc X15 (xz X + 7) = 100 := by rw [hX15]; rw [show xz X + 7 = xz X14 by omega]; exact zNew_c _ _ _
  have l3_15 : xl X15 (xz X + 7) = 24 := by rw [hX15]; rw [show xz X + 7 = xz X14 by omega]; exact zNew_l _ _ _
  refine j_putR (n := 147) (k := 29) (b := xz X + 7) dX10_init_144 rfl pX10_61 (fun _ => rfl) (.inr ⟨_, rfl⟩) c0_15 (by omega) (by omega) ?_
  obtain ⟨X16, hX16⟩ : ∃ Y, Y = zpu X15 a 29 (xz X + 7) := ⟨_, rfl⟩
  obtain ⟨M16, hM16⟩ : ∃ Y, Y = M15 := ⟨_, rfl⟩
  rw [← hX16, ← hM16]
  have z16 : xz X16 = xz X + 8 := by rw [hX16]; show xz X15 + 0 = xz X + 8; omega
  have c0_16 : xc X16 (a) = 9 := by rw [hX16]; exact c0_15
  have c1_16 : xc X16 (nw) = 100 := by rw [hX16]; exact c1_15
  have l1_16 : xl X16 (nw) = 3100 := by rw [hX16]; exact l1_15
  have c2_16 : xc X16 (sh) = 100 := by rw [hX16]; exact c2_15
  have l2_16 : xl X16 (sh) = 4 := by rw [hX16]; exact l2_15
  have r0_16 : xR X16 a 0 = some (nw) := by rw [hX16]; exact (zpu_nk _ _ _ (by decide)).trans r0_15
  have r4_16 : xR X16 a 4 = some (sh) := by rw [hX16]; exact (zpu_nk _ _ _ (by decide)).trans r4_15
  clear z14 c0_14 c1_14 c2_14 l1_14 l2_14 r0_14 r4_14
  refine j_aload_n (n := 148) dX10_init_147 rfl rfl ?_
  refine j_bipush (n := 150) (v := nI 60) dX10_init_148 rfl (by decide) ?_
  refine j_newi (n := 152) (L := 60) dX10_init_150 rfl (by decide) (by decide) (by decide) (Nat.le_of_ble_eq_true rfl) (Nat.le_of_ble_eq_true rfl) ac_int ?_
  rw [show xz X16 = xz X + 8 by omega]
  obtain ⟨M17, hM17⟩ : ∃ Y, Y = zs M16 (xz X + 8) (fun _ => 0) := ⟨_, rfl⟩
  obtain ⟨X17, hX17⟩ : ∃ Y, Y = zNew X16 100 60 := ⟨_, rfl⟩
  rw [← hM17, ← hX17]
  have z17 : xz X17 = xz X + 9 := by rw [hX17]; show xz X16 + 1 = xz X + 9; omega
  have c0_17 : xc X17 (a) = 9 := by rw [hX17]; exact (zNew_co _ _ _ (by omega)).trans c0_16
  have c1_17 : xc X17 (nw) = 100 := by rw [hX17]; exact (zNew_co _ _ _ (by omega)).trans c1_16
  have l1_17 : xl X17 (nw) = 3100 := by rw [hX17]; exact (zNew_lo _ _ _ (by omega)).trans l1_16
  have c2_17 : xc X17 (sh) = 100 := by rw [hX17]; exact (zNew_co _ _ _ (by omega)).trans c2_16
  have l2_17 : xl X17 (sh) = 4 := by rw [hX17]; exact (zNew_lo _ _ _ (by omega)).trans l2_16
  have r0_17 : xR X17 a 0 = some (nw) := by rw [hX17]; exact (congrFun (zNew_ro _ _ _ (by omega)) _).trans r0_16
  have r4_17 : xR X17 a 4 = some (sh) := by rw [hX17]; exact (congrFun (zNew_ro _ _ _ (by omega)) _).trans r4_16
  clear z15 c0_15 c1_15 c2_15 l1_15 l2_15 r0_15 r4_15 c3_15 l3_15
  have c3_17 : xc X17 (xz X + 8) = 100 := by rw [hX17]; rw [show xz X + 8 = xz X16 by omega]; exact zNew_c _ _ _
  have l3_17 : xl X17 (xz X + 8) = 60 := by rw [hX17]; rw [show xz X + 8 = xz X16 by omega]; exact zNew_l _ _ _
  refine j_putR (n := 155) (k := 30) (b := xz X + 8) dX10_init_152 rfl pX10_64 (fun _ => rfl) (.inr ⟨_, rfl⟩) c0_17 (by omega) (by omega) ?_
  obtain ⟨X18, hX18⟩ : ∃ Y, Y = zpu X17 a 30 (xz X + 8) := ⟨_, rfl⟩
  obtain ⟨M18, hM18⟩ : ∃ Y, Y = M17 := ⟨_, rfl⟩
  rw [← hX18, ← hM18]
  have z18 : xz X18 = xz X + 9 := by rw [hX18]; show xz X17 + 0 = xz X + 9; omega
  have c0_18 : xc X18 (a) = 9 := by rw [hX18]; exact c0_17
  have c1_18 : xc X18 (nw) = 100 := by rw [hX18]; exact c1_17
  have l1_18 : xl X18 (nw) = 3100 := by rw [hX18]; exact l1_17
  have c2_18 : xc X18 (sh) = 100 := by rw [hX18]; exact c2_17
  have l2_18 : xl X18 (sh) = 4 := by rw [hX18]; exact l2_17
  have r0_18 : xR X18 a 0 = some (nw) := by rw [hX18]; exact (zpu_nk _ _ _ (by decide)).trans r0_17
  have r4_18 : xR X18 a 4 = some (sh) := by rw [hX18]; exact (zpu_nk _ _ _ (by decide)).trans r4_17
  clear z16 c0_16 c1_16 c2_16 l1_16 l2_16 r0_16 r4_16
  refine j_aload_n (n := 156) dX10_init_155 rfl rfl ?_
  refine j_bipush (n := 158) (v := nI 60) dX10_init_156 rfl (by decide) ?_
  refine j_newi (n := 160) (L := 60) dX10_init_158 rfl (by decide) (by decide) (by decide) (Nat.le_of_ble_eq_true rfl) (Nat.le_of_ble_eq_true rfl) ac_int ?_
  rw [show xz X18 = xz X + 9 by omega]
  obtain ⟨M19, hM19⟩ : ∃ Y, Y = zs M18 (xz X + 9) (fun _ => 0) := ⟨_, rfl⟩
  obtain ⟨X19, hX19⟩ : ∃ Y, Y = zNew X18 100 60 := ⟨_, rfl⟩
  rw [← hM19, ← hX19]
  have z19 : xz X19 = xz X + 10 := by rw [hX19]; show xz X18 + 1 = xz X + 10; omega
  have c0_19 : xc X19 (a) = 9 := by rw [hX19]; exact (zNew_co _ _ _ (by omega)).trans c0_18
  have c1_19 : xc X19 (nw) = 100 := by rw [hX19]; exact (zNew_co _ _ _ (by omega)).trans c1_18
  have l1_19 : xl X19 (nw) = 3100 := by rw [hX19]; exact (zNew_lo _ _ _ (by omega)).trans l1_18
  have c2_19 : xc X19 (sh) = 100 := by rw [hX19]; exact (zNew_co _ _ _ (by omega)).trans c2_18
  have l2_19 : xl X19 (sh) = 4 := by rw [hX19]; exact (zNew_lo _ _ _ (by omega)).trans l2_18
  have r0_19 : xR X19 a 0 = some (nw) := by rw [hX19]; exact (congrFun (zNew_ro _ _ _ (by omega)) _).trans r0_18
  have r4_19 : xR X19 a 4 = some (sh) := by rw [hX19]; exact (congrFun (zNew_ro _ _ _ (by omega)) _).trans r4_18
  clear z17 c0_17 c1_17 c2_17 l1_17 l2_17 r0_17 r4_17 c3_17 l3_17
  have c3_19 : xc X19 (xz X + 9) = 100 := by rw [hX19]; rw [show xz X + 9 = xz X18 by omega]; exact zNew_c _ _ _
  have l3_19 : xl X19 (xz X + 9) = 60 := by rw [hX19]; rw [show xz X + 9 = xz X18 by omega]; exact zNew_l _ _ _
  refine j_putR (n := 163) (k := 32) (b := xz X + 9) dX10_init_160 rfl pX10_67 (fun _ => rfl) (.inr ⟨_, rfl⟩) c0_19 (by omega) (by omega) ?_
  obtain ⟨X20, hX20⟩ : ∃ Y, Y = zpu X19 a 32 (xz X + 9) := ⟨_, rfl⟩
  obtain ⟨M20, hM20⟩ : ∃ Y, Y = M19 := ⟨_, rfl⟩
  rw [← hX20, ← hM20]
  have z20 : xz X20 = xz X + 10 := by rw [hX20]; show xz X19 + 0 = xz X + 10; omega
  have c0_20 : xc X20 (a) = 9 := by rw [hX20]; exact c0_19
  have c1_20 : xc X20 (nw) = 100 := by rw [hX20]; exact c1_19
  have l1_20 : xl X20 (nw) = 3100 := by rw [hX20]; exact l1_19
  have c2_20 : xc X20 (sh) = 100 := by rw [hX20]; exact c2_19
  have l2_20 : xl X20 (sh) = 4 := by rw [hX20]; exact l2_19
  have r0_20 : xR X20 a 0 = some (nw) := by rw [hX20]; exact (zpu_nk _ _ _ (by decide)).trans r0_19
  have r4_20 : xR X20 a 4 = some (sh) := by rw [hX20]; exact (zpu_nk _ _ _ (by decide)).trans r4_19
  clear z18 c0_18 c1_18 c2_18 l1_18 l2_18 r0_18 r4_18
  refine j_aload_n (n := 164) dX10_init_163 rfl rfl ?_
  refine j_getr (n := 167) (k := 0) (b := nw) dX10_init_164 rfl fX10_7 c0_20 (by omega) (by omega) r0_20 ?_
  refine j_bipush (n := 169) (v := nI 9) dX10_init_167 rfl (by decide) ?_
  refine j_iconst (n := 170) (v := nI 1) dX10_init_169 rfl rfl ?_
  refine j_iastW (n := 171) (a := nw) (L := 3100) (i := 9) (x := nI 1) dX10_init_170 rfl c1_20 l1_20 (by decide) (by decide) (by omega) (by omega) ?_
  obtain ⟨M21, hM21⟩ : ∃ Y, Y = zw M20 nw 9 (nI 1) := ⟨_, rfl⟩
  rw [← hM21]
  obtain ⟨X21, hX21⟩ : ∃ Y, Y = X20 := ⟨_, rfl⟩
  rw [← hX21]
  have z21 : xz X21 = xz X + 10 := by rw [hX21]; show xz X20 + 0 = xz X + 10; omega
  have c0_21 : xc X21 (a) = 9 := by rw [hX21]; exact c0_20
  have c1_21 : xc X21 (nw) = 100 := by rw [hX21]; exact c1_20
  have l1_21 : xl X21 (nw) = 3100 := by rw [hX21]; exact l1_20
  have c2_21 : xc X21 (sh) = 100 := by rw [hX21]; exact c2_20
  have l2_21 : xl X21 (sh) = 4 := by rw [hX21]; exact l2_20
  have r0_21 : xR X21 a 0 = some (nw) := by rw [hX21]; exact r0_20
  have r4_21 : xR X21 a 4 = some (sh) := by rw [hX21]; exact r4_20
  clear z19 c0_19 c1_19 c2_19 l1_19 l2_19 r0_19 r4_19 c3_19 l3_19
  refine j_aload_n (n := 172) dX10_init_171 rfl rfl ?_
  refine j_getr (n := 175) (k := 0) (b := nw) dX10_init_172 rfl fX10_7 c0_21 (by omega) (by omega) r0_21 ?_
  refine j_bipush (n := 177) (v := nI 6) dX10_init_175 rfl (by decide) ?_
  refine j_bipush (n := 179) (v := nI 30) dX10_init_177 rfl (by decide) ?_
  refine j_iastW (n := 180) (a := nw) (L := 3100) (i := 6) (x := nI 30) dX10_init_179 rfl c1_21 l1_21 (by decide) (by decide) (by omega) (by omega) ?_
  obtain ⟨M22, hM22⟩ : ∃ Y, Y = zw M21 nw 6 (nI 30) := ⟨_, rfl⟩
  rw [← hM22]
  obtain ⟨X22, hX22⟩ : ∃ Y, Y = X21 := ⟨_, rfl⟩
  rw [← hX22]
  have z22 : xz X22 = xz X + 10 := by rw [hX22]; show xz X21 + 0 = xz X + 10; omega
  have c0_22 : xc X22 (a) = 9 := by rw [hX22]; exact c0_21
  have c1_22 : xc X22 (nw) = 100 := by rw [hX22]; exact c1_21
  have l1_22 : xl X22 (nw) = 3100 := by rw [hX22]; exact l1_21
  have c2_22 : xc X22 (sh) = 100 := by rw [hX22]; exact c2_21
  have l2_22 : xl X22 (sh) = 4 := by rw [hX22]; exact l2_21
  have r0_22 : xR X22 a 0 = some (nw) := by rw [hX22]; exact r0_21
  have r4_22 : xR X22 a 4 = some (sh) := by rw [hX22]; exact r4_21
  clear z20 c0_20 c1_20 c2_20 l1_20 l2_20 r0_20 r4_20
  refine j_aload_n (n := 181) dX10_init_180 rfl rfl ?_
  refine j_getr (n := 184) (k := 0) (b := nw) dX10_init_181 rfl fX10_7 c0_22 (by omega) (by omega) r0_22 ?_
  refine j_bipush (n := 186) (v := nI 7) dX10_init_184 rfl (by decide) ?_
  refine j_bipush (n := 188) (v := nI 10) dX10_init_186 rfl (by decide) ?_
  refine j_iastW (n := 189) (a := nw) (L := 3100) (i := 7) (x := nI 10) dX10_init_188 rfl c1_22 l1_22 (by decide) (by decide) (by omega) (by omega) ?_
  obtain ⟨M23, hM23⟩ : ∃ Y, Y = zw M22 nw 7 (nI 10) := ⟨_, rfl⟩
  rw [← hM23]
  obtain ⟨X23, hX23⟩ : ∃ Y, Y = X22 := ⟨_, rfl⟩
  rw [← hX23]
  have z23 : xz X23 = xz X + 10 := by rw [hX23]; show xz X22 + 0 = xz X + 10; omega
  have c0_23 : xc X23 (a) = 9 := by rw [hX23]; exact c0_22
  have c1_23 : xc X23 (nw) = 100 := by rw [hX23]; exact c1_22
  have l1_23 : xl X23 (nw) = 3100 := by rw [hX23]; exact l1_22
  have c2_23 : xc X23 (sh) = 100 := by rw [hX23]; exact c2_22
  have l2_23 : xl X23 (sh) = 4 := by rw [hX23]; exact l2_22
  have r0_23 : xR X23 a 0 = some (nw) := by rw [hX23]; exact r0_22
  have r4_23 : xR X23 a 4 = some (sh) := by rw [hX23]; exact r4_22
  clear z21 c0_21 c1_21 c2_21 l1_21 l2_21 r0_21 r4_21
  refine j_iconst (n := 190) (v := nI 0) dX10_init_189 rfl rfl ?_
  refine j_istore_n (n := 191) (lv2 := [some (.ref a), some (.int (nI 0))]) dX10_init_190 rfl rfl (by decide) rfl ?_
  refine j_iload_n (n := 192) dX10_init_191 rfl rfl ?_
  refine j_iconst (n := 193) (v := nI 4) dX10_init_192 rfl rfl ?_
  refine j_icmp_geT (n := 196) (tg := 209) dX10_init_193 rfl rfl (i_N (by omega)) (i_N (by omega)) (fun h101 => ?_) (fun h101 => ?_)
  · exact absurd h101 (by decide)
  · refine j_aload_n (n := 197) dX10_init_196 rfl rfl ?_
    refine j_getr (n := 200) (k := 4) (b := sh) dX10_init_197 rfl fX10_19 c0_23 (by omega) (by omega) r4_23 ?_
    refine j_iload_n (n := 201) dX10_init_200 rfl rfl ?_
    refine j_iconst (n := 202) (v := (-1)) dX10_init_201 rfl rfl ?_
    refine j_iastW (n := 203) (a := sh) (L := 4) (i := 0) (x := (-1)) dX10_init_202 rfl c2_23 l2_23 (by decide) (by decide) (by omega) (by omega) ?_
    obtain ⟨M24, hM24⟩ : ∃ Y, Y = zw M23 sh 0 (-1) := ⟨_, rfl⟩
    rw [← hM24]
    obtain ⟨X24, hX24⟩ : ∃ Y, Y = X23 := ⟨_, rfl⟩
    rw [← hX24]
    have z24 : xz X24 = xz X + 10 := by rw [hX24]; show xz X23 + 0 = xz X + 10; omega
    have c0_24 : xc X24 (a) = 9 := by rw [hX24]; exact c0_23
    have c1_24 : xc X24 (nw) = 100 := by rw [hX24]; exact c1_23
    have l1_24 : xl X24 (nw) = 3100 := by rw [hX24]; exact l1_23
    have c2_24 : xc X24 (sh) = 100 := by rw [hX24]; exact c2_23
    have l2_24 : xl X24 (sh) = 4 := by rw [hX24]; exact l2_23
    have r0_24 : xR X24 a 0 = some (nw) := by rw [hX24]; exact r0_23
    have r4_24 : xR X24 a 4 = some (sh) := by rw [hX24]; exact r4_23
    clear z22 c0_22 c1_22 c2_22 l1_22 l2_22 r0_22 r4_22
    refine j_iinc (n := 206) (y := nI 1) (lv2 := [some (.ref a), some (.int (nI 1))]) dX10_init_203 rfl rfl (by decide) rfl (show nI 0 + nI 1 = nI 1 by rw [nI_add]; try (congr 1)) rfl ?_
    refine j_goto (n := 191) dX10_init_206 rfl ?_
    refine j_iload_n (n := 192) dX10_init_191 rfl rfl ?_
    refine j_iconst (n := 193) (v := nI 4) dX10_init_192 rfl rfl ?_
    refine j_icmp_geT (n := 196) (tg := 209) dX10_init_193 rfl rfl (i_N (by omega)) (i_N (by omega)) (fun h102 => ?_) (fun h102 => ?_)
    · exact absurd h102 (by decide)
    · refine j_aload_n (n := 197) dX10_init_196 rfl rfl ?_
      refine j_getr (n := 200) (k := 4) (b := sh) dX10_init_197 rfl fX10_19 c0_24 (by omega) (by omega) r4_24 ?_
      refine j_iload_n (n := 201) dX10_init_200 rfl rfl ?_
      refine j_iconst (n := 202) (v := (-1)) dX10_init_201 rfl rfl ?_
      refine j_iastW (n := 203) (a := sh) (L := 4) (i := 1) (x := (-1)) dX10_init_202 rfl c2_24 l2_24 (by decide) (by decide) (by omega) (by omega) ?_
      obtain ⟨M25, hM25⟩ : ∃ Y, Y = zw M24 sh 1 (-1) := ⟨_, rfl⟩
      rw [← hM25]
      obtain ⟨X25, hX25⟩ : ∃ Y, Y = X24 := ⟨_, rfl⟩
      rw [← hX25]
      have z25 : xz X25 = xz X + 10 := by rw [hX25]; show xz X24 + 0 = xz X + 10; omega
      have c0_25 : xc X25 (a) = 9 := by rw [hX25]; exact c0_24
      have c1_25 : xc X25 (nw) = 100 := by rw [hX25]; exact c1_24
      have l1_25 : xl X25 (nw) = 3100 := by rw [hX25]; exact l1_24
      have c2_25 : xc X25 (sh) = 100 := by rw [hX25]; exact c2_24
      have l2_25 : xl X25 (sh) = 4 := by rw [hX25]; exact l2_24
      have r0_25 : xR X25 a 0 = some (nw) := by rw [hX25]; exact r0_24
      have r4_25 : xR X25 a 4 = some (sh) := by rw [hX25]; exact r4_24
      clear z23 c0_23 c1_23 c2_23 l1_23 l2_23 r0_23 r4_23
      refine j_iinc (n := 206) (y := nI 2) (lv2 := [some (.ref a), some (.int (nI 2))]) dX10_init_203 rfl rfl (by decide) rfl (show nI 1 + nI 1 = nI 2 by rw [nI_add]; try (congr 1)) rfl ?_
      refine j_goto (n := 191) dX10_init_206 rfl ?_
      refine j_iload_n (n := 192) dX10_init_191 rfl rfl ?_
      refine j_iconst (n := 193) (v := nI 4) dX10_init_192 rfl rfl ?_
      refine j_icmp_geT (n := 196) (tg := 209) dX10_init_193 rfl rfl (i_N (by omega)) (i_N (by omega)) (fun h103 => ?_) (fun h103 => ?_)
      · exact absurd h103 (by decide)
      · refine j_aload_n (n := 197) dX10_init_196 rfl rfl ?_
        refine j_getr (n := 200) (k := 4) (b := sh) dX10_init_197 rfl fX10_19 c0_25 (by omega) (by omega) r4_25 ?_
        refine j_iload_n (n := 201) dX10_init_200 rfl rfl ?_
        refine j_iconst (n := 202) (v := (-1)) dX10_init_201 rfl rfl ?_
        refine j_iastW (n := 203) (a := sh) (L := 4) (i := 2) (x := (-1)) dX10_init_202 rfl c2_25 l2_25 (by decide) (by decide) (by omega) (by omega) ?_
        obtain ⟨M26, hM26⟩ : ∃ Y, Y = zw M25 sh 2 (-1) := ⟨_, rfl⟩
        rw [← hM26]
        obtain ⟨X26, hX26⟩ : ∃ Y, Y = X25 := ⟨_, rfl⟩
        rw [← hX26]
        have z26 : xz X26 = xz X + 10 := by rw [hX26]; show xz X25 + 0 = xz X + 10; omega
        have c0_26 : xc X26 (a) = 9 := by rw [hX26]; exact c0_25
        have c1_26 : xc X26 (nw) = 100 := by rw [hX26]; exact c1_25
        have l1_26 : xl X26 (nw) = 3100 := by rw [hX26]; exact l1_25
        have c2_26 : xc X26 (sh) = 100 := by rw [hX26]; exact c2_25
        have l2_26 : xl X26 (sh) = 4 := by rw [hX26]; exact l2_25
        have r0_26 : xR X26 a 0 = some (nw) := by rw [hX26]; exact r0_25
        have r4_26 : xR X26 a 4 = some (sh) := by rw [hX26]; exact r4_25
        clear z24 c0_24 c1_24 c2_24 l1_24 l2_24 r0_24 r4_24
        refine j_iinc (n := 206) (y := nI 3) (lv2 := [some (.ref a), some (.int (nI 3))]) dX10_init_203 rfl rfl (by decide) rfl (show nI 2 + nI 1 = nI 3 by rw [nI_add]; try (congr 1)) rfl ?_
        refine j_goto (n := 191) dX10_init_206 rfl ?_
        refine j_iload_n (n := 192) dX10_init_191 rfl rfl ?_
        refine j_iconst (n := 193) (v := nI 4) dX10_init_192 rfl rfl ?_
        refine j_icmp_geT (n := 196) (tg := 209) dX10_init_193 rfl rfl (i_N (by omega)) (i_N (by omega)) (fun h104 => ?_) (fun h104 => ?_)
        · exact absurd h104 (by decide)
        · refine j_aload_n (n := 197) dX10_init_196 rfl rfl ?_
          refine j_getr (n := 200) (k := 4) (b := sh) dX10_init_197 rfl fX10_19 c0_26 (by omega) (by omega) r4_26 ?_
          refine j_iload_n (n := 201) dX10_init_200 rfl rfl ?_
          refine j_iconst (n := 202) (v := (-1)) dX10_init_201 rfl rfl ?_
          refine j_iastW (n := 203) (a := sh) (L := 4) (i := 3) (x := (-1)) dX10_init_202 rfl c2_26 l2_26 (by decide) (by decide) (by omega) (by omega) ?_
          obtain ⟨M27, hM27⟩ : ∃ Y, Y = zw M26 sh 3 (-1) := ⟨_, rfl⟩
          rw [← hM27]
          obtain ⟨X27, hX27⟩ : ∃ Y, Y = X26 := ⟨_, rfl⟩
          rw [← hX27]
          have z27 : xz X27 = xz X + 10 := by rw [hX27]; show xz X26 + 0 = xz X + 10; omega
          have c0_27 : xc X27 (a) = 9 := by rw [hX27]; exact c0_26
          have c1_27 : xc X27 (nw) = 100 := by rw [hX27]; exact c1_26
          have l1_27 : xl X27 (nw) = 3100 := by rw [hX27]; exact l1_26
          have c2_27 : xc X27 (sh) = 100 := by rw [hX27]; exact c2_26
          have l2_27 : xl X27 (sh) = 4 := by rw [hX27]; exact l2_26
          have r0_27 : xR X27 a 0 = some (nw) := by rw [hX27]; exact r0_26
          have r4_27 : xR X27 a 4 = some (sh) := by rw [hX27]; exact r4_26
          clear z25 c0_25 c1_25 c2_25 l1_25 l2_25 r0_25 r4_25
          refine j_iinc (n := 206) (y := nI 4) (lv2 := [some (.ref a), some (.int (nI 4))]) dX10_init_203 rfl rfl (by decide) rfl (show nI 3 + nI 1 = nI 4 by rw [nI_add]; try (congr 1)) rfl ?_
          refine j_goto (n := 191) dX10_init_206 rfl ?_
          refine j_iload_n (n := 192) dX10_init_191 rfl rfl ?_
          refine j_iconst (n := 193) (v := nI 4) dX10_init_192 rfl rfl ?_
          refine j_icmp_geT (n := 196) (tg := 209) dX10_init_193 rfl rfl (i_N (by omega)) (i_N (by omega)) (fun h105 => ?_) (fun h105 => ?_)
          · exact j_rv dX10_init_209 rfl (Nat.le_of_ble_eq_true rfl) (Nat.le_of_ble_eq_true rfl) (by subst hM1 hX1 hM2 hX2 hM3 hX3 hM4 hX4 hM5 hX5 hM6 hX6 hM7 hX7 hM8 hX8 hM9 hX9 hM10 hX10 hM11 hX11 hM12 hX12 hM13 hX13 hM14 hX14 hM15 hX15 hM16 hX16 hM17 hX17 hM18 hX18 hM19 hX19 hM20 hX20 hM21 hX21 hM22 hX22 hM23 hX23 hM24 hX24 hM25 hX25 hM26 hX26 hM27 hX27; rfl) (by subst hM1 hX1 hM2 hX2 hM3 hX3 hM4 hX4 hM5 hX5 hM6 hX6 hM7 hX7 hM8 hX8 hM9 hX9 hM10 hX10 hM11 hX11 hM12 hX12 hM13 hX13 hM14 hX14 hM15 hX15 hM16 hX16 hM17 hX17 hM18 hX18 hM19 hX19 hM20 hX20 hM21 hX21 hM22 hX22 hM23 hX23 hM24 hX24 hM25 hX25 hM26 hX26 hM27 hX27; rfl)
          · exact absurd h105 (by decide)
def iMModelA (M : zMem) (X : zX) (a : Nat) : zMem := (zs (zs (zs (zs (zs (zs (zs (zs (zs (zs M (xz X) (fun _ => 0)) (xz X + 1) (fun _ => 0)) (xz X + 2) (fun _ => 0)) (xz X + 3) (fun _ => 0)) (xz X + 4) (fun _ => 0)) (xz X + 5) (fun _ => 0)) (xz X + 6) (fun _ => 0)) (xz X + 7) (fun _ => 0)) (xz X + 8) (fun _ => 0)) (xz X + 9) (fun _ => 0))
def iXModelA (X : zX) (a : Nat) : zX := zpu (zNew (zpu (zNew (zpu (zNew (zpu (zNew (zpu (zNew (zpu (zNew (zpu (zNew (zpu (zNew (zpu (zNew (zpu (zNew X 100 3100) a 0 (xz X)) 100 3100) a 1 (xz X + 1)) 100 3100) a 2 (xz X + 2)) 100 4) a 4 (xz X + 3)) 100 4) a 5 (xz X + 4)) 100 96) a 6 (xz X + 5)) 100 5) a 7 (xz X + 6)) 100 5) a 8 (xz X + 7)) 100 5) a 9 (xz X + 8)) 100 5) a 10 (xz X + 9)
def iMModel (M : zMem) (X : zX) (a : Nat) : zMem := iMModelB (iMModelA M X a) (iXModelA X a) a (xz X) (xz X + 3)
def iXModel (X : zX) (a : Nat) : zX := iXModelB (iXModelA X a) a
theorem i_Model (d : Nat) (G : zG) (M : zMem) (X : zX) (a : Nat) (c0_0 : xc X a = 9) (ha : 16 ≤ a) (hax : a < xz X) : zCall G miX10_init (d + 1) [.ref a] (zV (iMModel M X a) (iXModel X a)) M X 20 10868 := by
  refine zCall.of (lv := [some (.ref a), none]) (by decide) (Nat.le_of_ble_eq_true rfl) rfl ?_
  have z0 : xz X = xz X + 0 := rfl
  refine j_aload_n (n := 1) dX10_init_0 rfl rfl ?_
  refine j_oinit (n := 4) dX10_init_1 rfl oX10_1 (by omega) (Nat.le_of_ble_eq_true rfl) ?_
  refine j_aload_n (n := 5) dX10_init_4 rfl rfl ?_
  refine j_sipush (n := 8) (v := nI 3100) dX10_init_5 rfl (by decide) ?_
  refine j_newi (n := 10) (L := 3100) dX10_init_8 rfl (by decide) (by decide) (by decide) (Nat.le_of_ble_eq_true rfl) (Nat.le_of_ble_eq_true rfl) ac_int ?_
  obtain ⟨M1, hM1⟩ : ∃ Y, Y = zs M (xz X) (fun _ => 0) := ⟨_, rfl⟩
  obtain ⟨X1, hX1⟩ : ∃ Y, Y = zNew X 100 3100 := ⟨_, rfl⟩
  rw [← hM1, ← hX1]
  have z1 : xz X1 = xz X + 1 := by rw [hX1]; show xz X + 1 = xz X + 1; omega
  have c0_1 : xc X1 (a) = 9 := by rw [hX1]; exact (zNew_co _ _ _ (by omega)).trans c0_0
  have c1_1 : xc X1 (xz X) = 100 := by rw [hX1]; exact zNew_c _ _ _
  have l1_1 : xl X1 (xz X) = 3100 := by rw [hX1]; exact zNew_l _ _ _
  refine j_putR (n := 13) (k := 0) (b := xz X) dX10_init_10 rfl pX10_7 (fun _ => rfl) (.inr ⟨_, rfl⟩) c0_1 (by omega) (by omega) ?_
  obtain ⟨X2, hX2⟩ : ∃ Y, Y = zpu X1 a 0 (xz X) := ⟨_, rfl⟩
  obtain ⟨M2, hM2⟩ : ∃ Y, Y = M1 := ⟨_, rfl⟩
  rw [← hX2, ← hM2]
  have z2 : xz X2 = xz X + 1 := by rw [hX2]; show xz X1 + 0 = xz X + 1; omega
  have c0_2 : xc X2 (a) = 9 := by rw [hX2]; exact c0_1
  have c1_2 : xc X2 (xz X) = 100 := by rw [hX2]; exact c1_1
  have l1_2 : xl X2 (xz X) = 3100 := by rw [hX2]; exact l1_1
  have r0_2 : xR X2 a 0 = some (xz X) := by rw [hX2]; exact zpu_eq _ _ _ _
  refine j_aload_n (n := 14) dX10_init_13 rfl rfl ?_
  refine j_sipush (n := 17) (v := nI 3100) dX10_init_14 rfl (by decide) ?_
  refine j_newi (n := 19) (L := 3100) dX10_init_17 rfl (by decide) (by decide) (by decide) (Nat.le_of_ble_eq_true rfl) (Nat.le_of_ble_eq_true rfl) ac_int ?_
  rw [show xz X2 = xz X + 1 by omega]
  obtain ⟨M3, hM3⟩ : ∃ Y, Y = zs M2 (xz X + 1) (fun _ => 0) := ⟨_, rfl⟩
  obtain ⟨X3, hX3⟩ : ∃ Y, Y = zNew X2 100 3100 := ⟨_, rfl⟩
  rw [← hM3, ← hX3]
  have z3 : xz X3 = xz X + 2 := by rw [hX3]; show xz X2 + 1 = xz X + 2; omega
  have c0_3 : xc X3 (a) = 9 := by rw [hX3]; exact (zNew_co _ _ _ (by omega)).trans c0_2
  have c1_3 : xc X3 (xz X) = 100 := by rw [hX3]; exact (zNew_co _ _ _ (by omega)).trans c1_2
  have l1_3 : xl X3 (xz X) = 3100 := by rw [hX3]; exact (zNew_lo _ _ _ (by omega)).trans l1_2
  have r0_3 : xR X3 a 0 = some (xz X) := by rw [hX3]; exact (congrFun (zNew_ro _ _ _ (by omega)) _).trans r0_2
  clear z1 c0_1 c1_1 l1_1
  have c2_3 : xc X3 (xz X + 1) = 100 := by rw [hX3]; rw [show xz X + 1 = xz X2 by omega]; exact zNew_c _ _ _
  have l2_3 : xl X3 (xz X + 1) = 3100 := by rw [hX3]; rw [show xz X + 1 = xz X2 by omega]; exact zNew_l _ _ _
  refine j_putR (n := 22) (k := 1) (b := xz X + 1) dX10_init_19 rfl pX10_13 (fun _ => rfl) (.inr ⟨_, rfl⟩) c0_3 (by omega) (by omega) ?_
  obtain ⟨X4, hX4⟩ : ∃ Y, Y = zpu X3 a 1 (xz X + 1) := ⟨_, rfl⟩
  obtain ⟨M4, hM4⟩ : ∃ Y, Y = M3 := ⟨_, rfl⟩
  rw [← hX4, ← hM4]
  have z4 : xz X4 = xz X + 2 := by rw [hX4]; show xz X3 + 0 = xz X + 2; omega
  have c0_4 : xc X4 (a) = 9 := by rw [hX4]; exact c0_3
  have c1_4 : xc X4 (xz X) = 100 := by rw [hX4]; exact c1_3
  have l1_4 : xl X4 (xz X) = 3100 := by rw [hX4]; exact l1_3
  have r0_4 : xR X4 a 0 = some (xz X) := by rw [hX4]; exact (zpu_nk _ _ _ (by decide)).trans r0_3
  clear z2 c0_2 c1_2 l1_2 r0_2
  refine j_aload_n (n := 23) dX10_init_22 rfl rfl ?_
  refine j_sipush (n := 26) (v := nI 3100) dX10_init_23 rfl (by decide) ?_
  refine j_newi (n := 28) (L := 3100) dX10_init_26 rfl (by decide) (by decide) (by decide) (Nat.le_of_ble_eq_true rfl) (Nat.le_of_ble_eq_true rfl) ac_int ?_
  rw [show xz X4 = xz X + 2 by omega]
  obtain ⟨M5, hM5⟩ : ∃ Y, Y = zs M4 (xz X + 2) (fun _ => 0) := ⟨_, rfl⟩
  obtain ⟨X5, hX5⟩ : ∃ Y, Y = zNew X4 100 3100 := ⟨_, rfl⟩
  rw [← hM5, ← hX5]
  have z5 : xz X5 = xz X + 3 := by rw [hX5]; show xz X4 + 1 = xz X + 3; omega
  have c0_5 : xc X5 (a) = 9 := by rw [hX5]; exact (zNew_co _ _ _ (by omega)).trans c0_4
  have c1_5 : xc X5 (xz X) = 100 := by rw [hX5]; exact (zNew_co _ _ _ (by omega)).trans c1_4
  have l1_5 : xl X5 (xz X) = 3100 := by rw [hX5]; exact (zNew_lo _ _ _ (by omega)).trans l1_4
  have r0_5 : xR X5 a 0 = some (xz X) := by rw [hX5]; exact (congrFun (zNew_ro _ _ _ (by omega)) _).trans r0_4
  clear z3 c0_3 c1_3 l1_3 r0_3 c2_3 l2_3
  have c2_5 : xc X5 (xz X + 2) = 100 := by rw [hX5]; rw [show xz X + 2 = xz X4 by omega]; exact zNew_c _ _ _
  have l2_5 : xl X5 (xz X + 2) = 3100 := by rw [hX5]; rw [show xz X + 2 = xz X4 by omega]; exact zNew_l _ _ _
  refine j_putR (n := 31) (k := 2) (b := xz X + 2) dX10_init_28 rfl pX10_16 (fun _ => rfl) (.inr ⟨_, rfl⟩) c0_5 (by omega) (by omega) ?_
  obtain ⟨X6, hX6⟩ : ∃ Y, Y = zpu X5 a 2 (xz X + 2) := ⟨_, rfl⟩
  obtain ⟨M6, hM6⟩ : ∃ Y, Y = M5 := ⟨_, rfl⟩
  rw [← hX6, ← hM6]
  have z6 : xz X6 = xz X + 3 := by rw [hX6]; show xz X5 + 0 = xz X + 3; omega
  have c0_6 : xc X6 (a) = 9 := by rw [hX6]; exact c0_5
  have c1_6 : xc X6 (xz X) = 100 := by rw [hX6]; exact c1_5
  have l1_6 : xl X6 (xz X) = 3100 := by rw [hX6]; exact l1_5
  have r0_6 : xR X6 a 0 = some (xz X) := by rw [hX6]; exact (zpu_nk _ _ _ (by decide)).trans r0_5
  clear z4 c0_4 c1_4 l1_4 r0_4
  refine j_aload_n (n := 32) dX10_init_31 rfl rfl ?_
  refine j_iconst (n := 33) (v := nI 4) dX10_init_32 rfl rfl ?_
  refine j_newi (n := 35) (L := 4) dX10_init_33 rfl (by decide) (by decide) (by decide) (Nat.le_of_ble_eq_true rfl) (Nat.le_of_ble_eq_true rfl) ac_int ?_
  rw [show xz X6 = xz X + 3 by omega]
  obtain ⟨M7, hM7⟩ : ∃ Y, Y = zs M6 (xz X + 3) (fun _ => 0) := ⟨_, rfl⟩
  obtain ⟨X7, hX7⟩ : ∃ Y, Y = zNew X6 100 4 := ⟨_, rfl⟩
  rw [← hM7, ← hX7]
  have z7 : xz X7 = xz X + 4 := by rw [hX7]; show xz X6 + 1 = xz X + 4; omega
  have c0_7 : xc X7 (a) = 9 := by rw [hX7]; exact (zNew_co _ _ _ (by omega)).trans c0_6
  have c1_7 : xc X7 (xz X) = 100 := by rw [hX7]; exact (zNew_co _ _ _ (by omega)).trans c1_6
  have l1_7 : xl X7 (xz X) = 3100 := by rw [hX7]; exact (zNew_lo _ _ _ (by omega)).trans l1_6
  have r0_7 : xR X7 a 0 = some (xz X) := by rw [hX7]; exact (congrFun (zNew_ro _ _ _ (by omega)) _).trans r0_6
  clear z5 c0_5 c1_5 l1_5 r0_5 c2_5 l2_5
  have c2_7 : xc X7 (xz X + 3) = 100 := by rw [hX7]; rw [show xz X + 3 = xz X6 by omega]; exact zNew_c _ _ _
  have l2_7 : xl X7 (xz X + 3) = 4 := by rw [hX7]; rw [show xz X + 3 = xz X6 by omega]; exact zNew_l _ _ _
  refine j_putR (n := 38) (k := 4) (b := xz X + 3) dX10_init_35 rfl pX10_19 (fun _ => rfl) (.inr ⟨_, rfl⟩) c0_7 (by omega) (by omega) ?_
  obtain ⟨X8, hX8⟩ : ∃ Y, Y = zpu X7 a 4 (xz X + 3) := ⟨_, rfl⟩
  obtain ⟨M8, hM8⟩ : ∃ Y, Y = M7 := ⟨_, rfl⟩
  rw [← hX8, ← hM8]
  have z8 : xz X8 = xz X + 4 := by rw [hX8]; show xz X7 + 0 = xz X + 4; omega
  have c0_8 : xc X8 (a) = 9 := by rw [hX8]; exact c0_7
  have c1_8 : xc X8 (xz X) = 100 := by rw [hX8]; exact c1_7
  have l1_8 : xl X8 (xz X) = 3100 := by rw [hX8]; exact l1_7
  have c2_8 : xc X8 (xz X + 3) = 100 := by rw [hX8]; exact c2_7
  have l2_8 : xl X8 (xz X + 3) = 4 := by rw [hX8]; exact l2_7
  have r0_8 : xR X8 a 0 = some (xz X) := by rw [hX8]; exact (zpu_nk _ _ _ (by decide)).trans r0_7
  clear z6 c0_6 c1_6 l1_6 r0_6
  have r4_8 : xR X8 a 4 = some (xz X + 3) := by rw [hX8]; exact zpu_eq _ _ _ _
  refine j_aload_n (n := 39) dX10_init_38 rfl rfl ?_
  refine j_iconst (n := 40) (v := nI 4) dX10_init_39 rfl rfl ?_
  refine j_newi (n := 42) (L := 4) dX10_init_40 rfl (by decide) (by decide) (by decide) (Nat.le_of_ble_eq_true rfl) (Nat.le_of_ble_eq_true rfl) ac_int ?_
  rw [show xz X8 = xz X + 4 by omega]
  obtain ⟨M9, hM9⟩ : ∃ Y, Y = zs M8 (xz X + 4) (fun _ => 0) := ⟨_, rfl⟩
  obtain ⟨X9, hX9⟩ : ∃ Y, Y = zNew X8 100 4 := ⟨_, rfl⟩
  rw [← hM9, ← hX9]
  have z9 : xz X9 = xz X + 5 := by rw [hX9]; show xz X8 + 1 = xz X + 5; omega
  have c0_9 : xc X9 (a) = 9 := by rw [hX9]; exact (zNew_co _ _ _ (by omega)).trans c0_8
  have c1_9 : xc X9 (xz X) = 100 := by rw [hX9]; exact (zNew_co _ _ _ (by omega)).trans c1_8
  have l1_9 : xl X9 (xz X) = 3100 := by rw [hX9]; exact (zNew_lo _ _ _ (by omega)).trans l1_8
  have c2_9 : xc X9 (xz X + 3) = 100 := by rw [hX9]; exact (zNew_co _ _ _ (by omega)).trans c2_8
  have l2_9 : xl X9 (xz X + 3) = 4 := by rw [hX9]; exact (zNew_lo _ _ _ (by omega)).trans l2_8
  have r0_9 : xR X9 a 0 = some (xz X) := by rw [hX9]; exact (congrFun (zNew_ro _ _ _ (by omega)) _).trans r0_8
  have r4_9 : xR X9 a 4 = some (xz X + 3) := by rw [hX9]; exact (congrFun (zNew_ro _ _ _ (by omega)) _).trans r4_8
  clear z7 c0_7 c1_7 l1_7 r0_7 c2_7 l2_7
  have c3_9 : xc X9 (xz X + 4) = 100 := by rw [hX9]; rw [show xz X + 4 = xz X8 by omega]; exact zNew_c _ _ _
  have l3_9 : xl X9 (xz X + 4) = 4 := by rw [hX9]; rw [show xz X + 4 = xz X8 by omega]; exact zNew_l _ _ _
  refine j_putR (n := 45) (k := 5) (b := xz X + 4) dX10_init_42 rfl pX10_22 (fun _ => rfl) (.inr ⟨_, rfl⟩) c0_9 (by omega) (by omega) ?_
  obtain ⟨X10, hX10⟩ : ∃ Y, Y = zpu X9 a 5 (xz X + 4) := ⟨_, rfl⟩
  obtain ⟨M10, hM10⟩ : ∃ Y, Y = M9 := ⟨_, rfl⟩
  rw [← hX10, ← hM10]
  have z10 : xz X10 = xz X + 5 := by rw [hX10]; show xz X9 + 0 = xz X + 5; omega
  have c0_10 : xc X10 (a) = 9 := by rw [hX10]; exact c0_9
  have c1_10 : xc X10 (xz X) = 100 := by rw [hX10]; exact c1_9
  have l1_10 : xl X10 (xz X) = 3100 := by rw [hX10]; exact l1_9
  have c2_10 : xc X10 (xz X + 3) = 100 := by rw [hX10]; exact c2_9
  have l2_10 : xl X10 (xz X + 3) = 4 := by rw [hX10]; exact l2_9
  have r0_10 : xR X10 a 0 = some (xz X) := by rw [hX10]; exact (zpu_nk _ _ _ (by decide)).trans r0_9
  have r4_10 : xR X10 a 4 = some (xz X + 3) := by rw [hX10]; exact (zpu_nk _ _ _ (by decide)).trans r4_9
  clear z8 c0_8 c1_8 c2_8 l1_8 l2_8 r0_8 r4_8
  refine j_aload_n (n := 46) dX10_init_45 rfl rfl ?_
  refine j_bipush (n := 48) (v := nI 96) dX10_init_46 rfl (by decide) ?_
  refine j_newi (n := 50) (L := 96) dX10_init_48 rfl (by decide) (by decide) (by decide) (Nat.le_of_ble_eq_true rfl) (Nat.le_of_ble_eq_true rfl) ac_int ?_
  rw [show xz X10 = xz X + 5 by omega]
  obtain ⟨M11, hM11⟩ : ∃ Y, Y = zs M10 (xz X + 5) (fun _ => 0) := ⟨_, rfl⟩
  obtain ⟨X11, hX11⟩ : ∃ Y, Y = zNew X10 100 96 := ⟨_, rfl⟩
  rw [← hM11, ← hX11]
  have z11 : xz X11 = xz X + 6 := by rw [hX11]; show xz X10 + 1 = xz X + 6; omega
  have c0_11 : xc X11 (a) = 9 := by rw [hX11]; exact (zNew_co _ _ _ (by omega)).trans c0_10
  have c1_11 : xc X11 (xz X) = 100 := by rw [hX11]; exact (zNew_co _ _ _ (by omega)).trans c1_10
  have l1_11 : xl X11 (xz X) = 3100 := by rw [hX11]; exact (zNew_lo _ _ _ (by omega)).trans l1_10
  have c2_11 : xc X11 (xz X + 3) = 100 := by rw [hX11]; exact (zNew_co _ _ _ (by omega)).trans c2_10
  have l2_11 : xl X11 (xz X + 3) = 4 := by rw [hX11]; exact (zNew_lo _ _ _ (by omega)).trans l2_10
  have r0_11 : xR X11 a 0 = some (xz X) := by rw [hX11]; exact (congrFun (zNew_ro _ _ _ (by omega)) _).trans r0_10
  have r4_11 : xR X11 a 4 = some (xz X + 3) := by rw [hX11]; exact (congrFun (zNew_ro _ _ _ (by omega)) _).trans r4_10
  clear z9 c0_9 c1_9 c2_9 l1_9 l2_9 r0_9 r4_9 c3_9 l3_9
  have c3_11 : xc X11 (xz X + 5) = 100 := by rw [hX11]; rw [show xz X + 5 = xz X10 by omega]; exact zNew_c _ _ _
  have l3_11 : xl X11 (xz X + 5) = 96 := by rw [hX11]; rw [show xz X + 5 = xz X10 by omega]; exact zNew_l _ _ _
  refine j_putR (n := 53) (k := 6) (b := xz X + 5) dX10_init_50 rfl pX10_25 (fun _ => rfl) (.inr ⟨_, rfl⟩) c0_11 (by omega) (by omega) ?_
  obtain ⟨X12, hX12⟩ : ∃ Y, Y = zpu X11 a 6 (xz X + 5) := ⟨_, rfl⟩
  obtain ⟨M12, hM12⟩ : ∃ Y, Y = M11 := ⟨_, rfl⟩
  rw [← hX12, ← hM12]
  have z12 : xz X12 = xz X + 6 := by rw [hX12]; show xz X11 + 0 = xz X + 6; omega
  have c0_12 : xc X12 (a) = 9 := by rw [hX12]; exact c0_11
  have c1_12 : xc X12 (xz X) = 100 := by rw [hX12]; exact c1_11
  have l1_12 : xl X12 (xz X) = 3100 := by rw [hX12]; exact l1_11
  have c2_12 : xc X12 (xz X + 3) = 100 := by rw [hX12]; exact c2_11
  have l2_12 : xl X12 (xz X + 3) = 4 := by rw [hX12]; exact l2_11
  have r0_12 : xR X12 a 0 = some (xz X) := by rw [hX12]; exact (zpu_nk _ _ _ (by decide)).trans r0_11
  have r4_12 : xR X12 a 4 = some (xz X + 3) := by rw [hX12]; exact (zpu_nk _ _ _ (by decide)).trans r4_11
  clear z10 c0_10 c1_10 c2_10 l1_10 l2_10 r0_10 r4_10
  refine j_aload_n (n := 54) dX10_init_53 rfl rfl ?_
  refine j_iconst (n := 55) (v := nI 5) dX10_init_54 rfl rfl ?_
  refine j_newi (n := 57) (L := 5) dX10_init_55 rfl (by decide) (by decide) (by decide) (Nat.le_of_ble_eq_true rfl) (Nat.le_of_ble_eq_true rfl) ac_int ?_
  rw [show xz X12 = xz X + 6 by omega]
  obtain ⟨M13, hM13⟩ : ∃ Y, Y = zs M12 (xz X + 6) (fun _ => 0) := ⟨_, rfl⟩
  obtain ⟨X13, hX13⟩ : ∃ Y, Y = zNew X12 100 5 := ⟨_, rfl⟩
  rw [← hM13, ← hX13]
  have z13 : xz X13 = xz X + 7 := by rw [hX13]; show xz X12 + 1 = xz X + 7; omega
  have c0_13 : xc X13 (a) = 9 := by rw [hX13]; exact (zNew_co _ _ _ (by omega)).trans c0_12
  have c1_13 : xc X13 (xz X) = 100 := by rw [hX13]; exact (zNew_co _ _ _ (by omega)).trans c1_12
  have l1_13 : xl X13 (xz X) = 3100 := by rw [hX13]; exact (zNew_lo _ _ _ (by omega)).trans l1_12
  have c2_13 : xc X13 (xz X + 3) = 100 := by rw [hX13]; exact (zNew_co _ _ _ (by omega)).trans c2_12
  have l2_13 : xl X13 (xz X + 3) = 4 := by rw [hX13]; exact (zNew_lo _ _ _ (by omega)).trans l2_12
  have r0_13 : xR X13 a 0 = some (xz X) := by rw [hX13]; exact (congrFun (zNew_ro _ _ _ (by omega)) _).trans r0_12
  have r4_13 : xR X13 a 4 = some (xz X + 3) := by rw [hX13]; exact (congrFun (zNew_ro _ _ _ (by omega)) _).trans r4_12
  clear z11 c0_11 c1_11 c2_11 l1_11 l2_11 r0_11 r4_11 c3_11 l3_11
  have c3_13 : xc X13 (xz X + 6) = 100 := by rw [hX13]; rw [show xz X + 6 = xz X12 by omega]; exact zNew_c _ _ _
  have l3_13 : xl X13 (xz X + 6) = 5 := by rw [hX13]; rw [show xz X + 6 = xz X12 by omega]; exact zNew_l _ _ _
  refine j_putR (n := 60) (k := 7) (b := xz X + 6) dX10_init_57 rfl pX10_28 (fun _ => rfl) (.inr ⟨_, rfl⟩) c0_13 (by omega) (by omega) ?_
  obtain ⟨X14, hX14⟩ : ∃ Y, Y = zpu X13 a 7 (xz X + 6) := ⟨_, rfl⟩
  obtain ⟨M14, hM14⟩ : ∃ Y, Y = M13 := ⟨_, rfl⟩
  rw [← hX14, ← hM14]
  have z14 : xz X14 = xz X + 7 := by rw [hX14]; show xz X13 + 0 = xz X + 7; omega
  have c0_14 : xc X14 (a) = 9 := by rw [hX14]; exact c0_13
  have c1_14 : xc X14 (xz X) = 100 := by rw [hX14]; exact c1_13
  have l1_14 : xl X14 (xz X) = 3100 := by rw [hX14]; exact l1_13
  have c2_14 : xc X14 (xz X + 3) = 100 := by rw [hX14]; exact c2_13
  have l2_14 : xl X14 (xz X + 3) = 4 := by rw [hX14]; exact l2_13
  have r0_14 : xR X14 a 0 = some (xz X) := by rw [hX14]; exact (zpu_nk _ _ _ (by decide)).trans r0_13
  have r4_14 : xR X14 a 4 = some (xz X + 3) := by rw [hX14]; exact (zpu_nk _ _ _ (by decide)).trans r4_13
  clear z12 c0_12 c1_12 c2_12 l1_12 l2_12 r0_12 r4_12
  refine j_aload_n (n := 61) dX10_init_60 rfl rfl ?_
  refine j_iconst (n := 62) (v := nI 5) dX10_init_61 rfl rfl ?_
  refine j_newi (n := 64) (L := 5) dX10_init_62 rfl (by decide) (by decide) (by decide) (Nat.le_of_ble_eq_true rfl) (Nat.le_of_ble_eq_true rfl) ac_int ?_
  rw [show xz X14 = xz X + 7 by omega]
  obtain ⟨M15, hM15⟩ : ∃ Y, Y = zs M14 (xz X + 7) (fun _ => 0) := ⟨_, rfl⟩
  obtain ⟨X15, hX15⟩ : ∃ Y, Y = zNew X14 100 5 := ⟨_, rfl⟩
  rw [← hM15, ← hX15]
  have z15 : xz X15 = xz X + 8 := by rw [hX15]; show xz X14 + 1 = xz X + 8; omega
  have c0_15 : xc X15 (a) = 9 := by rw [hX15]; exact (zNew_co _ _ _ (by omega)).trans c0_14
  have c1_15 : xc X15 (xz X) = 100 := by rw [hX15]; exact (zNew_co _ _ _ (by omega)).trans c1_14
  have l1_15 : xl X15 (xz X) = 3100 := by rw [hX15]; exact (zNew_lo _ _ _ (by omega)).trans l1_14
  have c2_15 : xc X15 (xz X + 3) = 100 := by rw [hX15]; exact (zNew_co _ _ _ (by omega)).trans c2_14
  have l2_15 : xl X15 (xz X + 3) = 4 := by rw [hX15]; exact (zNew_lo _ _ _ (by omega)).trans l2_14
  have r0_15 : xR X15 a 0 = some (xz X) := by rw [hX15]; exact (congrFun (zNew_ro _ _ _ (by omega)) _).trans r0_14
  have r4_15 : xR X15 a 4 = some (xz X + 3) := by rw [hX15]; exact (congrFun (zNew_ro _ _ _ (by omega)) _).trans r4_14
  clear z13 c0_13 c1_13 c2_13 l1_13 l2_13 r0_13 r4_13 c3_13 l3_13
  have c3_15 : xc X15 (xz X + 7) = 100 := by rw [hX15]; rw [show xz X + 7 = xz X14 by omega]; exact zNew_c _ _ _
  have l3_15 : xl X15 (xz X + 7) = 5 := by rw [hX15]; rw [show xz X + 7 = xz X14 by omega]; exact zNew_l _ _ _
  refine j_putR (n := 67) (k := 8) (b := xz X + 7) dX10_init_64 rfl pX10_31 (fun _ => rfl) (.inr ⟨_, rfl⟩) c0_15 (by omega) (by omega) ?_
  obtain ⟨X16, hX16⟩ : ∃ Y, Y = zpu X15 a 8 (xz X + 7) := ⟨_, rfl⟩
  obtain ⟨M16, hM16⟩ : ∃ Y, Y = M15 := ⟨_, rfl⟩
  rw [← hX16, ← hM16]
  have z16 : xz X16 = xz X + 8 := by rw [hX16]; show xz X15 + 0 = xz X + 8; omega
  have c0_16 : xc X16 (a) = 9 := by rw [hX16]; exact c0_15
  have c1_16 : xc X16 (xz X) = 100 := by rw [hX16]; exact c1_15
  have l1_16 : xl X16 (xz X) = 3100 := by rw [hX16]; exact l1_15
  have c2_16 : xc X16 (xz X + 3) = 100 := by rw [hX16]; exact c2_15
  have l2_16 : xl X16 (xz X + 3) = 4 := by rw [hX16]; exact l2_15
  have r0_16 : xR X16 a 0 = some (xz X) := by rw [hX16]; exact (zpu_nk _ _ _ (by decide)).trans r0_15
  have r4_16 : xR X16 a 4 = some (xz X + 3) := by rw [hX16]; exact (zpu_nk _ _ _ (by decide)).trans r4_15
  clear z14 c0_14 c1_14 c2_14 l1_14 l2_14 r0_14 r4_14
  refine j_aload_n (n := 68) dX10_init_67 rfl rfl ?_
  refine j_iconst (n := 69) (v := nI 5) dX10_init_68 rfl rfl ?_
  refine j_newi (n := 71) (L := 5) dX10_init_69 rfl (by decide) (by decide) (by decide) (Nat.le_of_ble_eq_true rfl) (Nat.le_of_ble_eq_true rfl) ac_int ?_
  rw [show xz X16 = xz X + 8 by omega]
  obtain ⟨M17, hM17⟩ : ∃ Y, Y = zs M16 (xz X + 8) (fun _ => 0) := ⟨_, rfl⟩
  obtain ⟨X17, hX17⟩ : ∃ Y, Y = zNew X16 100 5 := ⟨_, rfl⟩
  rw [← hM17, ← hX17]
  have z17 : xz X17 = xz X + 9 := by rw [hX17]; show xz X16 + 1 = xz X + 9; omega
  have c0_17 : xc X17 (a) = 9 := by rw [hX17]; exact (zNew_co _ _ _ (by omega)).trans c0_16
  have c1_17 : xc X17 (xz X) = 100 := by rw [hX17]; exact (zNew_co _ _ _ (by omega)).trans c1_16
  have l1_17 : xl X17 (xz X) = 3100 := by rw [hX17]; exact (zNew_lo _ _ _ (by omega)).trans l1_16
  have c2_17 : xc X17 (xz X + 3) = 100 := by rw [hX17]; exact (zNew_co _ _ _ (by omega)).trans c2_16
  have l2_17 : xl X17 (xz X + 3) = 4 := by rw [hX17]; exact (zNew_lo _ _ _ (by omega)).trans l2_16
  have r0_17 : xR X17 a 0 = some (xz X) := by rw [hX17]; exact (congrFun (zNew_ro _ _ _ (by omega)) _).trans r0_16
  have r4_17 : xR X17 a 4 = some (xz X + 3) := by rw [hX17]; exact (congrFun (zNew_ro _ _ _ (by omega)) _).trans r4_16
  clear z15 c0_15 c1_15 c2_15 l1_15 l2_15 r0_15 r4_15 c3_15 l3_15
  have c3_17 : xc X17 (xz X + 8) = 100 := by rw [hX17]; rw [show xz X + 8 = xz X16 by omega]; exact zNew_c _ _ _
  have l3_17 : xl X17 (xz X + 8) = 5 := by rw [hX17]; rw [show xz X + 8 = xz X16 by omega]; exact zNew_l _ _ _
  refine j_putR (n := 74) (k := 9) (b := xz X + 8) dX10_init_71 rfl pX10_34 (fun _ => rfl) (.inr ⟨_, rfl⟩) c0_17 (by omega) (by omega) ?_
  obtain ⟨X18, hX18⟩ : ∃ Y, Y = zpu X17 a 9 (xz X + 8) := ⟨_, rfl⟩
  obtain ⟨M18, hM18⟩ : ∃ Y, Y = M17 := ⟨_, rfl⟩
  rw [← hX18, ← hM18]
  have z18 : xz X18 = xz X + 9 := by rw [hX18]; show xz X17 + 0 = xz X + 9; omega
  have c0_18 : xc X18 (a) = 9 := by rw [hX18]; exact c0_17
  have c1_18 : xc X18 (xz X) = 100 := by rw [hX18]; exact c1_17
  have l1_18 : xl X18 (xz X) = 3100 := by rw [hX18]; exact l1_17
  have c2_18 : xc X18 (xz X + 3) = 100 := by rw [hX18]; exact c2_17
  have l2_18 : xl X18 (xz X + 3) = 4 := by rw [hX18]; exact l2_17
  have r0_18 : xR X18 a 0 = some (xz X) := by rw [hX18]; exact (zpu_nk _ _ _ (by decide)).trans r0_17
  have r4_18 : xR X18 a 4 = some (xz X + 3) := by rw [hX18]; exact (zpu_nk _ _ _ (by decide)).trans r4_17
  clear z16 c0_16 c1_16 c2_16 l1_16 l2_16 r0_16 r4_16
  refine j_aload_n (n := 75) dX10_init_74 rfl rfl ?_
  refine j_iconst (n := 76) (v := nI 5) dX10_init_75 rfl rfl ?_
  refine j_newi (n := 78) (L := 5) dX10_init_76 rfl (by decide) (by decide) (by decide) (Nat.le_of_ble_eq_true rfl) (Nat.le_of_ble_eq_true rfl) ac_int ?_
  rw [show xz X18 = xz X + 9 by omega]
  obtain ⟨M19, hM19⟩ : ∃ Y, Y = zs M18 (xz X + 9) (fun _ => 0) := ⟨_, rfl⟩
  obtain ⟨X19, hX19⟩ : ∃ Y, Y = zNew X18 100 5 := ⟨_, rfl⟩
  rw [← hM19, ← hX19]
  have z19 : xz X19 = xz X + 10 := by rw [hX19]; show xz X18 + 1 = xz X + 10; omega
  have c0_19 : xc X19 (a) = 9 := by rw [hX19]; exact (zNew_co _ _ _ (by omega)).trans c0_18
  have c1_19 : xc X19 (xz X) = 100 := by rw [hX19]; exact (zNew_co _ _ _ (by omega)).trans c1_18
  have l1_19 : xl X19 (xz X) = 3100 := by rw [hX19]; exact (zNew_lo _ _ _ (by omega)).trans l1_18
  have c2_19 : xc X19 (xz X + 3) = 100 := by rw [hX19]; exact (zNew_co _ _ _ (by omega)).trans c2_18
  have l2_19 : xl X19 (xz X + 3) = 4 := by rw [hX19]; exact (zNew_lo _ _ _ (by omega)).trans l2_18
  have r0_19 : xR X19 a 0 = some (xz X) := by rw [hX19]; exact (congrFun (zNew_ro _ _ _ (by omega)) _).trans r0_18
  have r4_19 : xR X19 a 4 = some (xz X + 3) := by rw [hX19]; exact (congrFun (zNew_ro _ _ _ (by omega)) _).trans r4_18
  clear z17 c0_17 c1_17 c2_17 l1_17 l2_17 r0_17 r4_17 c3_17 l3_17
  have c3_19 : xc X19 (xz X + 9) = 100 := by rw [hX19]; rw [show xz X + 9 = xz X18 by omega]; exact zNew_c _ _ _
  have l3_19 : xl X19 (xz X + 9) = 5 := by rw [hX19]; rw [show xz X + 9 = xz X18 by omega]; exact zNew_l _ _ _
  refine j_putR (n := 81) (k := 10) (b := xz X + 9) dX10_init_78 rfl pX10_37 (fun _ => rfl) (.inr ⟨_, rfl⟩) c0_19 (by omega) (by omega) ?_
  obtain ⟨X20, hX20⟩ : ∃ Y, Y = zpu X19 a 10 (xz X + 9) := ⟨_, rfl⟩
  obtain ⟨M20, hM20⟩ : ∃ Y, Y = M19 := ⟨_, rfl⟩
  rw [← hX20, ← hM20]
  have z20 : xz X20 = xz X + 10 := by rw [hX20]; show xz X19 + 0 = xz X + 10; omega
  have c0_20 : xc X20 (a) = 9 := by rw [hX20]; exact c0_19
  have c1_20 : xc X20 (xz X) = 100 := by rw [hX20]; exact c1_19
  have l1_20 : xl X20 (xz X) = 3100 := by rw [hX20]; exact l1_19
  have c2_20 : xc X20 (xz X + 3) = 100 := by rw [hX20]; exact c2_19
  have l2_20 : xl X20 (xz X + 3) = 4 := by rw [hX20]; exact l2_19
  have r0_20 : xR X20 a 0 = some (xz X) := by rw [hX20]; exact (zpu_nk _ _ _ (by decide)).trans r0_19
  have r4_20 : xR X20 a 4 = some (xz X + 3) := by rw [hX20]; exact (zpu_nk _ _ _ (by decide)).trans r4_19
  clear z18 c0_18 c1_18 c2_18 l1_18 l2_18 r0_18 r4_18
  have q1 : a < xz X20 := by omega
  have q2 : xz X < xz X20 := by omega
  have q3 : xz X + 3 < xz X20 := by omega
  clear z20
  subst hM1 hX1 hM2 hX2 hM3 hX3 hM4 hX4 hM5 hX5 hM6 hX6 hM7 hX7 hM8 hX8 hM9 hX9 hM10 hX10 hM11 hX11 hM12 hX12 hM13 hX13 hM14 hX14 hM15 hX15 hM16 hX16 hM17 hX17 hM18 hX18 hM19 hX19 hM20 hX20
  exact i_ModelB d G _ _ a (xz X) (xz X + 3) ha q1 (by omega) q2 (by omega) q3 (by omega) (by omega) c0_20 c1_20 l1_20 r0_20 c2_20 l2_20 r4_20
