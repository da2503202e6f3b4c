-- INIT F: by program (wip/whole/gen/c29.py)
def iMRootA (M : zMem) (X : zX) (a : Nat) : zMem := (zs (zs (zs (zs (zs (iMParser (zs (iMWays (zs (iMTown (zs (iMTown (zs (iMTown (zs M (xz X) (fun _ => 0)) (zNew X 6 0) (xz X)) (xz X + 31) (fun _ => 0)) (zNew (zpu (iXTown (zNew X 6 0) (xz X)) a 0 (xz X)) 6 0) (xz X + 31)) (xz X + 62) (fun _ => 0)) (zNew (zpu (iXTown (zNew (zpu (iXTown (zNew X 6 0) (xz X)) a 0 (xz X)) 6 0) (xz X + 31)) a 1 (xz X + 31)) 6 0) (xz X + 62)) (xz X + 93) (fun _ => 0)) (zNew (zpu (iXTown (zNew (zpu (iXTown (zNew (zpu (iXTown (zNew X 6 0) (xz X)) a 0 (xz X)) 6 0) (xz X + 31)) a 1 (xz X + 31)) 6 0) (xz X + 62)) a 2 (xz X + 62)) 7 0) (xz X + 93)) (xz X + 101) (fun _ => 0)) (zNew (zpu (iXWays (zNew (zpu (iXTown (zNew (zpu (iXTown (zNew (zpu (iXTown (zNew X 6 0) (xz X)) a 0 (xz X)) 6 0) (xz X + 31)) a 1 (xz X + 31)) 6 0) (xz X + 62)) a 2 (xz X + 62)) 7 0) (xz X + 93)) a 4 (xz X + 93)) 1 0) (xz X + 101)) (xz X + 105) (fun _ => 0)) (xz X + 106) (fun _ => 0)) (xz X + 107) (fun _ => 0)) (xz X + 108) (fun _ => 0)) (xz X + 109) (fun _ => 0))
def iXRootA (X : zX) (a : Nat) : zX := zpu (zNew (zpu (zNew (zpu (zNew (zpu (zNew (zpu (zNew (zpu (iXParser (zNew (zpu (iXWays (zNew (zpu (iXTown (zNew (zpu (iXTown (zNew (zpu (iXTown (zNew X 6 0) (xz X)) a 0 (xz X)) 6 0) (xz X + 31)) a 1 (xz X + 31)) 6 0) (xz X + 62)) a 2 (xz X + 62)) 7 0) (xz X + 93)) a 4 (xz X + 93)) 1 0) (xz X + 101)) a 5 (xz X + 101)) 101 96) a 6 (xz X + 105)) 105 4) a 8 (xz X + 106)) 106 5) a 9 (xz X + 107)) 100 60) a 10 (xz X + 108)) 100 8) a 12 (xz X + 109)
def iMRoot (M : zMem) (X : zX) (a : Nat) : zMem := iMRootC (iMRootB (iMRootA M X a) (iXRootA X a) a (xz X + 106)) (iXRootB (iXRootA X a) a (xz X + 106)) a (xz X + 107)
def iXRoot (X : zX) (a : Nat) : zX := iXRootC (iXRootB (iXRootA X a) a (xz X + 106)) a (xz X + 107)
theorem i_Root (d : Nat) (G : zG) (i_Ways : WaysI) (M : zMem) (X : zX) (a : Nat) (c0_0 : xc X a = 8) (ha : 16 ≤ a) (hax : a < xz X) : zCall G miX9_init (d + 3) [.ref a] (zV (iMRoot M X a) (iXRoot X a)) M X 143 1887 := by
  refine zCall.of (lv := [some (.ref a), none]) (by decide) (Nat.le_of_ble_eq_true rfl) rfl ?_
  have z0 : xz X = xz X + 0 := rfl
  refine j_aload_n (n := 1) dX9_init_0 rfl rfl ?_
  refine j_oinit (n := 4) dX9_init_1 rfl oX9_1 (by omega) (Nat.le_of_ble_eq_true rfl) ?_
  refine j_aload_n (n := 5) dX9_init_4 rfl rfl ?_
  refine j_new (n := 8) dX9_init_5 rfl nX9_7 (Nat.le_of_ble_eq_true rfl) (Nat.le_of_ble_eq_true rfl) ?_
  obtain ⟨M1, hM1⟩ : ∃ Y, Y = zs M (xz X) (fun _ => 0) := ⟨_, rfl⟩
  obtain ⟨X1, hX1⟩ : ∃ Y, Y = zNew X 6 0 := ⟨_, rfl⟩
  rw [← hM1, ← hX1]
  have z1 : xz X1 = xz X + 1 := by rw [hX1]; show xz X + 1 = xz X + 1; omega
  have c0_1 : xc X1 (a) = 8 := by rw [hX1]; exact (zNew_co _ _ _ (by omega)).trans c0_0
  have c1_1 : xc X1 (xz X) = 6 := by rw [hX1]; exact zNew_c _ _ _
  refine j_dup (n := 9) dX9_init_8 rfl rfl ?_
  refine j_callI (n := 12) (a := xz X) (as := []) (st := [.ref (xz X), .ref a]) dX9_init_9 rfl sX9_9 (i_Town d G M1 X1 (xz X) c1_1 (by omega) (by omega)) (by omega) (by decide) rfl rfl (Nat.le_of_ble_eq_true rfl) (Nat.le_of_ble_eq_true rfl) (Nat.le_of_ble_eq_true rfl) (fun v N1 Y1 hh => ?_)
  obtain ⟨rfl, hN, hY⟩ := hh
  rw [hN, hY]
  clear hN hY
  obtain ⟨M2, hM2⟩ : ∃ Y, Y = iMTown M1 X1 (xz X) := ⟨_, rfl⟩
  obtain ⟨X2, hX2⟩ : ∃ Y, Y = iXTown X1 (xz X) := ⟨_, rfl⟩
  rw [← hM2, ← hX2]
  have z2 : xz X2 = xz X + 31 := by rw [hX2]; show xz X1 + 30 = xz X + 31; omega
  have c0_2 : xc X2 (a) = 8 := by rw [hX2]; exact (iXTown_o (by omega)).1.trans c0_1
  have c1_2 : xc X2 (xz X) = 6 := by rw [hX2]; exact (iXTown_o (by omega)).1.trans c1_1
  refine j_putR (n := 15) (k := 0) (b := xz X) dX9_init_12 rfl pX9_10 (fun _ => rfl) (.inl ⟨_, rfl⟩) c0_2 (by omega) (by omega) ?_
  obtain ⟨X3, hX3⟩ : ∃ Y, Y = zpu X2 a 0 (xz X) := ⟨_, rfl⟩
  obtain ⟨M3, hM3⟩ : ∃ Y, Y = M2 := ⟨_, rfl⟩
  rw [← hX3, ← hM3]
  have z3 : xz X3 = xz X + 31 := by rw [hX3]; show xz X2 + 0 = xz X + 31; omega
  have c0_3 : xc X3 (a) = 8 := by rw [hX3]; exact c0_2
  clear z1 c0_1 c1_1
  refine j_aload_n (n := 16) dX9_init_15 rfl rfl ?_
  refine j_new (n := 19) dX9_init_16 rfl nX9_7 (Nat.le_of_ble_eq_true rfl) (Nat.le_of_ble_eq_true rfl) ?_
  rw [show xz X3 = xz X + 31 by omega]
  obtain ⟨M4, hM4⟩ : ∃ Y, Y = zs M3 (xz X + 31) (fun _ => 0) := ⟨_, rfl⟩
  obtain ⟨X4, hX4⟩ : ∃ Y, Y = zNew X3 6 0 := ⟨_, rfl⟩
  rw [← hM4, ← hX4]
  have z4 : xz X4 = xz X + 32 := by rw [hX4]; show xz X3 + 1 = xz X + 32; omega
  have c0_4 : xc X4 (a) = 8 := by rw [hX4]; exact (zNew_co _ _ _ (by omega)).trans c0_3
  clear z2 c0_2 c1_2
  have c1_4 : xc X4 (xz X + 31) = 6 := by rw [hX4]; rw [show xz X + 31 = xz X3 by omega]; exact zNew_c _ _ _
  refine j_dup (n := 20) dX9_init_19 rfl rfl ?_
  refine j_callI (n := 23) (a := xz X + 31) (as := []) (st := [.ref (xz X + 31), .ref a]) dX9_init_20 rfl sX9_9 (i_Town d G M4 X4 (xz X + 31) c1_4 (by omega) (by omega)) (by omega) (by decide) rfl rfl (Nat.le_of_ble_eq_true rfl) (Nat.le_of_ble_eq_true rfl) (Nat.le_of_ble_eq_true rfl) (fun v N1 Y1 hh => ?_)
  obtain ⟨rfl, hN, hY⟩ := hh
  rw [hN, hY]
  clear hN hY
  obtain ⟨M5, hM5⟩ : ∃ Y, Y = iMTown M4 X4 (xz X + 31) := ⟨_, rfl⟩
  obtain ⟨X5, hX5⟩ : ∃ Y, Y = iXTown X4 (xz X + 31) := ⟨_, rfl⟩
  rw [← hM5, ← hX5]
  have z5 : xz X5 = xz X + 62 := by rw [hX5]; show xz X4 + 30 = xz X + 62; omega
  have c0_5 : xc X5 (a) = 8 := by rw [hX5]; exact (iXTown_o (by omega)).1.trans c0_4
  have c1_5 : xc X5 (xz X + 31) = 6 := by rw [hX5]; exact (iXTown_o (by omega)).1.trans c1_4
  clear z3 c0_3
  refine j_putR (n := 26) (k := 1) (b := xz X + 31) dX9_init_23 rfl pX9_16 (fun _ => rfl) (.inl ⟨_, rfl⟩) c0_5 (by omega) (by omega) ?_
  obtain ⟨X6, hX6⟩ : ∃ Y, Y = zpu X5 a 1 (xz X + 31) := ⟨_, rfl⟩
  obtain ⟨M6, hM6⟩ : ∃ Y, Y = M5 := ⟨_, rfl⟩
  rw [← hX6, ← hM6]
  have z6 : xz X6 = xz X + 62 := by rw [hX6]; show xz X5 + 0 = xz X + 62; omega
  have c0_6 : xc X6 (a) = 8 := by rw [hX6]; exact c0_5
  clear z4 c0_4 c1_4
  refine j_aload_n (n := 27) dX9_init_26 rfl rfl ?_
  refine j_new (n := 30) dX9_init_27 rfl nX9_7 (Nat.le_of_ble_eq_true rfl) (Nat.le_of_ble_eq_true rfl) ?_
  rw [show xz X6 = xz X + 62 by omega]
  obtain ⟨M7, hM7⟩ : ∃ Y, Y = zs M6 (xz X + 62) (fun _ => 0) := ⟨_, rfl⟩
  obtain ⟨X7, hX7⟩ : ∃ Y, Y = zNew X6 6 0 := ⟨_, rfl⟩
  rw [← hM7, ← hX7]
  have z7 : xz X7 = xz X + 63 := by rw [hX7]; show xz X6 + 1 = xz X + 63; omega
  have c0_7 : xc X7 (a) = 8 := by rw [hX7]; exact (zNew_co _ _ _ (by omega)).trans c0_6
  clear z5 c0_5 c1_5
  have c1_7 : xc X7 (xz X + 62) = 6 := by rw [hX7]; rw [show xz X + 62 = xz X6 by omega]; exact zNew_c _ _ _
  refine j_dup (n := 31) dX9_init_30 rfl rfl ?_
  refine j_callI (n := 34) (a := xz X + 62) (as := []) (st := [.ref (xz X + 62), .ref a]) dX9_init_31 rfl sX9_9 (i_Town d G M7 X7 (xz X + 62) c1_7 (by omega) (by omega)) (by omega) (by decide) rfl rfl (Nat.le_of_ble_eq_true rfl) (Nat.le_of_ble_eq_true rfl) (Nat.le_of_ble_eq_true rfl) (fun v N1 Y1 hh => ?_)
  obtain ⟨rfl, hN, hY⟩ := hh
  rw [hN, hY]
  clear hN hY
  obtain ⟨M8, hM8⟩ : ∃ Y, Y = iMTown M7 X7 (xz X + 62) := ⟨_, rfl⟩
  obtain ⟨X8, hX8⟩ : ∃ Y, Y = iXTown X7 (xz X + 62) := ⟨_, rfl⟩
  rw [← hM8, ← hX8]
  have z8 : xz X8 = xz X + 93 := by rw [hX8]; show xz X7 + 30 = xz X + 93; omega
  have c0_8 : xc X8 (a) = 8 := by rw [hX8]; exact (iXTown_o (by omega)).1.trans c0_7
  have c1_8 : xc X8 (xz X + 62) = 6 := by rw [hX8]; exact (iXTown_o (by omega)).1.trans c1_7
  clear z6 c0_6
  refine j_putR (n := 37) (k := 2) (b := xz X + 62) dX9_init_34 rfl pX9_19 (fun _ => rfl) (.inl ⟨_, rfl⟩) c0_8 (by omega) (by omega) ?_
  obtain ⟨X9, hX9⟩ : ∃ Y, Y = zpu X8 a 2 (xz X + 62) := ⟨_, rfl⟩
  obtain ⟨M9, hM9⟩ : ∃ Y, Y = M8 := ⟨_, rfl⟩
  rw [← hX9, ← hM9]
  have z9 : xz X9 = xz X + 93 := by rw [hX9]; show xz X8 + 0 = xz X + 93; omega
  have c0_9 : xc X9 (a) = 8 := by rw [hX9]; exact c0_8
  clear z7 c0_7 c1_7
  refine j_aload_n (n := 38) dX9_init_37 rfl rfl ?_
  refine j_new (n := 41) dX9_init_38 rfl nX9_22 (Nat.le_of_ble_eq_true rfl) (Nat.le_of_ble_eq_true rfl) ?_
  rw [show xz X9 = xz X + 93 by omega]
  obtain ⟨M10, hM10⟩ : ∃ Y, Y = zs M9 (xz X + 93) (fun _ => 0) := ⟨_, rfl⟩
  obtain ⟨X10, hX10⟩ : ∃ Y, Y = zNew X9 7 0 := ⟨_, rfl⟩
  rw [← hM10, ← hX10]
  have z10 : xz X10 = xz X + 94 := by rw [hX10]; show xz X9 + 1 = xz X + 94; omega
  have c0_10 : xc X10 (a) = 8 := by rw [hX10]; exact (zNew_co _ _ _ (by omega)).trans c0_9
  clear z8 c0_8 c1_8
  have c1_10 : xc X10 (xz X + 93) = 7 := by rw [hX10]; rw [show xz X + 93 = xz X9 by omega]; exact zNew_c _ _ _
  refine j_dup (n := 42) dX9_init_41 rfl rfl ?_
  refine j_callIN (n := 45) (a := xz X + 93) (as := []) (st := [.ref (xz X + 93), .ref a]) dX9_init_42 rfl sX9_24 (i_Ways (d + 1) G M10 X10 (xz X + 93) c1_10 (by omega) (by omega)) (by omega) (by decide) rfl rfl (Nat.le_of_ble_eq_true rfl) (Nat.le_of_ble_eq_true rfl) (Nat.le_of_ble_eq_true rfl) (fun v N1 Y1 hh => ?_)
  obtain ⟨rfl, hN, hY⟩ := hh
  rw [hN, hY]
  clear hN hY
  obtain ⟨M11, hM11⟩ : ∃ Y, Y = iMWays M10 X10 (xz X + 93) := ⟨_, rfl⟩
  obtain ⟨X11, hX11⟩ : ∃ Y, Y = iXWays X10 (xz X + 93) := ⟨_, rfl⟩
  rw [← hM11, ← hX11]
  have z11 : xz X11 = xz X + 101 := by rw [hX11]; show xz X10 + 7 = xz X + 101; omega
  have c0_11 : xc X11 (a) = 8 := by rw [hX11]; exact (iXWays_o (by omega)).1.trans c0_10
  have c1_11 : xc X11 (xz X + 93) = 7 := by rw [hX11]; exact (iXWays_o (by omega)).1.trans c1_10
  clear z9 c0_9
  refine j_putR (n := 48) (k := 4) (b := xz X + 93) dX9_init_45 rfl pX9_25 (fun _ => rfl) (.inl ⟨_, rfl⟩) c0_11 (by omega) (by omega) ?_
  obtain ⟨X12, hX12⟩ : ∃ Y, Y = zpu X11 a 4 (xz X + 93) := ⟨_, rfl⟩
  obtain ⟨M12, hM12⟩ : ∃ Y, Y = M11 := ⟨_, rfl⟩
  rw [← hX12, ← hM12]
  have z12 : xz X12 = xz X + 101 := by rw [hX12]; show xz X11 + 0 = xz X + 101; omega
  have c0_12 : xc X12 (a) = 8 := by rw [hX12]; exact c0_11
  clear z10 c0_10 c1_10
  refine j_aload_n (n := 49) dX9_init_48 rfl rfl ?_
  refine j_new (n := 52) dX9_init_49 rfl nX9_29 (Nat.le_of_ble_eq_true rfl) (Nat.le_of_ble_eq_true rfl) ?_
  rw [show xz X12 = xz X + 101 by omega]
  obtain ⟨M13, hM13⟩ : ∃ Y, Y = zs M12 (xz X + 101) (fun _ => 0) := ⟨_, rfl⟩
  obtain ⟨X13, hX13⟩ : ∃ Y, Y = zNew X12 1 0 := ⟨_, rfl⟩
  rw [← hM13, ← hX13]
  have z13 : xz X13 = xz X + 102 := by rw [hX13]; show xz X12 + 1 = xz X + 102; omega
  have c0_13 : xc X13 (a) = 8 := by rw [hX13]; exact (zNew_co _ _ _ (by omega)).trans c0_12
  clear z11 c0_11 c1_11
  have c1_13 : xc X13 (xz X + 101) = 1 := by rw [hX13]; rw [show xz X + 101 = xz X12 by omega]; exact zNew_c _ _ _
  refine j_dup (n := 53) dX9_init_52 rfl rfl ?_
  refine j_callIN (n := 56) (a := xz X + 101) (as := []) (st := [.ref (xz X + 101), .ref a]) dX9_init_53 rfl sX9_31 (i_Parser (d + 1) G M13 X13 (xz X + 101) c1_13 (by omega) (by omega)) (by omega) (by decide) rfl rfl (Nat.le_of_ble_eq_true rfl) (Nat.le_of_ble_eq_true rfl) (Nat.le_of_ble_eq_true rfl) (fun v N1 Y1 hh => ?_)
  obtain ⟨rfl, hN, hY⟩ := hh
  rw [hN, hY]
  clear hN hY
  obtain ⟨M14, hM14⟩ : ∃ Y, Y = iMParser M13 X13 (xz X + 101) := ⟨_, rfl⟩
  obtain ⟨X14, hX14⟩ : ∃ Y, Y = iXParser X13 (xz X + 101) := ⟨_, rfl⟩
  rw [← hM14, ← hX14]
  have z14 : xz X14 = xz X + 105 := by rw [hX14]; show xz X13 + 3 = xz X + 105; omega
  have c0_14 : xc X14 (a) = 8 := by rw [hX14]; exact (iXParser_o (by omega)).1.trans c0_13
  have c1_14 : xc X14 (xz X + 101) = 1 := by rw [hX14]; exact (iXParser_o (by omega)).1.trans c1_13
  clear z12 c0_12
  refine j_putR (n := 59) (k := 5) (b := xz X + 101) dX9_init_56 rfl pX9_32 (fun _ => rfl) (.inl ⟨_, rfl⟩) c0_14 (by omega) (by omega) ?_
  obtain ⟨X15, hX15⟩ : ∃ Y, Y = zpu X14 a 5 (xz X + 101) := ⟨_, rfl⟩
  obtain ⟨M15, hM15⟩ : ∃ Y, Y = M14 := ⟨_, rfl⟩
  rw [← hX15, ← hM15]
  have z15 : xz X15 = xz X + 105 := by rw [hX15]; show xz X14 + 0 = xz X + 105; omega
  have c0_15 : xc X15 (a) = 8 := by rw [hX15]; exact c0_14
  clear z13 c0_13 c1_13
  refine j_aload_n (n := 60) dX9_init_59 rfl rfl ?_
  refine j_bipush (n := 62) (v := nI 96) dX9_init_60 rfl (by decide) ?_
  refine j_newb (n := 64) (L := 96) dX9_init_62 rfl (by decide) (by decide) (by decide) (Nat.le_of_ble_eq_true rfl) (Nat.le_of_ble_eq_true rfl) ac_byte ?_
  rw [show xz X15 = xz X + 105 by omega]
  obtain ⟨M16, hM16⟩ : ∃ Y, Y = zs M15 (xz X + 105) (fun _ => 0) := ⟨_, rfl⟩
  obtain ⟨X16, hX16⟩ : ∃ Y, Y = zNew X15 101 96 := ⟨_, rfl⟩
  rw [← hM16, ← hX16]
  have z16 : xz X16 = xz X + 106 := by rw [hX16]; show xz X15 + 1 = xz X + 106; omega
  have c0_16 : xc X16 (a) = 8 := by rw [hX16]; exact (zNew_co _ _ _ (by omega)).trans c0_15
  clear z14 c0_14 c1_14
  have c1_16 : xc X16 (xz X + 105) = 101 := by rw [hX16]; rw [show xz X + 105 = xz X15 by omega]; exact zNew_c _ _ _
  have l1_16 : xl X16 (xz X + 105) = 96 := by rw [hX16]; rw [show xz X + 105 = xz X15 by omega]; exact zNew_l _ _ _
  refine j_putR (n := 67) (k := 6) (b := xz X + 105) dX9_init_64 rfl pX9_36 (fun _ => rfl) (.inr ⟨_, rfl⟩) c0_16 (by omega) (by omega) ?_
  obtain ⟨X17, hX17⟩ : ∃ Y, Y = zpu X16 a 6 (xz X + 105) := ⟨_, rfl⟩
  obtain ⟨M17, hM17⟩ : ∃ Y, Y = M16 := ⟨_, rfl⟩
  rw [← hX17, ← hM17]
  have z17 : xz X17 = xz X + 106 := by rw [hX17]; show xz X16 + 0 = xz X + 106; omega
  have c0_17 : xc X17 (a) = 8 := by rw [hX17]; exact c0_16
  clear z15 c0_15
  refine j_aload_n (n := 68) dX9_init_67 rfl rfl ?_
  refine j_iconst (n := 69) (v := nI 4) dX9_init_68 rfl rfl ?_
  refine j_anew (n := 72) (t := 5) (L := 4) dX9_init_69 rfl (by decide) rfl (by decide) (zTm 303 (by decide +kernel) rfl) (by decide) (by decide) (by decide) (Nat.le_of_ble_eq_true rfl) (Nat.le_of_ble_eq_true rfl) ?_
  rw [show xz X17 = xz X + 106 by omega]
  obtain ⟨M18, hM18⟩ : ∃ Y, Y = zs M17 (xz X + 106) (fun _ => 0) := ⟨_, rfl⟩
  obtain ⟨X18, hX18⟩ : ∃ Y, Y = zNew X17 105 4 := ⟨_, rfl⟩
  rw [← hM18, ← hX18]
  have z18 : xz X18 = xz X + 107 := by rw [hX18]; show xz X17 + 1 = xz X + 107; omega
  have c0_18 : xc X18 (a) = 8 := by rw [hX18]; exact (zNew_co _ _ _ (by omega)).trans c0_17
  clear z16 c0_16 c1_16 l1_16
  have c1_18 : xc X18 (xz X + 106) = 105 := by rw [hX18]; rw [show xz X + 106 = xz X17 by omega]; exact zNew_c _ _ _
  have l1_18 : xl X18 (xz X + 106) = 4 := by rw [hX18]; rw [show xz X + 106 = xz X17 by omega]; exact zNew_l _ _ _
  refine j_putR (n := 75) (k := 8) (b := xz X + 106) dX9_init_72 rfl pX9_42 (fun _ => rfl) (.inr ⟨_, rfl⟩) c0_18 (by omega) (by omega) ?_
  obtain ⟨X19, hX19⟩ : ∃ Y, Y = zpu X18 a 8 (xz X + 106) := ⟨_, rfl⟩
  obtain ⟨M19, hM19⟩ : ∃ Y, Y = M18 := ⟨_, rfl⟩
  rw [← hX19, ← hM19]
  have z19 : xz X19 = xz X + 107 := by rw [hX19]; show xz X18 + 0 = xz X + 107; omega
  have c0_19 : xc X19 (a) = 8 := by rw [hX19]; exact c0_18
  have c1_19 : xc X19 (xz X + 106) = 105 := by rw [hX19]; exact c1_18
  have l1_19 : xl X19 (xz X + 106) = 4 := by rw [hX19]; exact l1_18
  clear z17 c0_17
  have r8_19 : xR X19 a 8 = some (xz X + 106) := by rw [hX19]; exact zpu_eq _ _ _ _
  refine j_aload_n (n := 76) dX9_init_75 rfl rfl ?_
  refine j_iconst (n := 77) (v := nI 5) dX9_init_76 rfl rfl ?_
  refine j_anew (n := 80) (t := 6) (L := 5) dX9_init_77 rfl (by decide) rfl (by decide) (zTm 305 (by decide +kernel) rfl) (by decide) (by decide) (by decide) (Nat.le_of_ble_eq_true rfl) (Nat.le_of_ble_eq_true rfl) ?_
  rw [show xz X19 = xz X + 107 by omega]
  obtain ⟨M20, hM20⟩ : ∃ Y, Y = zs M19 (xz X + 107) (fun _ => 0) := ⟨_, rfl⟩
  obtain ⟨X20, hX20⟩ : ∃ Y, Y = zNew X19 106 5 := ⟨_, rfl⟩
  rw [← hM20, ← hX20]
  have z20 : xz X20 = xz X + 108 := by rw [hX20]; show xz X19 + 1 = xz X + 108; omega
  have c0_20 : xc X20 (a) = 8 := by rw [hX20]; exact (zNew_co _ _ _ (by omega)).trans c0_19
  have c1_20 : xc X20 (xz X + 106) = 105 := by rw [hX20]; exact (zNew_co _ _ _ (by omega)).trans c1_19
  have l1_20 : xl X20 (xz X + 106) = 4 := by rw [hX20]; exact (zNew_lo _ _ _ (by omega)).trans l1_19
  have r8_20 : xR X20 a 8 = some (xz X + 106) := by rw [hX20]; exact (congrFun (zNew_ro _ _ _ (by omega)) _).trans r8_19
  clear z18 c0_18 c1_18 l1_18
  have c2_20 : xc X20 (xz X + 107) = 106 := by rw [hX20]; rw [show xz X + 107 = xz X19 by omega]; exact zNew_c _ _ _
  have l2_20 : xl X20 (xz X + 107) = 5 := by rw [hX20]; rw [show xz X + 107 = xz X19 by omega]; exact zNew_l _ _ _
  refine j_putR (n := 83) (k := 9) (b := xz X + 107) dX9_init_80 rfl pX9_48 (fun _ => rfl) (.inr ⟨_, rfl⟩) c0_20 (by omega) (by omega) ?_
  obtain ⟨X21, hX21⟩ : ∃ Y, Y = zpu X20 a 9 (xz X + 107) := ⟨_, rfl⟩
  obtain ⟨M21, hM21⟩ : ∃ Y, Y = M20 := ⟨_, rfl⟩
  rw [← hX21, ← hM21]
  have z21 : xz X21 = xz X + 108 := by rw [hX21]; show xz X20 + 0 = xz X + 108; omega
  have c0_21 : xc X21 (a) = 8 := by rw [hX21]; exact c0_20
  have c1_21 : xc X21 (xz X + 106) = 105 := by rw [hX21]; exact c1_20
  have l1_21 : xl X21 (xz X + 106) = 4 := by rw [hX21]; exact l1_20
  have c2_21 : xc X21 (xz X + 107) = 106 := by rw [hX21]; exact c2_20
  have l2_21 : xl X21 (xz X + 107) = 5 := by rw [hX21]; exact l2_20
  have r8_21 : xR X21 a 8 = some (xz X + 106) := by rw [hX21]; exact (zpu_nk _ _ _ (by decide)).trans r8_20
  clear z19 c0_19 c1_19 l1_19 r8_19
  have r9_21 : xR X21 a 9 = some (xz X + 107) := by rw [hX21]; exact zpu_eq _ _ _ _
  refine j_aload_n (n := 84) dX9_init_83 rfl rfl ?_
  refine j_bipush (n := 86) (v := nI 60) dX9_init_84 rfl (by decide) ?_
  refine j_newi (n := 88) (L := 60) dX9_init_86 rfl (by decide) (by decide) (by decide) (Nat.le_of_ble_eq_true rfl) (Nat.le_of_ble_eq_true rfl) ac_int ?_
  rw [show xz X21 = xz X + 108 by omega]
  obtain ⟨M22, hM22⟩ : ∃ Y, Y = zs M21 (xz X + 108) (fun _ => 0) := ⟨_, rfl⟩
  obtain ⟨X22, hX22⟩ : ∃ Y, Y = zNew X21 100 60 := ⟨_, rfl⟩
  rw [← hM22, ← hX22]
  have z22 : xz X22 = xz X + 109 := by rw [hX22]; show xz X21 + 1 = xz X + 109; omega
  have c0_22 : xc X22 (a) = 8 := by rw [hX22]; exact (zNew_co _ _ _ (by omega)).trans c0_21
  have c1_22 : xc X22 (xz X + 106) = 105 := by rw [hX22]; exact (zNew_co _ _ _ (by omega)).trans c1_21
  have l1_22 : xl X22 (xz X + 106) = 4 := by rw [hX22]; exact (zNew_lo _ _ _ (by omega)).trans l1_21
  have c2_22 : xc X22 (xz X + 107) = 106 := by rw [hX22]; exact (zNew_co _ _ _ (by omega)).trans c2_21
  have l2_22 : xl X22 (xz X + 107) = 5 := by rw [hX22]; exact (zNew_lo _ _ _ (by omega)).trans l2_21
  have r8_22 : xR X22 a 8 = some (xz X + 106) := by rw [hX22]; exact (congrFun (zNew_ro _ _ _ (by omega)) _).trans r8_21
  have r9_22 : xR X22 a 9 = some (xz X + 107) := by rw [hX22]; exact (congrFun (zNew_ro _ _ _ (by omega)) _).trans r9_21
  clear z20 c0_20 c1_20 l1_20 r8_20 c2_20 l2_20
  have c3_22 : xc X22 (xz X + 108) = 100 := by rw [hX22]; rw [show xz X + 108 = xz X21 by omega]; exact zNew_c _ _ _
  have l3_22 : xl X22 (xz X + 108) = 60 := by rw [hX22]; rw [show xz X + 108 = xz X21 by omega]; exact zNew_l _ _ _
  refine j_putR (n := 91) (k := 10) (b := xz X + 108) dX9_init_88 rfl pX9_52 (fun _ => rfl) (.inr ⟨_, rfl⟩) c0_22 (by omega) (by omega) ?_
  obtain ⟨X23, hX23⟩ : ∃ Y, Y = zpu X22 a 10 (xz X + 108) := ⟨_, rfl⟩
  obtain ⟨M23, hM23⟩ : ∃ Y, Y = M22 := ⟨_, rfl⟩
  rw [← hX23, ← hM23]
  have z23 : xz X23 = xz X + 109 := by rw [hX23]; show xz X22 + 0 = xz X + 109; omega
  have c0_23 : xc X23 (a) = 8 := by rw [hX23]; exact c0_22
  have c1_23 : xc X23 (xz X + 106) = 105 := by rw [hX23]; exact c1_22
  have l1_23 : xl X23 (xz X + 106) = 4 := by rw [hX23]; exact l1_22
  have c2_23 : xc X23 (xz X + 107) = 106 := by rw [hX23]; exact c2_22
  have l2_23 : xl X23 (xz X + 107) = 5 := by rw [hX23]; exact l2_22
  have r8_23 : xR X23 a 8 = some (xz X + 106) := by rw [hX23]; exact (zpu_nk _ _ _ (by decide)).trans r8_22
  have r9_23 : xR X23 a 9 = some (xz X + 107) := by rw [hX23]; exact (zpu_nk _ _ _ (by decide)).trans r9_22
  clear z21 c0_21 c1_21 c2_21 l1_21 l2_21 r8_21 r9_21
  refine j_aload_n (n := 92) dX9_init_91 rfl rfl ?_
  refine j_bipush (n := 94) (v := nI 8) dX9_init_92 rfl (by decide) ?_
  refine j_newi (n := 96) (L := 8) dX9_init_94 rfl (by decide) (by decide) (by decide) (Nat.le_of_ble_eq_true rfl) (Nat.le_of_ble_eq_true rfl) ac_int ?_
  rw [show xz X23 = xz X + 109 by omega]
  obtain ⟨M24, hM24⟩ : ∃ Y, Y = zs M23 (xz X + 109) (fun _ => 0) := ⟨_, rfl⟩
  obtain ⟨X24, hX24⟩ : ∃ Y, Y = zNew X23 100 8 := ⟨_, rfl⟩
  rw [← hM24, ← hX24]
  have z24 : xz X24 = xz X + 110 := by rw [hX24]; show xz X23 + 1 = xz X + 110; omega
  have c0_24 : xc X24 (a) = 8 := by rw [hX24]; exact (zNew_co _ _ _ (by omega)).trans c0_23
  have c1_24 : xc X24 (xz X + 106) = 105 := by rw [hX24]; exact (zNew_co _ _ _ (by omega)).trans c1_23
  have l1_24 : xl X24 (xz X + 106) = 4 := by rw [hX24]; exact (zNew_lo _ _ _ (by omega)).trans l1_23
  have c2_24 : xc X24 (xz X + 107) = 106 := by rw [hX24]; exact (zNew_co _ _ _ (by omega)).trans c2_23
  have l2_24 : xl X24 (xz X + 107) = 5 := by rw [hX24]; exact (zNew_lo _ _ _ (by omega)).trans l2_23
  have r8_24 : xR X24 a 8 = some (xz X + 106) := by rw [hX24]; exact (congrFun (zNew_ro _ _ _ (by omega)) _).trans r8_23
  have r9_24 : xR X24 a 9 = some (xz X + 107) := by rw [hX24]; exact (congrFun (zNew_ro _ _ _ (by omega)) _).trans r9_23
  clear z22 c0_22 c1_22 c2_22 l1_22 l2_22 r8_22 r9_22 c3_22 l3_22
  have c3_24 : xc X24 (xz X + 109) = 100 := by rw [hX24]; rw [show xz X + 109 = xz X23 by omega]; exact zNew_c _ _ _
  have l3_24 : xl X24 (xz X + 109) = 8 := by rw [hX24]; rw [show xz X + 109 = xz X23 by omega]; exact zNew_l _ _ _
  refine j_putR (n := 99) (k := 12) (b := xz X + 109) dX9_init_96 rfl pX9_56 (fun _ => rfl) (.inr ⟨_, rfl⟩) c0_24 (by omega) (by omega) ?_
  obtain ⟨X25, hX25⟩ : ∃ Y, Y = zpu X24 a 12 (xz X + 109) := ⟨_, rfl⟩
  obtain ⟨M25, hM25⟩ : ∃ Y, Y = M24 := ⟨_, rfl⟩
  rw [← hX25, ← hM25]
  have z25 : xz X25 = xz X + 110 := by rw [hX25]; show xz X24 + 0 = xz X + 110; omega
  have c0_25 : xc X25 (a) = 8 := by rw [hX25]; exact c0_24
  have c1_25 : xc X25 (xz X + 106) = 105 := by rw [hX25]; exact c1_24
  have l1_25 : xl X25 (xz X + 106) = 4 := by rw [hX25]; exact l1_24
  have c2_25 : xc X25 (xz X + 107) = 106 := by rw [hX25]; exact c2_24
  have l2_25 : xl X25 (xz X + 107) = 5 := by rw [hX25]; exact l2_24
  have r8_25 : xR X25 a 8 = some (xz X + 106) := by rw [hX25]; exact (zpu_nk _ _ _ (by decide)).trans r8_24
  have r9_25 : xR X25 a 9 = some (xz X + 107) := by rw [hX25]; exact (zpu_nk _ _ _ (by decide)).trans r9_24
  clear z23 c0_23 c1_23 c2_23 l1_23 l2_23 r8_23 r9_23
  refine j_iconst (n := 100) (v := nI 0) dX9_init_99 rfl rfl ?_
  refine j_istore_n (n := 101) (lv2 := [some (.ref a), some (.int (nI 0))]) dX9_init_100 rfl rfl (by decide) rfl ?_
  have q1 : a < xz X25 := by omega
  have q2 : xz X + 106 < xz X25 := by omega
  have q3 : xz X + 107 < xz X25 := by omega
  clear z25
  subst hM1 hX1 hM2 hX2 hM3 hX3 hM4 hX4 hM5 hX5 hM6 hX6 hM7 hX7 hM8 hX8 hM9 hX9 hM10 hX10 hM11 hX11 hM12 hX12 hM13 hX13 hM14 hX14 hM15 hX15 hM16 hX16 hM17 hX17 hM18 hX18 hM19 hX19 hM20 hX20 hM21 hX21 hM22 hX22 hM23 hX23 hM24 hX24 hM25 hX25
  exact i_RootB d G _ _ a (xz X + 106) (xz X + 107) ha q1 (by omega) q2 (by omega) (by omega) q3 (by omega) (by omega) c0_25 c1_25 l1_25 r8_25 c2_25 l2_25 r9_25
