-- INIT E: by program (wip/whole/gen/c28.py)
/-- int[3][9] -/
def mulX (X : zX) : zX := zpu (zpu (zpu (zNew (zNew (zNew (zNew X 107 3) 100 9) 100 9) 100 9) (xz X) 0 (xz X + 1)) (xz X) 1 (xz X + 2)) (xz X) 2 (xz X + 3)
def mulM (M : zMem) (z : Nat) : zMem := zs (zs (zs (zs M z (fun _ => 0)) (z + 1) (fun _ => 0)) (z + 2) (fun _ => 0)) (z + 3) (fun _ => 0)
def iMWays (M : zMem) (X : zX) (_a : Nat) : zMem := zs (mulM (zs (zs M (xz X) (fun _ => 0)) (xz X + 1) (fun _ => 0)) (xz X + 2)) (xz X + 6) (fun _ => 0)
def iXWays (X : zX) (a : Nat) : zX := zpu (zNew (zpu (mulX (zpu (zNew (zpu (zNew X 100 8) a 0 (xz X)) 100 729) a 1 (xz X + 1))) a 2 (xz X + 2)) 100 3) a 3 (xz X + 6)
theorem iXWays_z (X : zX) (a : Nat) : xz (iXWays X a) = xz X + 7 := rfl
theorem iXWays_o {X : zX} {a b : Nat} (h : b < xz X) : xc (iXWays X a) b = xc X b ∧ xl (iXWays X a) b = xl X b := by
  refine ⟨?_, ?_⟩
  · unfold iXWays mulX
    repeat (first | rw [zpu_c] | rw [zNew_co _ _ _ (by first | omega | (simp only [zpu_z, zNew_z]; omega))])
  · unfold iXWays mulX
    repeat (first | rw [zpu_l] | rw [zNew_lo _ _ _ (by first | omega | (simp only [zpu_z, zNew_z]; omega))])
theorem iXWays_r {X : zX} {a b : Nat} (h : b < xz X) (h2 : b ≠ a) : xR (iXWays X a) b = xR X b := by
  unfold iXWays mulX
  repeat (first | rw [zpu_ne _ _ _ (by first | omega | (simp only [zpu_z, zNew_z]; omega))] | rw [zNew_ro _ _ _ (by first | omega | (simp only [zpu_z, zNew_z]; omega))])
def WaysI : Prop := ∀ (d : Nat) (G : zG) (M : zMem) (X : zX) (a : Nat), xc X a = 7 → 16 ≤ a → a < xz X → zCall G miX8_init (d + 1) [.ref a] (zV (iMWays M X a) (iXWays X a)) M X 7 770
def iMRootC (M : zMem) (X : zX) (a sl : Nat) : zMem := (iMSlot (zs (iMSlot (zs (iMSlot (zs (iMSlot (zs (iMSlot (zs M (xz X) (fun _ => 0)) (zNew X 4 0) (xz X)) (xz X + 5) (fun _ => 0)) (zNew (zpu (iXSlot (zNew X 4 0) (xz X)) sl 0 (xz X)) 4 0) (xz X + 5)) (xz X + 10) (fun _ => 0)) (zNew (zpu (iXSlot (zNew (zpu (iXSlot (zNew X 4 0) (xz X)) sl 0 (xz X)) 4 0) (xz X + 5)) sl 1 (xz X + 5)) 4 0) (xz X + 10)) (xz X + 15) (fun _ => 0)) (zNew (zpu (iXSlot (zNew (zpu (iXSlot (zNew (zpu (iXSlot (zNew X 4 0) (xz X)) sl 0 (xz X)) 4 0) (xz X + 5)) sl 1 (xz X + 5)) 4 0) (xz X + 10)) sl 2 (xz X + 10)) 4 0) (xz X + 15)) (xz X + 20) (fun _ => 0)) (zNew (zpu (iXSlot (zNew (zpu (iXSlot (zNew (zpu (iXSlot (zNew (zpu (iXSlot (zNew X 4 0) (xz X)) sl 0 (xz X)) 4 0) (xz X + 5)) sl 1 (xz X + 5)) 4 0) (xz X + 10)) sl 2 (xz X + 10)) 4 0) (xz X + 15)) sl 3 (xz X + 15)) 4 0) (xz X + 20))
def iXRootC (X : zX) (a sl : Nat) : zX := zpu (iXSlot (zNew (zpu (iXSlot (zNew (zpu (iXSlot (zNew (zpu (iXSlot (zNew (zpu (iXSlot (zNew X 4 0) (xz X)) sl 0 (xz X)) 4 0) (xz X + 5)) sl 1 (xz X + 5)) 4 0) (xz X + 10)) sl 2 (xz X + 10)) 4 0) (xz X + 15)) sl 3 (xz X + 15)) 4 0) (xz X + 20)) sl 4 (xz X + 20)
theorem i_RootC (d : Nat) (G : zG) (M : zMem) (X : zX) (a sl : Nat) (ha : 16 ≤ a) (hax : a < xz X) (hsl : 16 ≤ sl) (gsl : sl < xz X) (dsl : a ≠ sl) (c0_0 : xc X a = 8) (c1_0 : xc X sl = 106) (l1_0 : xl X sl = 5) (r9_0 : xR X a 9 = some sl) : zAt G miX9_init (zRm (d + 3) 143 1887) (zQ G (zV (iMRootC M X a sl) (iXRootC X a sl)) 143 1887) 127 [some (.ref a), some (.int (nI 0))] [] M X (118, 1702) := by
  have z0 : xz X = xz X + 0 := rfl
  refine j_iload_n (n := 128) dX9_init_127 rfl rfl ?_
  refine j_iconst (n := 129) (v := nI 5) dX9_init_128 rfl rfl ?_
  refine j_icmp_geT (n := 132) (tg := 151) dX9_init_129 rfl rfl (i_N (by omega)) (i_N (by omega)) (fun h101 => ?_) (fun h101 => ?_)
  · exact absurd h101 (by decide)
  · refine j_aload_n (n := 133) dX9_init_132 rfl rfl ?_
    refine j_getr (n := 136) (k := 9) (b := sl) dX9_init_133 rfl fX9_48 c0_0 (by omega) (by omega) r9_0 ?_
    refine j_iload_n (n := 137) dX9_init_136 rfl rfl ?_
    refine j_new (n := 140) dX9_init_137 rfl nX9_46 (Nat.le_of_ble_eq_true rfl) (Nat.le_of_ble_eq_true rfl) ?_
    obtain ⟨M1, hM1⟩ : ∃ Y, Y = zs M (xz X) (fun _ => 0) := ⟨_, rfl⟩
    obtain ⟨X1, hX1⟩ : ∃ Y, Y = zNew X 4 0 := ⟨_, rfl⟩
    rw [← hM1, ← hX1]
    have z1 : xz X1 = xz X + 1 := by rw [hX1]; show xz X + 1 = xz X + 1; omega
    have c0_1 : xc X1 (a) = 8 := by rw [hX1]; exact (zNew_co _ _ _ (by omega)).trans c0_0
    have c1_1 : xc X1 (sl) = 106 := by rw [hX1]; exact (zNew_co _ _ _ (by omega)).trans c1_0
    have l1_1 : xl X1 (sl) = 5 := by rw [hX1]; exact (zNew_lo _ _ _ (by omega)).trans l1_0
    have r9_1 : xR X1 a 9 = some (sl) := by rw [hX1]; exact (congrFun (zNew_ro _ _ _ (by omega)) _).trans r9_0
    have c2_1 : xc X1 (xz X) = 4 := by rw [hX1]; exact zNew_c _ _ _
    refine j_dup (n := 141) dX9_init_140 rfl rfl ?_
    refine j_callIN (n := 144) (a := xz X) (as := []) (st := [.ref (xz X), .int (nI 0), .ref sl]) dX9_init_141 rfl sX9_60 (i_Slot d G M1 X1 (xz X) c2_1 (by omega) (by omega)) (by omega) (by decide) rfl rfl (Nat.le_of_ble_eq_true rfl) (Nat.le_of_ble_eq_true rfl) (Nat.le_of_ble_eq_true rfl) (fun v N1 Y1 hh => ?_)
    obtain ⟨rfl, hN, hY⟩ := hh
    rw [hN, hY]
    clear hN hY
    obtain ⟨M2, hM2⟩ : ∃ Y, Y = iMSlot M1 X1 (xz X) := ⟨_, rfl⟩
    obtain ⟨X2, hX2⟩ : ∃ Y, Y = iXSlot X1 (xz X) := ⟨_, rfl⟩
    rw [← hM2, ← hX2]
    have z2 : xz X2 = xz X + 5 := by rw [hX2]; show xz X1 + 4 = xz X + 5; omega
    have c0_2 : xc X2 (a) = 8 := by rw [hX2]; exact (iXSlot_o (by omega)).1.trans c0_1
    have c1_2 : xc X2 (sl) = 106 := by rw [hX2]; exact (iXSlot_o (by omega)).1.trans c1_1
    have l1_2 : xl X2 (sl) = 5 := by rw [hX2]; exact (iXSlot_o (by omega)).2.1.trans l1_1
    have c2_2 : xc X2 (xz X) = 4 := by rw [hX2]; exact (iXSlot_o (by omega)).1.trans c2_1
    have r9_2 : xR X2 a 9 = some (sl) := by rw [hX2]; exact (congrFun (iXSlot_r (by omega) (by omega)) _).trans r9_1
    refine j_aasR (n := 145) (a := sl) (b := xz X) (c := 4) (t := 6) (L := 5) (i := 0) dX9_init_144 rfl c1_2 (by decide) rfl l1_2 (by decide) (by decide) (by omega) (by omega) c2_2 rfl (by decide) (by omega) (by omega) ?_
    obtain ⟨X3, hX3⟩ : ∃ Y, Y = zpu X2 sl 0 (xz X) := ⟨_, rfl⟩
    obtain ⟨M3, hM3⟩ : ∃ Y, Y = M2 := ⟨_, rfl⟩
    rw [← hX3, ← hM3]
    have z3 : xz X3 = xz X + 5 := by rw [hX3]; show xz X2 + 0 = xz X + 5; omega
    have c0_3 : xc X3 (a) = 8 := by rw [hX3]; exact c0_2
    have c1_3 : xc X3 (sl) = 106 := by rw [hX3]; exact c1_2
    have l1_3 : xl X3 (sl) = 5 := by rw [hX3]; exact l1_2
    have r9_3 : xR X3 a 9 = some (sl) := by rw [hX3]; exact (congrFun (zpu_ne _ _ _ (by omega)) _).trans r9_2
    clear z1 c0_1 c1_1 l1_1 r9_1 c2_1
    refine j_iinc (n := 148) (y := nI 1) (lv2 := [some (.ref a), some (.int (nI 1))]) dX9_init_145 rfl rfl (by decide) rfl (show nI 0 + nI 1 = nI 1 by rw [nI_add]; try (congr 1)) rfl ?_
    refine j_goto (n := 127) dX9_init_148 rfl ?_
    refine j_iload_n (n := 128) dX9_init_127 rfl rfl ?_
    refine j_iconst (n := 129) (v := nI 5) dX9_init_128 rfl rfl ?_
    refine j_icmp_geT (n := 132) (tg := 151) dX9_init_129 rfl rfl (i_N (by omega)) (i_N (by omega)) (fun h102 => ?_) (fun h102 => ?_)
    · exact absurd h102 (by decide)
    · refine j_aload_n (n := 133) dX9_init_132 rfl rfl ?_
      refine j_getr (n := 136) (k := 9) (b := sl) dX9_init_133 rfl fX9_48 c0_3 (by omega) (by omega) r9_3 ?_
      refine j_iload_n (n := 137) dX9_init_136 rfl rfl ?_
      refine j_new (n := 140) dX9_init_137 rfl nX9_46 (Nat.le_of_ble_eq_true rfl) (Nat.le_of_ble_eq_true rfl) ?_
      rw [show xz X3 = xz X + 5 by omega]
      obtain ⟨M4, hM4⟩ : ∃ Y, Y = zs M3 (xz X + 5) (fun _ => 0) := ⟨_, rfl⟩
      obtain ⟨X4, hX4⟩ : ∃ Y, Y = zNew X3 4 0 := ⟨_, rfl⟩
      rw [← hM4, ← hX4]
      have z4 : xz X4 = xz X + 6 := by rw [hX4]; show xz X3 + 1 = xz X + 6; omega
      have c0_4 : xc X4 (a) = 8 := by rw [hX4]; exact (zNew_co _ _ _ (by omega)).trans c0_3
      have c1_4 : xc X4 (sl) = 106 := by rw [hX4]; exact (zNew_co _ _ _ (by omega)).trans c1_3
      have l1_4 : xl X4 (sl) = 5 := by rw [hX4]; exact (zNew_lo _ _ _ (by omega)).trans l1_3
      have r9_4 : xR X4 a 9 = some (sl) := by rw [hX4]; exact (congrFun (zNew_ro _ _ _ (by omega)) _).trans r9_3
      clear z2 c0_2 c1_2 c2_2 l1_2 r9_2
      have c2_4 : xc X4 (xz X + 5) = 4 := by rw [hX4]; rw [show xz X + 5 = xz X3 by omega]; exact zNew_c _ _ _
      refine j_dup (n := 141) dX9_init_140 rfl rfl ?_
      refine j_callIN (n := 144) (a := xz X + 5) (as := []) (st := [.ref (xz X + 5), .int (nI 1), .ref sl]) dX9_init_141 rfl sX9_60 (i_Slot d G M4 X4 (xz X + 5) c2_4 (by omega) (by omega)) (by omega) (by decide) rfl rfl (Nat.le_of_ble_eq_true rfl) (Nat.le_of_ble_eq_true rfl) (Nat.le_of_ble_eq_true rfl) (fun v N1 Y1 hh => ?_)
      obtain ⟨rfl, hN, hY⟩ := hh
      rw [hN, hY]
      clear hN hY
      obtain ⟨M5, hM5⟩ : ∃ Y, Y = iMSlot M4 X4 (xz X + 5) := ⟨_, rfl⟩
      obtain ⟨X5, hX5⟩ : ∃ Y, Y = iXSlot X4 (xz X + 5) := ⟨_, rfl⟩
      rw [← hM5, ← hX5]
      have z5 : xz X5 = xz X + 10 := by rw [hX5]; show xz X4 + 4 = xz X + 10; omega
      have c0_5 : xc X5 (a) = 8 := by rw [hX5]; exact (iXSlot_o (by omega)).1.trans c0_4
      have c1_5 : xc X5 (sl) = 106 := by rw [hX5]; exact (iXSlot_o (by omega)).1.trans c1_4
      have l1_5 : xl X5 (sl) = 5 := by rw [hX5]; exact (iXSlot_o (by omega)).2.1.trans l1_4
      have c2_5 : xc X5 (xz X + 5) = 4 := by rw [hX5]; exact (iXSlot_o (by omega)).1.trans c2_4
      have r9_5 : xR X5 a 9 = some (sl) := by rw [hX5]; exact (congrFun (iXSlot_r (by omega) (by omega)) _).trans r9_4
      clear z3 c0_3 c1_3 l1_3 r9_3
      refine j_aasR (n := 145) (a := sl) (b := xz X + 5) (c := 4) (t := 6) (L := 5) (i := 1) dX9_init_144 rfl c1_5 (by decide) rfl l1_5 (by decide) (by decide) (by omega) (by omega) c2_5 rfl (by decide) (by omega) (by omega) ?_
      obtain ⟨X6, hX6⟩ : ∃ Y, Y = zpu X5 sl 1 (xz X + 5) := ⟨_, rfl⟩
      obtain ⟨M6, hM6⟩ : ∃ Y, Y = M5 := ⟨_, rfl⟩
      rw [← hX6, ← hM6]
      have z6 : xz X6 = xz X + 10 := by rw [hX6]; show xz X5 + 0 = xz X + 10; omega
      have c0_6 : xc X6 (a) = 8 := by rw [hX6]; exact c0_5
      have c1_6 : xc X6 (sl) = 106 := by rw [hX6]; exact c1_5
      have l1_6 : xl X6 (sl) = 5 := by rw [hX6]; exact l1_5
      have r9_6 : xR X6 a 9 = some (sl) := by rw [hX6]; exact (congrFun (zpu_ne _ _ _ (by omega)) _).trans r9_5
      clear z4 c0_4 c1_4 l1_4 r9_4 c2_4
      refine j_iinc (n := 148) (y := nI 2) (lv2 := [some (.ref a), some (.int (nI 2))]) dX9_init_145 rfl rfl (by decide) rfl (show nI 1 + nI 1 = nI 2 by rw [nI_add]; try (congr 1)) rfl ?_
      refine j_goto (n := 127) dX9_init_148 rfl ?_
      refine j_iload_n (n := 128) dX9_init_127 rfl rfl ?_
      refine j_iconst (n := 129) (v := nI 5) dX9_init_128 rfl rfl ?_
      refine j_icmp_geT (n := 132) (tg := 151) dX9_init_129 rfl rfl (i_N (by omega)) (i_N (by omega)) (fun h103 => ?_) (fun h103 => ?_)
      · exact absurd h103 (by decide)
      · refine j_aload_n (n := 133) dX9_init_132 rfl rfl ?_
        refine j_getr (n := 136) (k := 9) (b := sl) dX9_init_133 rfl fX9_48 c0_6 (by omega) (by omega) r9_6 ?_
        refine j_iload_n (n := 137) dX9_init_136 rfl rfl ?_
        refine j_new (n := 140) dX9_init_137 rfl nX9_46 (Nat.le_of_ble_eq_true rfl) (Nat.le_of_ble_eq_true rfl) ?_
        rw [show xz X6 = xz X + 10 by omega]
        obtain ⟨M7, hM7⟩ : ∃ Y, Y = zs M6 (xz X + 10) (fun _ => 0) := ⟨_, rfl⟩
        obtain ⟨X7, hX7⟩ : ∃ Y, Y = zNew X6 4 0 := ⟨_, rfl⟩
        rw [← hM7, ← hX7]
        have z7 : xz X7 = xz X + 11 := by rw [hX7]; show xz X6 + 1 = xz X + 11; omega
        have c0_7 : xc X7 (a) = 8 := by rw [hX7]; exact (zNew_co _ _ _ (by omega)).trans c0_6
        have c1_7 : xc X7 (sl) = 106 := by rw [hX7]; exact (zNew_co _ _ _ (by omega)).trans c1_6
        have l1_7 : xl X7 (sl) = 5 := by rw [hX7]; exact (zNew_lo _ _ _ (by omega)).trans l1_6
        have r9_7 : xR X7 a 9 = some (sl) := by rw [hX7]; exact (congrFun (zNew_ro _ _ _ (by omega)) _).trans r9_6
        clear z5 c0_5 c1_5 c2_5 l1_5 r9_5
        have c2_7 : xc X7 (xz X + 10) = 4 := by rw [hX7]; rw [show xz X + 10 = xz X6 by omega]; exact zNew_c _ _ _
        refine j_dup (n := 141) dX9_init_140 rfl rfl ?_
        refine j_callIN (n := 144) (a := xz X + 10) (as := []) (st := [.ref (xz X + 10), .int (nI 2), .ref sl]) dX9_init_141 rfl sX9_60 (i_Slot d G M7 X7 (xz X + 10) c2_7 (by omega) (by omega)) (by omega) (by decide) rfl rfl (Nat.le_of_ble_eq_true rfl) (Nat.le_of_ble_eq_true rfl) (Nat.le_of_ble_eq_true rfl) (fun v N1 Y1 hh => ?_)
        obtain ⟨rfl, hN, hY⟩ := hh
        rw [hN, hY]
        clear hN hY
        obtain ⟨M8, hM8⟩ : ∃ Y, Y = iMSlot M7 X7 (xz X + 10) := ⟨_, rfl⟩
        obtain ⟨X8, hX8⟩ : ∃ Y, Y = iXSlot X7 (xz X + 10) := ⟨_, rfl⟩
        rw [← hM8, ← hX8]
        have z8 : xz X8 = xz X + 15 := by rw [hX8]; show xz X7 + 4 = xz X + 15; omega
        have c0_8 : xc X8 (a) = 8 := by rw [hX8]; exact (iXSlot_o (by omega)).1.trans c0_7
        have c1_8 : xc X8 (sl) = 106 := by rw [hX8]; exact (iXSlot_o (by omega)).1.trans c1_7
        have l1_8 : xl X8 (sl) = 5 := by rw [hX8]; exact (iXSlot_o (by omega)).2.1.trans l1_7
        have c2_8 : xc X8 (xz X + 10) = 4 := by rw [hX8]; exact (iXSlot_o (by omega)).1.trans c2_7
        have r9_8 : xR X8 a 9 = some (sl) := by rw [hX8]; exact (congrFun (iXSlot_r (by omega) (by omega)) _).trans r9_7
        clear z6 c0_6 c1_6 l1_6 r9_6
        refine j_aasR (n := 145) (a := sl) (b := xz X + 10) (c := 4) (t := 6) (L := 5) (i := 2) dX9_init_144 rfl c1_8 (by decide) rfl l1_8 (by decide) (by decide) (by omega) (by omega) c2_8 rfl (by decide) (by omega) (by omega) ?_
        obtain ⟨X9, hX9⟩ : ∃ Y, Y = zpu X8 sl 2 (xz X + 10) := ⟨_, rfl⟩
        obtain ⟨M9, hM9⟩ : ∃ Y, Y = M8 := ⟨_, rfl⟩
        rw [← hX9, ← hM9]
        have z9 : xz X9 = xz X + 15 := by rw [hX9]; show xz X8 + 0 = xz X + 15; omega
        have c0_9 : xc X9 (a) = 8 := by rw [hX9]; exact c0_8
        have c1_9 : xc X9 (sl) = 106 := by rw [hX9]; exact c1_8
        have l1_9 : xl X9 (sl) = 5 := by rw [hX9]; exact l1_8
        have r9_9 : xR X9 a 9 = some (sl) := by rw [hX9]; exact (congrFun (zpu_ne _ _ _ (by omega)) _).trans r9_8
        clear z7 c0_7 c1_7 l1_7 r9_7 c2_7
        refine j_iinc (n := 148) (y := nI 3) (lv2 := [some (.ref a), some (.int (nI 3))]) dX9_init_145 rfl rfl (by decide) rfl (show nI 2 + nI 1 = nI 3 by rw [nI_add]; try (congr 1)) rfl ?_
        refine j_goto (n := 127) dX9_init_148 rfl ?_
        refine j_iload_n (n := 128) dX9_init_127 rfl rfl ?_
        refine j_iconst (n := 129) (v := nI 5) dX9_init_128 rfl rfl ?_
        refine j_icmp_geT (n := 132) (tg := 151) dX9_init_129 rfl rfl (i_N (by omega)) (i_N (by omega)) (fun h104 => ?_) (fun h104 => ?_)
        · exact absurd h104 (by decide)
        · refine j_aload_n (n := 133) dX9_init_132 rfl rfl ?_
          refine j_getr (n := 136) (k := 9) (b := sl) dX9_init_133 rfl fX9_48 c0_9 (by omega) (by omega) r9_9 ?_
          refine j_iload_n (n := 137) dX9_init_136 rfl rfl ?_
          refine j_new (n := 140) dX9_init_137 rfl nX9_46 (Nat.le_of_ble_eq_true rfl) (Nat.le_of_ble_eq_true rfl) ?_
          rw [show xz X9 = xz X + 15 by omega]
          obtain ⟨M10, hM10⟩ : ∃ Y, Y = zs M9 (xz X + 15) (fun _ => 0) := ⟨_, rfl⟩
          obtain ⟨X10, hX10⟩ : ∃ Y, Y = zNew X9 4 0 := ⟨_, rfl⟩
          rw [← hM10, ← hX10]
          have z10 : xz X10 = xz X + 16 := by rw [hX10]; show xz X9 + 1 = xz X + 16; omega
          have c0_10 : xc X10 (a) = 8 := by rw [hX10]; exact (zNew_co _ _ _ (by omega)).trans c0_9
          have c1_10 : xc X10 (sl) = 106 := by rw [hX10]; exact (zNew_co _ _ _ (by omega)).trans c1_9
          have l1_10 : xl X10 (sl) = 5 := by rw [hX10]; exact (zNew_lo _ _ _ (by omega)).trans l1_9
          have r9_10 : xR X10 a 9 = some (sl) := by rw [hX10]; exact (congrFun (zNew_ro _ _ _ (by omega)) _).trans r9_9
          clear z8 c0_8 c1_8 c2_8 l1_8 r9_8
          have c2_10 : xc X10 (xz X + 15) = 4 := by rw [hX10]; rw [show xz X + 15 = xz X9 by omega]; exact zNew_c _ _ _
          refine j_dup (n := 141) dX9_init_140 rfl rfl ?_
          refine j_callIN (n := 144) (a := xz X + 15) (as := []) (st := [.ref (xz X + 15), .int (nI 3), .ref sl]) dX9_init_141 rfl sX9_60 (i_Slot d G M10 X10 (xz X + 15) c2_10 (by omega) (by omega)) (by omega) (by decide) rfl rfl (Nat.le_of_ble_eq_true rfl) (Nat.le_of_ble_eq_true rfl) (Nat.le_of_ble_eq_true rfl) (fun v N1 Y1 hh => ?_)
          obtain ⟨rfl, hN, hY⟩ := hh
          rw [hN, hY]
          clear hN hY
          obtain ⟨M11, hM11⟩ : ∃ Y, Y = iMSlot M10 X10 (xz X + 15) := ⟨_, rfl⟩
          obtain ⟨X11, hX11⟩ : ∃ Y, Y = iXSlot X10 (xz X + 15) := ⟨_, rfl⟩
          rw [← hM11, ← hX11]
          have z11 : xz X11 = xz X + 20 := by rw [hX11]; show xz X10 + 4 = xz X + 20; omega
          have c0_11 : xc X11 (a) = 8 := by rw [hX11]; exact (iXSlot_o (by omega)).1.trans c0_10
          have c1_11 : xc X11 (sl) = 106 := by rw [hX11]; exact (iXSlot_o (by omega)).1.trans c1_10
          have l1_11 : xl X11 (sl) = 5 := by rw [hX11]; exact (iXSlot_o (by omega)).2.1.trans l1_10
          have c2_11 : xc X11 (xz X + 15) = 4 := by rw [hX11]; exact (iXSlot_o (by omega)).1.trans c2_10
          have r9_11 : xR X11 a 9 = some (sl) := by rw [hX11]; exact (congrFun (iXSlot_r (by omega) (by omega)) _).trans r9_10
          clear z9 c0_9 c1_9 l1_9 r9_9
          refine j_aasR (n := 145) (a := sl) (b := xz X + 15) (c := 4) (t := 6) (L := 5) (i := 3) dX9_init_144 rfl c1_11 (by decide) rfl l1_11 (by decide) (by decide) (by omega) (by omega) c2_11 rfl (by decide) (by omega) (by omega) ?_
          obtain ⟨X12, hX12⟩ : ∃ Y, Y = zpu X11 sl 3 (xz X + 15) := ⟨_, rfl⟩
          obtain ⟨M12, hM12⟩ : ∃ Y, Y = M11 := ⟨_, rfl⟩
          rw [← hX12, ← hM12]
          have z12 : xz X12 = xz X + 20 := by rw [hX12]; show xz X11 + 0 = xz X + 20; omega
          have c0_12 : xc X12 (a) = 8 := by rw [hX12]; exact c0_11
          have c1_12 : xc X12 (sl) = 106 := by rw [hX12]; exact c1_11
          have l1_12 : xl X12 (sl) = 5 := by rw [hX12]; exact l1_11
          have r9_12 : xR X12 a 9 = some (sl) := by rw [hX12]; exact (congrFun (zpu_ne _ _ _ (by omega)) _).trans r9_11
          clear z10 c0_10 c1_10 l1_10 r9_10 c2_10
          refine j_iinc (n := 148) (y := nI 4) (lv2 := [some (.ref a), some (.int (nI 4))]) dX9_init_145 rfl rfl (by decide) rfl (show nI 3 + nI 1 = nI 4 by rw [nI_add]; try (congr 1)) rfl ?_
          refine j_goto (n := 127) dX9_init_148 rfl ?_
          refine j_iload_n (n := 128) dX9_init_127 rfl rfl ?_
          refine j_iconst (n := 129) (v := nI 5) dX9_init_128 rfl rfl ?_
          refine j_icmp_geT (n := 132) (tg := 151) dX9_init_129 rfl rfl (i_N (by omega)) (i_N (by omega)) (fun h105 => ?_) (fun h105 => ?_)
          · exact absurd h105 (by decide)
          · refine j_aload_n (n := 133) dX9_init_132 rfl rfl ?_
            refine j_getr (n := 136) (k := 9) (b := sl) dX9_init_133 rfl fX9_48 c0_12 (by omega) (by omega) r9_12 ?_
            refine j_iload_n (n := 137) dX9_init_136 rfl rfl ?_
            refine j_new (n := 140) dX9_init_137 rfl nX9_46 (Nat.le_of_ble_eq_true rfl) (Nat.le_of_ble_eq_true rfl) ?_
            rw [show xz X12 = xz X + 20 by omega]
            obtain ⟨M13, hM13⟩ : ∃ Y, Y = zs M12 (xz X + 20) (fun _ => 0) := ⟨_, rfl⟩
            obtain ⟨X13, hX13⟩ : ∃ Y, Y = zNew X12 4 0 := ⟨_, rfl⟩
            rw [← hM13, ← hX13]
            have z13 : xz X13 = xz X + 21 := by rw [hX13]; show xz X12 + 1 = xz X + 21; omega
            have c0_13 : xc X13 (a) = 8 := by rw [hX13]; exact (zNew_co _ _ _ (by omega)).trans c0_12
            have c1_13 : xc X13 (sl) = 106 := by rw [hX13]; exact (zNew_co _ _ _ (by omega)).trans c1_12
            have l1_13 : xl X13 (sl) = 5 := by rw [hX13]; exact (zNew_lo _ _ _ (by omega)).trans l1_12
            have r9_13 : xR X13 a 9 = some (sl) := by rw [hX13]; exact (congrFun (zNew_ro _ _ _ (by omega)) _).trans r9_12
            clear z11 c0_11 c1_11 c2_11 l1_11 r9_11
            have c2_13 : xc X13 (xz X + 20) = 4 := by rw [hX13]; rw [show xz X + 20 = xz X12 by omega]; exact zNew_c _ _ _
            refine j_dup (n := 141) dX9_init_140 rfl rfl ?_
            refine j_callIN (n := 144) (a := xz X + 20) (as := []) (st := [.ref (xz X + 20), .int (nI 4), .ref sl]) dX9_init_141 rfl sX9_60 (i_Slot d G M13 X13 (xz X + 20) c2_13 (by omega) (by omega)) (by omega) (by decide) rfl rfl (Nat.le_of_ble_eq_true rfl) (Nat.le_of_ble_eq_true rfl) (Nat.le_of_ble_eq_true rfl) (fun v N1 Y1 hh => ?_)
            obtain ⟨rfl, hN, hY⟩ := hh
            rw [hN, hY]
            clear hN hY
            obtain ⟨M14, hM14⟩ : ∃ Y, Y = iMSlot M13 X13 (xz X + 20) := ⟨_, rfl⟩
            obtain ⟨X14, hX14⟩ : ∃ Y, Y = iXSlot X13 (xz X + 20) := ⟨_, rfl⟩
            rw [← hM14, ← hX14]
            have z14 : xz X14 = xz X + 25 := by rw [hX14]; show xz X13 + 4 = xz X + 25; omega
            have c0_14 : xc X14 (a) = 8 := by rw [hX14]; exact (iXSlot_o (by omega)).1.trans c0_13
            have c1_14 : xc X14 (sl) = 106 := by rw [hX14]; exact (iXSlot_o (by omega)).1.trans c1_13
            have l1_14 : xl X14 (sl) = 5 := by rw [hX14]; exact (iXSlot_o (by omega)).2.1.trans l1_13
            have c2_14 : xc X14 (xz X + 20) = 4 := by rw [hX14]; exact (iXSlot_o (by omega)).1.trans c2_13
            have r9_14 : xR X14 a 9 = some (sl) := by rw [hX14]; exact (congrFun (iXSlot_r (by omega) (by omega)) _).trans r9_13
            clear z12 c0_12 c1_12 l1_12 r9_12
            refine j_aasR (n := 145) (a := sl) (b := xz X + 20) (c := 4) (t := 6) (L := 5) (i := 4) dX9_init_144 rfl c1_14 (by decide) rfl l1_14 (by decide) (by decide) (by omega) (by omega) c2_14 rfl (by decide) (by omega) (by omega) ?_
            obtain ⟨X15, hX15⟩ : ∃ Y, Y = zpu X14 sl 4 (xz X + 20) := ⟨_, rfl⟩
            obtain ⟨M15, hM15⟩ : ∃ Y, Y = M14 := ⟨_, rfl⟩
            rw [← hX15, ← hM15]
            have z15 : xz X15 = xz X + 25 := by rw [hX15]; show xz X14 + 0 = xz X + 25; omega
            have c0_15 : xc X15 (a) = 8 := by rw [hX15]; exact c0_14
            have c1_15 : xc X15 (sl) = 106 := by rw [hX15]; exact c1_14
            have l1_15 : xl X15 (sl) = 5 := by rw [hX15]; exact l1_14
            have r9_15 : xR X15 a 9 = some (sl) := by rw [hX15]; exact (congrFun (zpu_ne _ _ _ (by omega)) _).trans r9_14
            clear z13 c0_13 c1_13 l1_13 r9_13 c2_13
            refine j_iinc (n := 148) (y := nI 5) (lv2 := [some (.ref a), some (.int (nI 5))]) dX9_init_145 rfl rfl (by decide) rfl (show nI 4 + nI 1 = nI 5 by rw [nI_add]; try (congr 1)) rfl ?_
            refine j_goto (n := 127) dX9_init_148 rfl ?_
            refine j_iload_n (n := 128) dX9_init_127 rfl rfl ?_
            refine j_iconst (n := 129) (v := nI 5) dX9_init_128 rfl rfl ?_
            refine j_icmp_geT (n := 132) (tg := 151) dX9_init_129 rfl rfl (i_N (by omega)) (i_N (by omega)) (fun h106 => ?_) (fun h106 => ?_)
            · exact j_rv dX9_init_151 rfl (Nat.le_of_ble_eq_true rfl) (Nat.le_of_ble_eq_true rfl) (by subst hM1 hX1 hM2 hX2 hM3 hX3 hM4 hX4 hM5 hX5 hM6 hX6 hM7 hX7 hM8 hX8 hM9 hX9 hM10 hX10 hM11 hX11 hM12 hX12 hM13 hX13 hM14 hX14 hM15 hX15; rfl) (by subst hM1 hX1 hM2 hX2 hM3 hX3 hM4 hX4 hM5 hX5 hM6 hX6 hM7 hX7 hM8 hX8 hM9 hX9 hM10 hX10 hM11 hX11 hM12 hX12 hM13 hX13 hM14 hX14 hM15 hX15; rfl)
            · exact absurd h106 (by decide)
def iMRootB (M : zMem) (X : zX) (a sh : Nat) : zMem := (iMSheet (zs (iMSheet (zs (iMSheet (zs (iMSheet (zs M (xz X) (fun _ => 0)) (zNew X 3 0) (xz X)) (xz X + 2) (fun _ => 0)) (zNew (zpu (iXSheet (zNew X 3 0) (xz X)) sh 0 (xz X)) 3 0) (xz X + 2)) (xz X + 4) (fun _ => 0)) (zNew (zpu (iXSheet (zNew (zpu (iXSheet (zNew X 3 0) (xz X)) sh 0 (xz X)) 3 0) (xz X + 2)) sh 1 (xz X + 2)) 3 0) (xz X + 4)) (xz X + 6) (fun _ => 0)) (zNew (zpu (iXSheet (zNew (zpu (iXSheet (zNew (zpu (iXSheet (zNew X 3 0) (xz X)) sh 0 (xz X)) 3 0) (xz X + 2)) sh 1 (xz X + 2)) 3 0) (xz X + 4)) sh 2 (xz X + 4)) 3 0) (xz X + 6))
def iXRootB (X : zX) (a sh : Nat) : zX := zpu (iXSheet (zNew (zpu (iXSheet (zNew (zpu (iXSheet (zNew (zpu (iXSheet (zNew X 3 0) (xz X)) sh 0 (xz X)) 3 0) (xz X + 2)) sh 1 (xz X + 2)) 3 0) (xz X + 4)) sh 2 (xz X + 4)) 3 0) (xz X + 6)) sh 3 (xz X + 6)
theorem i_RootB (d : Nat) (G : zG) (M : zMem) (X : zX) (a sh sl : Nat) (ha : 16 ≤ a) (hax : a < xz X) (hsh : 16 ≤ sh) (gsh : sh < xz X) (dsh : a ≠ sh) (hsl : 16 ≤ sl) (gsl : sl < xz X) (dsl : a ≠ sl) (dss : sh ≠ sl) (c0_0 : xc X a = 8) (c1_0 : xc X sh = 105) (l1_0 : xl X sh = 4) (r8_0 : xR X a 8 = some sh) (c2_0 : xc X sl = 106) (l2_0 : xl X sl = 5) (r9_0 : xR X a 9 = some sl) : zAt G miX9_init (zRm (d + 3) 143 1887) (zQ G (zV (iMRootC (iMRootB M X a sh) (iXRootB X a sh) a sl) (iXRootC (iXRootB X a sh) a sl)) 143 1887) 101 [some (.ref a), some (.int (nI 0))] [] M X (110, 1594) := by
  have z0 : xz X = xz X + 0 := rfl
  refine j_iload_n (n := 102) dX9_init_101 rfl rfl ?_
  refine j_iconst (n := 103) (v := nI 4) dX9_init_102 rfl rfl ?_
  refine j_icmp_geT (n := 106) (tg := 125) dX9_init_103 rfl rfl (i_N (by omega)) (i_N (by omega)) (fun h101 => ?_) (fun h101 => ?_)
  · exact absurd h101 (by decide)
  · refine j_aload_n (n := 107) dX9_init_106 rfl rfl ?_
    refine j_getr (n := 110) (k := 8) (b := sh) dX9_init_107 rfl fX9_42 c0_0 (by omega) (by omega) r8_0 ?_
    refine j_iload_n (n := 111) dX9_init_110 rfl rfl ?_
    refine j_new (n := 114) dX9_init_111 rfl nX9_40 (Nat.le_of_ble_eq_true rfl) (Nat.le_of_ble_eq_true rfl) ?_
    obtain ⟨M1, hM1⟩ : ∃ Y, Y = zs M (xz X) (fun _ => 0) := ⟨_, rfl⟩
    obtain ⟨X1, hX1⟩ : ∃ Y, Y = zNew X 3 0 := ⟨_, rfl⟩
    rw [← hM1, ← hX1]
    have z1 : xz X1 = xz X + 1 := by rw [hX1]; show xz X + 1 = xz X + 1; omega
    have c0_1 : xc X1 (a) = 8 := by rw [hX1]; exact (zNew_co _ _ _ (by omega)).trans c0_0
    have c1_1 : xc X1 (sh) = 105 := by rw [hX1]; exact (zNew_co _ _ _ (by omega)).trans c1_0
    have l1_1 : xl X1 (sh) = 4 := by rw [hX1]; exact (zNew_lo _ _ _ (by omega)).trans l1_0
    have c2_1 : xc X1 (sl) = 106 := by rw [hX1]; exact (zNew_co _ _ _ (by omega)).trans c2_0
    have l2_1 : xl X1 (sl) = 5 := by rw [hX1]; exact (zNew_lo _ _ _ (by omega)).trans l2_0
    have r8_1 : xR X1 a 8 = some (sh) := by rw [hX1]; exact (congrFun (zNew_ro _ _ _ (by omega)) _).trans r8_0
    have r9_1 : xR X1 a 9 = some (sl) := by rw [hX1]; exact (congrFun (zNew_ro _ _ _ (by omega)) _).trans r9_0
    have c3_1 : xc X1 (xz X) = 3 := by rw [hX1]; exact zNew_c _ _ _
    refine j_dup (n := 115) dX9_init_114 rfl rfl ?_
    refine j_callIN (n := 118) (a := xz X) (as := []) (st := [.ref (xz X), .int (nI 0), .ref sh]) dX9_init_115 rfl sX9_59 (i_Sheet (d + 1) G M1 X1 (xz X) c3_1 (by omega) (by omega)) (by omega) (by decide) rfl rfl (Nat.le_of_ble_eq_true rfl) (Nat.le_of_ble_eq_true rfl) (Nat.le_of_ble_eq_true rfl) (fun v N1 Y1 hh => ?_)
    obtain ⟨rfl, hN, hY⟩ := hh
    rw [hN, hY]
    clear hN hY
    obtain ⟨M2, hM2⟩ : ∃ Y, Y = iMSheet M1 X1 (xz X) := ⟨_, rfl⟩
    obtain ⟨X2, hX2⟩ : ∃ Y, Y = iXSheet X1 (xz X) := ⟨_, rfl⟩
    rw [← hM2, ← hX2]
    have z2 : xz X2 = xz X + 2 := by rw [hX2]; show xz X1 + 1 = xz X + 2; omega
    have c0_2 : xc X2 (a) = 8 := by rw [hX2]; exact (iXSheet_o (by omega)).1.trans c0_1
    have c1_2 : xc X2 (sh) = 105 := by rw [hX2]; exact (iXSheet_o (by omega)).1.trans c1_1
    have l1_2 : xl X2 (sh) = 4 := by rw [hX2]; exact (iXSheet_o (by omega)).2.1.trans l1_1
    have c2_2 : xc X2 (sl) = 106 := by rw [hX2]; exact (iXSheet_o (by omega)).1.trans c2_1
    have l2_2 : xl X2 (sl) = 5 := by rw [hX2]; exact (iXSheet_o (by omega)).2.1.trans l2_1
    have c3_2 : xc X2 (xz X) = 3 := by rw [hX2]; exact (iXSheet_o (by omega)).1.trans c3_1
    have r8_2 : xR X2 a 8 = some (sh) := by rw [hX2]; exact (congrFun (iXSheet_r (by omega) (by omega)) _).trans r8_1
    have r9_2 : xR X2 a 9 = some (sl) := by rw [hX2]; exact (congrFun (iXSheet_r (by omega) (by omega)) _).trans r9_1
    refine j_aasR (n := 119) (a := sh) (b := xz X) (c := 3) (t := 5) (L := 4) (i := 0) dX9_init_118 rfl c1_2 (by decide) rfl l1_2 (by decide) (by decide) (by omega) (by omega) c3_2 rfl (by decide) (by omega) (by omega) ?_
    obtain ⟨X3, hX3⟩ : ∃ Y, Y = zpu X2 sh 0 (xz X) := ⟨_, rfl⟩
    obtain ⟨M3, hM3⟩ : ∃ Y, Y = M2 := ⟨_, rfl⟩
    rw [← hX3, ← hM3]
    have z3 : xz X3 = xz X + 2 := by rw [hX3]; show xz X2 + 0 = xz X + 2; omega
    have c0_3 : xc X3 (a) = 8 := by rw [hX3]; exact c0_2
    have c1_3 : xc X3 (sh) = 105 := by rw [hX3]; exact c1_2
    have l1_3 : xl X3 (sh) = 4 := by rw [hX3]; exact l1_2
    have c2_3 : xc X3 (sl) = 106 := by rw [hX3]; exact c2_2
    have l2_3 : xl X3 (sl) = 5 := by rw [hX3]; exact l2_2
    have r8_3 : xR X3 a 8 = some (sh) := by rw [hX3]; exact (congrFun (zpu_ne _ _ _ (by omega)) _).trans r8_2
    have r9_3 : xR X3 a 9 = some (sl) := by rw [hX3]; exact (congrFun (zpu_ne _ _ _ (by omega)) _).trans r9_2
    clear z1 c0_1 c1_1 c2_1 l1_1 l2_1 r8_1 r9_1 c3_1
    refine j_iinc (n := 122) (y := nI 1) (lv2 := [some (.ref a), some (.int (nI 1))]) dX9_init_119 rfl rfl (by decide) rfl (show nI 0 + nI 1 = nI 1 by rw [nI_add]; try (congr 1)) rfl ?_
    refine j_goto (n := 101) dX9_init_122 rfl ?_
    refine j_iload_n (n := 102) dX9_init_101 rfl rfl ?_
    refine j_iconst (n := 103) (v := nI 4) dX9_init_102 rfl rfl ?_
    refine j_icmp_geT (n := 106) (tg := 125) dX9_init_103 rfl rfl (i_N (by omega)) (i_N (by omega)) (fun h102 => ?_) (fun h102 => ?_)
    · exact absurd h102 (by decide)
    · refine j_aload_n (n := 107) dX9_init_106 rfl rfl ?_
      refine j_getr (n := 110) (k := 8) (b := sh) dX9_init_107 rfl fX9_42 c0_3 (by omega) (by omega) r8_3 ?_
      refine j_iload_n (n := 111) dX9_init_110 rfl rfl ?_
      refine j_new (n := 114) dX9_init_111 rfl nX9_40 (Nat.le_of_ble_eq_true rfl) (Nat.le_of_ble_eq_true rfl) ?_
      rw [show xz X3 = xz X + 2 by omega]
      obtain ⟨M4, hM4⟩ : ∃ Y, Y = zs M3 (xz X + 2) (fun _ => 0) := ⟨_, rfl⟩
      obtain ⟨X4, hX4⟩ : ∃ Y, Y = zNew X3 3 0 := ⟨_, rfl⟩
      rw [← hM4, ← hX4]
      have z4 : xz X4 = xz X + 3 := by rw [hX4]; show xz X3 + 1 = xz X + 3; omega
      have c0_4 : xc X4 (a) = 8 := by rw [hX4]; exact (zNew_co _ _ _ (by omega)).trans c0_3
      have c1_4 : xc X4 (sh) = 105 := by rw [hX4]; exact (zNew_co _ _ _ (by omega)).trans c1_3
      have l1_4 : xl X4 (sh) = 4 := by rw [hX4]; exact (zNew_lo _ _ _ (by omega)).trans l1_3
      have c2_4 : xc X4 (sl) = 106 := by rw [hX4]; exact (zNew_co _ _ _ (by omega)).trans c2_3
      have l2_4 : xl X4 (sl) = 5 := by rw [hX4]; exact (zNew_lo _ _ _ (by omega)).trans l2_3
      have r8_4 : xR X4 a 8 = some (sh) := by rw [hX4]; exact (congrFun (zNew_ro _ _ _ (by omega)) _).trans r8_3
      have r9_4 : xR X4 a 9 = some (sl) := by rw [hX4]; exact (congrFun (zNew_ro _ _ _ (by omega)) _).trans r9_3
      clear z2 c0_2 c1_2 c2_2 c3_2 l1_2 l2_2 r8_2 r9_2
      have c3_4 : xc X4 (xz X + 2) = 3 := by rw [hX4]; rw [show xz X + 2 = xz X3 by omega]; exact zNew_c _ _ _
      refine j_dup (n := 115) dX9_init_114 rfl rfl ?_
      refine j_callIN (n := 118) (a := xz X + 2) (as := []) (st := [.ref (xz X + 2), .int (nI 1), .ref sh]) dX9_init_115 rfl sX9_59 (i_Sheet (d + 1) G M4 X4 (xz X + 2) c3_4 (by omega) (by omega)) (by omega) (by decide) rfl rfl (Nat.le_of_ble_eq_true rfl) (Nat.le_of_ble_eq_true rfl) (Nat.le_of_ble_eq_true rfl) (fun v N1 Y1 hh => ?_)
      obtain ⟨rfl, hN, hY⟩ := hh
      rw [hN, hY]
      clear hN hY
      obtain ⟨M5, hM5⟩ : ∃ Y, Y = iMSheet M4 X4 (xz X + 2) := ⟨_, rfl⟩
      obtain ⟨X5, hX5⟩ : ∃ Y, Y = iXSheet X4 (xz X + 2) := ⟨_, rfl⟩
      rw [← hM5, ← hX5]
      have z5 : xz X5 = xz X + 4 := by rw [hX5]; show xz X4 + 1 = xz X + 4; omega
      have c0_5 : xc X5 (a) = 8 := by rw [hX5]; exact (iXSheet_o (by omega)).1.trans c0_4
      have c1_5 : xc X5 (sh) = 105 := by rw [hX5]; exact (iXSheet_o (by omega)).1.trans c1_4
      have l1_5 : xl X5 (sh) = 4 := by rw [hX5]; exact (iXSheet_o (by omega)).2.1.trans l1_4
      have c2_5 : xc X5 (sl) = 106 := by rw [hX5]; exact (iXSheet_o (by omega)).1.trans c2_4
      have l2_5 : xl X5 (sl) = 5 := by rw [hX5]; exact (iXSheet_o (by omega)).2.1.trans l2_4
      have c3_5 : xc X5 (xz X + 2) = 3 := by rw [hX5]; exact (iXSheet_o (by omega)).1.trans c3_4
      have r8_5 : xR X5 a 8 = some (sh) := by rw [hX5]; exact (congrFun (iXSheet_r (by omega) (by omega)) _).trans r8_4
      have r9_5 : xR X5 a 9 = some (sl) := by rw [hX5]; exact (congrFun (iXSheet_r (by omega) (by omega)) _).trans r9_4
      clear z3 c0_3 c1_3 c2_3 l1_3 l2_3 r8_3 r9_3
      refine j_aasR (n := 119) (a := sh) (b := xz X + 2) (c := 3) (t := 5) (L := 4) (i := 1) dX9_init_118 rfl c1_5 (by decide) rfl l1_5 (by decide) (by decide) (by omega) (by omega) c3_5 rfl (by decide) (by omega) (by omega) ?_
      obtain ⟨X6, hX6⟩ : ∃ Y, Y = zpu X5 sh 1 (xz X + 2) := ⟨_, rfl⟩
      obtain ⟨M6, hM6⟩ : ∃ Y, Y = M5 := ⟨_, rfl⟩
      rw [← hX6, ← hM6]
      have z6 : xz X6 = xz X + 4 := by rw [hX6]; show xz X5 + 0 = xz X + 4; omega
      have c0_6 : xc X6 (a) = 8 := by rw [hX6]; exact c0_5
      have c1_6 : xc X6 (sh) = 105 := by rw [hX6]; exact c1_5
      have l1_6 : xl X6 (sh) = 4 := by rw [hX6]; exact l1_5
      have c2_6 : xc X6 (sl) = 106 := by rw [hX6]; exact c2_5
      have l2_6 : xl X6 (sl) = 5 := by rw [hX6]; exact l2_5
      have r8_6 : xR X6 a 8 = some (sh) := by rw [hX6]; exact (congrFun (zpu_ne _ _ _ (by omega)) _).trans r8_5
      have r9_6 : xR X6 a 9 = some (sl) := by rw [hX6]; exact (congrFun (zpu_ne _ _ _ (by omega)) _).trans r9_5
      clear z4 c0_4 c1_4 c2_4 l1_4 l2_4 r8_4 r9_4 c3_4
      refine j_iinc (n := 122) (y := nI 2) (lv2 := [some (.ref a), some (.int (nI 2))]) dX9_init_119 rfl rfl (by decide) rfl (show nI 1 + nI 1 = nI 2 by rw [nI_add]; try (congr 1)) rfl ?_
      refine j_goto (n := 101) dX9_init_122 rfl ?_
      refine j_iload_n (n := 102) dX9_init_101 rfl rfl ?_
      refine j_iconst (n := 103) (v := nI 4) dX9_init_102 rfl rfl ?_
      refine j_icmp_geT (n := 106) (tg := 125) dX9_init_103 rfl rfl (i_N (by omega)) (i_N (by omega)) (fun h103 => ?_) (fun h103 => ?_)
      · exact absurd h103 (by decide)
      · refine j_aload_n (n := 107) dX9_init_106 rfl rfl ?_
        refine j_getr (n := 110) (k := 8) (b := sh) dX9_init_107 rfl fX9_42 c0_6 (by omega) (by omega) r8_6 ?_
        refine j_iload_n (n := 111) dX9_init_110 rfl rfl ?_
        refine j_new (n := 114) dX9_init_111 rfl nX9_40 (Nat.le_of_ble_eq_true rfl) (Nat.le_of_ble_eq_true rfl) ?_
        rw [show xz X6 = xz X + 4 by omega]
        obtain ⟨M7, hM7⟩ : ∃ Y, Y = zs M6 (xz X + 4) (fun _ => 0) := ⟨_, rfl⟩
        obtain ⟨X7, hX7⟩ : ∃ Y, Y = zNew X6 3 0 := ⟨_, rfl⟩
        rw [← hM7, ← hX7]
        have z7 : xz X7 = xz X + 5 := by rw [hX7]; show xz X6 + 1 = xz X + 5; omega
        have c0_7 : xc X7 (a) = 8 := by rw [hX7]; exact (zNew_co _ _ _ (by omega)).trans c0_6
        have c1_7 : xc X7 (sh) = 105 := by rw [hX7]; exact (zNew_co _ _ _ (by omega)).trans c1_6
        have l1_7 : xl X7 (sh) = 4 := by rw [hX7]; exact (zNew_lo _ _ _ (by omega)).trans l1_6
        have c2_7 : xc X7 (sl) = 106 := by rw [hX7]; exact (zNew_co _ _ _ (by omega)).trans c2_6
        have l2_7 : xl X7 (sl) = 5 := by rw [hX7]; exact (zNew_lo _ _ _ (by omega)).trans l2_6
        have r8_7 : xR X7 a 8 = some (sh) := by rw [hX7]; exact (congrFun (zNew_ro _ _ _ (by omega)) _).trans r8_6
        have r9_7 : xR X7 a 9 = some (sl) := by rw [hX7]; exact (congrFun (zNew_ro _ _ _ (by omega)) _).trans r9_6
        clear z5 c0_5 c1_5 c2_5 c3_5 l1_5 l2_5 r8_5 r9_5
        have c3_7 : xc X7 (xz X + 4) = 3 := by rw [hX7]; rw [show xz X + 4 = xz X6 by omega]; exact zNew_c _ _ _
        refine j_dup (n := 115) dX9_init_114 rfl rfl ?_
        refine j_callIN (n := 118) (a := xz X + 4) (as := []) (st := [.ref (xz X + 4), .int (nI 2), .ref sh]) dX9_init_115 rfl sX9_59 (i_Sheet (d + 1) G M7 X7 (xz X + 4) c3_7 (by omega) (by omega)) (by omega) (by decide) rfl rfl (Nat.le_of_ble_eq_true rfl) (Nat.le_of_ble_eq_true rfl) (Nat.le_of_ble_eq_true rfl) (fun v N1 Y1 hh => ?_)
        obtain ⟨rfl, hN, hY⟩ := hh
        rw [hN, hY]
        clear hN hY
        obtain ⟨M8, hM8⟩ : ∃ Y, Y = iMSheet M7 X7 (xz X + 4) := ⟨_, rfl⟩
        obtain ⟨X8, hX8⟩ : ∃ Y, Y = iXSheet X7 (xz X + 4) := ⟨_, rfl⟩
        rw [← hM8, ← hX8]
        have z8 : xz X8 = xz X + 6 := by rw [hX8]; show xz X7 + 1 = xz X + 6; omega
        have c0_8 : xc X8 (a) = 8 := by rw [hX8]; exact (iXSheet_o (by omega)).1.trans c0_7
        have c1_8 : xc X8 (sh) = 105 := by rw [hX8]; exact (iXSheet_o (by omega)).1.trans c1_7
        have l1_8 : xl X8 (sh) = 4 := by rw [hX8]; exact (iXSheet_o (by omega)).2.1.trans l1_7
        have c2_8 : xc X8 (sl) = 106 := by rw [hX8]; exact (iXSheet_o (by omega)).1.trans c2_7
        have l2_8 : xl X8 (sl) = 5 := by rw [hX8]; exact (iXSheet_o (by omega)).2.1.trans l2_7
        have c3_8 : xc X8 (xz X + 4) = 3 := by rw [hX8]; exact (iXSheet_o (by omega)).1.trans c3_7
        have r8_8 : xR X8 a 8 = some (sh) := by rw [hX8]; exact (congrFun (iXSheet_r (by omega) (by omega)) _).trans r8_7
        have r9_8 : xR X8 a 9 = some (sl) := by rw [hX8]; exact (congrFun (iXSheet_r (by omega) (by omega)) _).trans r9_7
        clear z6 c0_6 c1_6 c2_6 l1_6 l2_6 r8_6 r9_6
        refine j_aasR (n := 119) (a := sh) (b := xz X + 4) (c := 3) (t := 5) (L := 4) (i := 2) dX9_init_118 rfl c1_8 (by decide) rfl l1_8 (by decide) (by decide) (by omega) (by omega) c3_8 rfl (by decide) (by omega) (by omega) ?_
        obtain ⟨X9, hX9⟩ : ∃ Y, Y = zpu X8 sh 2 (xz X + 4) := ⟨_, rfl⟩
        obtain ⟨M9, hM9⟩ : ∃ Y, Y = M8 := ⟨_, rfl⟩
        rw [← hX9, ← hM9]
        have z9 : xz X9 = xz X + 6 := by rw [hX9]; show xz X8 + 0 = xz X + 6; omega
        have c0_9 : xc X9 (a) = 8 := by rw [hX9]; exact c0_8
        have c1_9 : xc X9 (sh) = 105 := by rw [hX9]; exact c1_8
        have l1_9 : xl X9 (sh) = 4 := by rw [hX9]; exact l1_8
        have c2_9 : xc X9 (sl) = 106 := by rw [hX9]; exact c2_8
        have l2_9 : xl X9 (sl) = 5 := by rw [hX9]; exact l2_8
        have r8_9 : xR X9 a 8 = some (sh) := by rw [hX9]; exact (congrFun (zpu_ne _ _ _ (by omega)) _).trans r8_8
        have r9_9 : xR X9 a 9 = some (sl) := by rw [hX9]; exact (congrFun (zpu_ne _ _ _ (by omega)) _).trans r9_8
        clear z7 c0_7 c1_7 c2_7 l1_7 l2_7 r8_7 r9_7 c3_7
        refine j_iinc (n := 122) (y := nI 3) (lv2 := [some (.ref a), some (.int (nI 3))]) dX9_init_119 rfl rfl (by decide) rfl (show nI 2 + nI 1 = nI 3 by rw [nI_add]; try (congr 1)) rfl ?_
        refine j_goto (n := 101) dX9_init_122 rfl ?_
        refine j_iload_n (n := 102) dX9_init_101 rfl rfl ?_
        refine j_iconst (n := 103) (v := nI 4) dX9_init_102 rfl rfl ?_
        refine j_icmp_geT (n := 106) (tg := 125) dX9_init_103 rfl rfl (i_N (by omega)) (i_N (by omega)) (fun h104 => ?_) (fun h104 => ?_)
        · exact absurd h104 (by decide)
        · refine j_aload_n (n := 107) dX9_init_106 rfl rfl ?_
          refine j_getr (n := 110) (k := 8) (b := sh) dX9_init_107 rfl fX9_42 c0_9 (by omega) (by omega) r8_9 ?_
          refine j_iload_n (n := 111) dX9_init_110 rfl rfl ?_
          refine j_new (n := 114) dX9_init_111 rfl nX9_40 (Nat.le_of_ble_eq_true rfl) (Nat.le_of_ble_eq_true rfl) ?_
          rw [show xz X9 = xz X + 6 by omega]
          obtain ⟨M10, hM10⟩ : ∃ Y, Y = zs M9 (xz X + 6) (fun _ => 0) := ⟨_, rfl⟩
          obtain ⟨X10, hX10⟩ : ∃ Y, Y = zNew X9 3 0 := ⟨_, rfl⟩
          rw [← hM10, ← hX10]
          have z10 : xz X10 = xz X + 7 := by rw [hX10]; show xz X9 + 1 = xz X + 7; omega
          have c0_10 : xc X10 (a) = 8 := by rw [hX10]; exact (zNew_co _ _ _ (by omega)).trans c0_9
          have c1_10 : xc X10 (sh) = 105 := by rw [hX10]; exact (zNew_co _ _ _ (by omega)).trans c1_9
          have l1_10 : xl X10 (sh) = 4 := by rw [hX10]; exact (zNew_lo _ _ _ (by omega)).trans l1_9
          have c2_10 : xc X10 (sl) = 106 := by rw [hX10]; exact (zNew_co _ _ _ (by omega)).trans c2_9
          have l2_10 : xl X10 (sl) = 5 := by rw [hX10]; exact (zNew_lo _ _ _ (by omega)).trans l2_9
          have r8_10 : xR X10 a 8 = some (sh) := by rw [hX10]; exact (congrFun (zNew_ro _ _ _ (by omega)) _).trans r8_9
          have r9_10 : xR X10 a 9 = some (sl) := by rw [hX10]; exact (congrFun (zNew_ro _ _ _ (by omega)) _).trans r9_9
          clear z8 c0_8 c1_8 c2_8 c3_8 l1_8 l2_8 r8_8 r9_8
          have c3_10 : xc X10 (xz X + 6) = 3 := by rw [hX10]; rw [show xz X + 6 = xz X9 by omega]; exact zNew_c _ _ _
          refine j_dup (n := 115) dX9_init_114 rfl rfl ?_
          refine j_callIN (n := 118) (a := xz X + 6) (as := []) (st := [.ref (xz X + 6), .int (nI 3), .ref sh]) dX9_init_115 rfl sX9_59 (i_Sheet (d + 1) G M10 X10 (xz X + 6) c3_10 (by omega) (by omega)) (by omega) (by decide) rfl rfl (Nat.le_of_ble_eq_true rfl) (Nat.le_of_ble_eq_true rfl) (Nat.le_of_ble_eq_true rfl) (fun v N1 Y1 hh => ?_)
          obtain ⟨rfl, hN, hY⟩ := hh
          rw [hN, hY]
          clear hN hY
          obtain ⟨M11, hM11⟩ : ∃ Y, Y = iMSheet M10 X10 (xz X + 6) := ⟨_, rfl⟩
          obtain ⟨X11, hX11⟩ : ∃ Y, Y = iXSheet X10 (xz X + 6) := ⟨_, rfl⟩
          rw [← hM11, ← hX11]
          have z11 : xz X11 = xz X + 8 := by rw [hX11]; show xz X10 + 1 = xz X + 8; omega
          have c0_11 : xc X11 (a) = 8 := by rw [hX11]; exact (iXSheet_o (by omega)).1.trans c0_10
          have c1_11 : xc X11 (sh) = 105 := by rw [hX11]; exact (iXSheet_o (by omega)).1.trans c1_10
          have l1_11 : xl X11 (sh) = 4 := by rw [hX11]; exact (iXSheet_o (by omega)).2.1.trans l1_10
          have c2_11 : xc X11 (sl) = 106 := by rw [hX11]; exact (iXSheet_o (by omega)).1.trans c2_10
          have l2_11 : xl X11 (sl) = 5 := by rw [hX11]; exact (iXSheet_o (by omega)).2.1.trans l2_10
          have c3_11 : xc X11 (xz X + 6) = 3 := by rw [hX11]; exact (iXSheet_o (by omega)).1.trans c3_10
          have r8_11 : xR X11 a 8 = some (sh) := by rw [hX11]; exact (congrFun (iXSheet_r (by omega) (by omega)) _).trans r8_10
          have r9_11 : xR X11 a 9 = some (sl) := by rw [hX11]; exact (congrFun (iXSheet_r (by omega) (by omega)) _).trans r9_10
          clear z9 c0_9 c1_9 c2_9 l1_9 l2_9 r8_9 r9_9
          refine j_aasR (n := 119) (a := sh) (b := xz X + 6) (c := 3) (t := 5) (L := 4) (i := 3) dX9_init_118 rfl c1_11 (by decide) rfl l1_11 (by decide) (by decide) (by omega) (by omega) c3_11 rfl (by decide) (by omega) (by omega) ?_
          obtain ⟨X12, hX12⟩ : ∃ Y, Y = zpu X11 sh 3 (xz X + 6) := ⟨_, rfl⟩
          obtain ⟨M12, hM12⟩ : ∃ Y, Y = M11 := ⟨_, rfl⟩
          rw [← hX12, ← hM12]
          have z12 : xz X12 = xz X + 8 := by rw [hX12]; show xz X11 + 0 = xz X + 8; omega
          have c0_12 : xc X12 (a) = 8 := by rw [hX12]; exact c0_11
          have c1_12 : xc X12 (sh) = 105 := by rw [hX12]; exact c1_11
          have l1_12 : xl X12 (sh) = 4 := by rw [hX12]; exact l1_11
          have c2_12 : xc X12 (sl) = 106 := by rw [hX12]; exact c2_11
          have l2_12 : xl X12 (sl) = 5 := by rw [hX12]; exact l2_11
          have r8_12 : xR X12 a 8 = some (sh) := by rw [hX12]; exact (congrFun (zpu_ne _ _ _ (by omega)) _).trans r8_11
          have r9_12 : xR X12 a 9 = some (sl) := by rw [hX12]; exact (congrFun (zpu_ne _ _ _ (by omega)) _).trans r9_11
          clear z10 c0_10 c1_10 c2_10 l1_10 l2_10 r8_10 r9_10 c3_10
          refine j_iinc (n := 122) (y := nI 4) (lv2 := [some (.ref a), some (.int (nI 4))]) dX9_init_119 rfl rfl (by decide) rfl (show nI 3 + nI 1 = nI 4 by rw [nI_add]; try (congr 1)) rfl ?_
          refine j_goto (n := 101) dX9_init_122 rfl ?_
          refine j_iload_n (n := 102) dX9_init_101 rfl rfl ?_
          refine j_iconst (n := 103) (v := nI 4) dX9_init_102 rfl rfl ?_
          refine j_icmp_geT (n := 106) (tg := 125) dX9_init_103 rfl rfl (i_N (by omega)) (i_N (by omega)) (fun h105 => ?_) (fun h105 => ?_)
          · refine j_iconst (n := 126) (v := nI 0) dX9_init_125 rfl rfl ?_
            refine j_istore_n (n := 127) (lv2 := [some (.ref a), some (.int (nI 0))]) dX9_init_126 rfl rfl (by decide) rfl ?_
            have q1 : a < xz X12 := by omega
            have q2 : sl < xz X12 := by omega
            clear z12
            subst hM1 hX1 hM2 hX2 hM3 hX3 hM4 hX4 hM5 hX5 hM6 hX6 hM7 hX7 hM8 hX8 hM9 hX9 hM10 hX10 hM11 hX11 hM12 hX12
            exact i_RootC d G _ _ a sl ha q1 hsl q2 dsl c0_12 c2_12 l2_12 r9_12
          · exact absurd h105 (by decide)
