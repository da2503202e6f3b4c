-- INIT A: by program (wip/whole/gen/c24.py)
def iMLock (M : zMem) (X : zX) (a : Nat) : zMem := M
def iXLock (X : zX) (a : Nat) : zX := X
theorem i_Lock (d : Nat) (G : zG) (M : zMem) (X : zX) (a : Nat) (c0_0 : xc X a = 0) (ha : 16 ≤ a) (hax : a < xz X) : zCall G miX1_init (d + 1) [.ref a] (zV (iMLock M X a) (iXLock X a)) M X 0 0 := by
  refine zCall.of (lv := [some (.ref a)]) (by decide) (Nat.le_of_ble_eq_true rfl) rfl ?_
  refine j_aload_n (n := 1) dX1_init_0 rfl rfl ?_
  refine j_oinit (n := 4) dX1_init_1 rfl oX1_1 (by omega) (Nat.le_of_ble_eq_true rfl) ?_
  exact j_rv dX1_init_4 rfl (Nat.le_of_ble_eq_true rfl) (Nat.le_of_ble_eq_true rfl) rfl rfl
def iMPerson (M : zMem) (X : zX) (a : Nat) : zMem := zs M (xz X) (fun _ => 0)
def iXPerson (X : zX) (a : Nat) : zX := zsR (zNew X 100 3) a (zup (xR (zNew X 100 3) a) 2 (some (xz X)))
theorem i_Person (d : Nat) (G : zG) (M : zMem) (X : zX) (a : Nat) (c0_0 : xc X a = 2) (ha : 16 ≤ a) (hax : a < xz X) : zCall G miX3_init (d + 1) [.ref a] (zV (iMPerson M X a) (iXPerson X a)) M X 1 3 := by
  refine zCall.of (lv := [some (.ref a)]) (by decide) (Nat.le_of_ble_eq_true rfl) rfl ?_
  refine j_aload_n (n := 1) dX3_init_0 rfl rfl ?_
  refine j_oinit (n := 4) dX3_init_1 rfl oX3_3 (by omega) (Nat.le_of_ble_eq_true rfl) ?_
  refine j_aload_n (n := 5) dX3_init_4 rfl rfl ?_
  refine j_iconst (n := 6) (v := nI 3) dX3_init_5 rfl rfl ?_
  refine j_newi (n := 8) (L := 3) dX3_init_6 rfl (by decide) (by decide) (by decide) (Nat.le_of_ble_eq_true rfl) (Nat.le_of_ble_eq_true rfl) ac_int ?_
  obtain ⟨M1, hM1⟩ : ∃ Y, Y = zs M (xz X) (fun _ => 0) := ⟨_, rfl⟩
  obtain ⟨X1, hX1⟩ : ∃ Y, Y = zNew X 100 3 := ⟨_, rfl⟩
  rw [← hM1, ← hX1]
  have z1 : xz X1 = xz X + 1 := by rw [hX1]; show xz X + 1 = xz X + 1; omega
  have c0_1 : xc X1 (a) = 2 := by rw [hX1]; exact (zNew_co _ _ _ (by omega)).trans c0_0
  skip
  have c1_1 : xc X1 (xz X) = 100 := by rw [hX1]; exact zNew_c _ _ _
  have l1_1 : xl X1 (xz X) = 3 := by rw [hX1]; exact zNew_l _ _ _
  refine j_putr (n := 11) (k := 2) (b := xz X) dX3_init_8 rfl pX3_9 (fun _ => rfl) (.inr ⟨_, rfl⟩) c0_1 (by omega) (by omega) ?_
  obtain ⟨X2, hX2⟩ : ∃ Y, Y = zsR X1 a (zup (xR X1 a) 2 (some (xz X))) := ⟨_, rfl⟩
  obtain ⟨M2, hM2⟩ : ∃ Y, Y = M1 := ⟨_, rfl⟩
  rw [← hX2, ← hM2]
  have z2 : xz X2 = xz X + 1 := by rw [hX2]; show xz X1 + 0 = xz X + 1; omega
  have c0_2 : xc X2 (a) = 2 := by rw [hX2]; exact c0_1
  have c1_2 : xc X2 (xz X) = 100 := by rw [hX2]; exact c1_1
  have l1_2 : xl X2 (xz X) = 3 := by rw [hX2]; exact l1_1
  exact j_rv dX3_init_11 rfl (Nat.le_of_ble_eq_true rfl) (Nat.le_of_ble_eq_true rfl) (by subst hM1 hX1 hM2 hX2; rfl) (by subst hM1 hX1 hM2 hX2; rfl)
def iMSheet (M : zMem) (X : zX) (a : Nat) : zMem := zs (zs M a (upd (M a) 0 (-1))) (xz X) (fun _ => 0)
def iXSheet (X : zX) (a : Nat) : zX := zsR (zNew X 100 24) a (zup (xR (zNew X 100 24) a) 2 (some (xz X)))
theorem i_Sheet (d : Nat) (G : zG) (M : zMem) (X : zX) (a : Nat) (c0_0 : xc X a = 3) (ha : 16 ≤ a) (hax : a < xz X) : zCall G miX4_init (d + 1) [.ref a] (zV (iMSheet M X a) (iXSheet X a)) M X 1 24 := by
  refine zCall.of (lv := [some (.ref a)]) (by decide) (Nat.le_of_ble_eq_true rfl) rfl ?_
  refine j_aload_n (n := 1) dX4_init_0 rfl rfl ?_
  refine j_oinit (n := 4) dX4_init_1 rfl oX4_3 (by omega) (Nat.le_of_ble_eq_true rfl) ?_
  refine j_aload_n (n := 5) dX4_init_4 rfl rfl ?_
  refine j_iconst (n := 6) (v := (-1)) dX4_init_5 rfl rfl ?_
  refine j_put (n := 9) (k := 0) (x := (-1)) dX4_init_6 rfl pX4_11 (fun h => by cases h) rfl rfl c0_0 (by omega) (by omega) ?_
  obtain ⟨M1, hM1⟩ : ∃ Y, Y = zs M a (upd (M a) 0 (-1)) := ⟨_, rfl⟩
  rw [← hM1]
  obtain ⟨X1, hX1⟩ : ∃ Y, Y = X := ⟨_, rfl⟩
  rw [← hX1]
  have z1 : xz X1 = xz X + 0 := by rw [hX1]; show xz X + 0 = xz X + 0; omega
  have c0_1 : xc X1 (a) = 3 := by rw [hX1]; exact c0_0
  refine j_aload_n (n := 10) dX4_init_9 rfl rfl ?_
  refine j_bipush (n := 12) (v := nI 24) dX4_init_10 rfl (by decide) ?_
  refine j_newi (n := 14) (L := 24) dX4_init_12 rfl (by decide) (by decide) (by decide) (Nat.le_of_ble_eq_true rfl) (Nat.le_of_ble_eq_true rfl) ac_int ?_
  obtain ⟨M2, hM2⟩ : ∃ Y, Y = zs M1 (xz X1) (fun _ => 0) := ⟨_, rfl⟩
  obtain ⟨X2, hX2⟩ : ∃ Y, Y = zNew X1 100 24 := ⟨_, rfl⟩
  rw [← hM2, ← hX2]
  have z2 : xz X2 = xz X + 1 := by rw [hX2]; show xz X1 + 1 = xz X + 1; omega
  have c0_2 : xc X2 (a) = 3 := by rw [hX2]; exact (zNew_co _ _ _ (by omega)).trans c0_1
  rw [show xz X1 = xz X + 0 by omega]
  have c1_2 : xc X2 (xz X + 0) = 100 := by rw [hX2]; rw [show xz X + 0 = xz X1 by omega]; exact zNew_c _ _ _
  have l1_2 : xl X2 (xz X + 0) = 24 := by rw [hX2]; rw [show xz X + 0 = xz X1 by omega]; exact zNew_l _ _ _
  refine j_putr (n := 17) (k := 2) (b := xz X + 0) dX4_init_14 rfl pX4_15 (fun _ => rfl) (.inr ⟨_, rfl⟩) c0_2 (by omega) (by omega) ?_
  obtain ⟨X3, hX3⟩ : ∃ Y, Y = zsR X2 a (zup (xR X2 a) 2 (some (xz X + 0))) := ⟨_, rfl⟩
  obtain ⟨M3, hM3⟩ : ∃ Y, Y = M2 := ⟨_, rfl⟩
  rw [← hX3, ← hM3]
  have z3 : xz X3 = xz X + 1 := by rw [hX3]; show xz X2 + 0 = xz X + 1; omega
  have c0_3 : xc X3 (a) = 3 := by rw [hX3]; exact c0_2
  have c1_3 : xc X3 (xz X + 0) = 100 := by rw [hX3]; exact c1_2
  have l1_3 : xl X3 (xz X + 0) = 24 := by rw [hX3]; exact l1_2
  exact j_rv dX4_init_17 rfl (Nat.le_of_ble_eq_true rfl) (Nat.le_of_ble_eq_true rfl) (by subst hM1 hX1 hM2 hX2 hM3 hX3; rfl) (by subst hM1 hX1 hM2 hX2 hM3 hX3; rfl)
