-- INIT A: by program (wip/whole/gen/c24.py)
def zpu (X : zX) (a k b : Nat) : zX := zsR X a (zup (xR X a) k (some b))
def zw (M : zMem) (a k : Nat) (x : Int32) : zMem := zs M a (upd (M a) k x)
theorem zpu_c (X : zX) (a k b : Nat) : xc (zpu X a k b) = xc X := rfl
theorem zpu_l (X : zX) (a k b : Nat) : xl (zpu X a k b) = xl X := rfl
theorem zpu_z (X : zX) (a k b : Nat) : xz (zpu X a k b) = xz X := rfl
theorem zpu_ne (X : zX) {a b0 : Nat} (k b : Nat) (h : b0 ≠ a) : xR (zpu X a k b) b0 = xR X b0 := if_neg h
theorem zpu_eq (X : zX) (a k b : Nat) : xR (zpu X a k b) a k = some b := by
  unfold zpu
  rw [zsR_eq]
  exact if_pos rfl
theorem zpu_nk (X : zX) (a : Nat) {k j : Nat} (b : Nat) (h : j ≠ k) : xR (zpu X a k b) a j = xR X a j := by
  unfold zpu
  rw [zsR_eq]
  exact if_neg h
theorem zNew_z (X : zX) (c L : Nat) : xz (zNew X c L) = xz X + 1 := rfl
section ZNi
variable {G : zG} {mi : zM} {rm : Room} {Q : List Frame → Array Value → State → State → Prop} {pc n : Nat} {lv : List (Option Value)} {st : List Value} {M : zMem} {X : zX} {cn : Nat × Nat}
theorem j_putR {i c k : Nat} {a b : Nat} {ty : FieldType} {fin : Bool} (hd : decode (zc mi) pc = .ok (.putfield i, 3)) (hn : pc + 3 = n) (hf : zFP mi.1.cls i c k ty fin false) (hfin : fin = true → mi.1.name = "<init>") (hty : (∃ C, ty = .object C) ∨ ∃ t, ty = .array t) (hc : xc X a = c) (h1 : 16 ≤ a) (h2 : a < xz X) (kk : zAt G mi rm Q n lv st M (zpu X a k b) cn) : zAt G mi rm Q pc lv (.ref b :: .ref a :: st) M X cn := j_putr hd hn hf hfin hty hc h1 h2 kk
theorem j_putI {i c k : Nat} {a : Nat} {ty : FieldType} {fin : Bool} {x : Int32} (hd : decode (zc mi) pc = .ok (.putfield i, 3)) (hn : pc + 3 = n) (hf : zFP mi.1.cls i c k ty fin true) (hfin : fin = true → mi.1.name = "<init>") (hnar : narrow ty (.int x) = .int x) (hfit : fits ty (.int x) = true) (hc : xc X a = c) (h1 : 16 ≤ a) (h2 : a < xz X) (kk : zAt G mi rm Q n lv st (zw M a k x) X cn) : zAt G mi rm Q pc lv (.int x :: .ref a :: st) M X cn := j_put hd hn hf hfin hnar hfit hc h1 h2 kk
theorem j_aasR {a b c L t i : Nat} {C : String} {T : u_T} {N : Nat} (hd : decode (zc mi) pc = .ok (.aastore, 1)) (hn : pc + 1 = n) (hc : xc X a = 100 + t) (ht : 2 ≤ t ∧ t < 7) (hC : zTy t = .object C) (hL : xl X a = L) (hin : i < L) (hL2 : L ≤ 2147483648) (h1 : 16 ≤ a) (h2 : a < xz X) (hb : xc X b = c) (hcl : vwCl[c]? = some (C, T, N)) (hc1 : c < 100) (b1 : 16 ≤ b) (b2 : b < xz X) (kk : zAt G mi rm Q n lv st M (zpu X a i b) cn) : zAt G mi rm Q pc lv (.ref b :: .int (nI i) :: .ref a :: st) M X cn := by
  refine j_aast hd hn hc ht hC hL (vp_inN hin hL2) h1 h2 hb hcl hc1 b1 b2 ?_
  rw [nI_clamp (by omega)]
  exact kk
theorem j_iastW {a L i : Nat} {x : Int32} (hd : decode (zc mi) pc = .ok (.iastore, 1)) (hn : pc + 1 = n) (hc : xc X a = 100) (hL : xl X a = L) (hi : i < L) (hb : L ≤ 2147483648) (h1 : 16 ≤ a) (h2 : a < xz X) (kk : zAt G mi rm Q n lv st (zw M a i x) X cn) : zAt G mi rm Q pc lv (.int x :: .int (nI i) :: .ref a :: st) M X cn :=
  j_iastN hd hn hc hL hi hb h1 h2 rfl kk
end ZNi
def iMLock (M : zMem) (X : zX) (a : Nat) : zMem := M
def iXLock (X : zX) (a : Nat) : zX := X
theorem iXLock_z (X : zX) (a : Nat) : xz (iXLock X a) = xz X + 0 := rfl
theorem iXLock_o {X : zX} {a b : Nat} (h : b < xz X) : xc (iXLock X a) b = xc X b ∧ xl (iXLock X a) b = xl X b ∧ xz (iXLock X a) = xz X + 0 := ⟨rfl, rfl, rfl⟩
theorem iXLock_r {X : zX} {a b : Nat} (h : b < xz X) (h2 : b ≠ a) : xR (iXLock X a) b = xR X b := rfl
theorem i_Lock (d : Nat) (G : zG) (M : zMem) (X : zX) (a : Nat) (c0_0 : xc X a = 0) (ha : 16 ≤ a) (hax : a < xz X) : zCall G miX1_init (d + 1) [.ref a] (zV (iMLock M X a) (iXLock X a)) M X 0 0 := by
  refine zCall.of (lv := [some (.ref a)]) (by decide) (Nat.le_of_ble_eq_true rfl) rfl ?_
  have z0 : xz X = xz X + 0 := rfl
  refine j_aload_n (n := 1) dX1_init_0 rfl rfl ?_
  refine j_oinit (n := 4) dX1_init_1 rfl oX1_1 (by omega) (Nat.le_of_ble_eq_true rfl) ?_
  exact j_rv dX1_init_4 rfl (Nat.le_of_ble_eq_true rfl) (Nat.le_of_ble_eq_true rfl) rfl rfl
def iMPerson (M : zMem) (X : zX) (a : Nat) : zMem := (zs M (xz X) (fun _ => 0))
def iXPerson (X : zX) (a : Nat) : zX := zpu (zNew X 100 3) a 2 (xz X)
theorem iXPerson_z (X : zX) (a : Nat) : xz (iXPerson X a) = xz X + 1 := rfl
theorem iXPerson_o {X : zX} {a b : Nat} (h : b < xz X) : xc (iXPerson X a) b = xc X b ∧ xl (iXPerson X a) b = xl X b ∧ xz (iXPerson X a) = xz X + 1 := by
  refine ⟨?_, ?_, rfl⟩
  · unfold iXPerson
    repeat (first | rw [zpu_c] | rw [zNew_co _ _ _ (by first | omega | (simp only [zpu_z, zNew_z]; omega))])
  · unfold iXPerson
    repeat (first | rw [zpu_l] | rw [zNew_lo _ _ _ (by first | omega | (simp only [zpu_z, zNew_z]; omega))])
theorem iXPerson_r {X : zX} {a b : Nat} (h : b < xz X) (h2 : b ≠ a) : xR (iXPerson X a) b = xR X b := by
  unfold iXPerson
  repeat (first | rw [zpu_ne _ _ _ (by first | omega | (simp only [zpu_z, zNew_z]; omega))] | rw [zNew_ro _ _ _ (by first | omega | (simp only [zpu_z, zNew_z]; omega))])
theorem i_Person (d : Nat) (G : zG) (M : zMem) (X : zX) (a : Nat) (c0_0 : xc X a = 2) (ha : 16 ≤ a) (hax : a < xz X) : zCall G miX3_init (d + 1) [.ref a] (zV (iMPerson M X a) (iXPerson X a)) M X 1 3 := by
  refine zCall.of (lv := [some (.ref a)]) (by decide) (Nat.le_of_ble_eq_true rfl) rfl ?_
  have z0 : xz X = xz X + 0 := rfl
  refine j_aload_n (n := 1) dX3_init_0 rfl rfl ?_
  refine j_oinit (n := 4) dX3_init_1 rfl oX3_3 (by omega) (Nat.le_of_ble_eq_true rfl) ?_
  refine j_aload_n (n := 5) dX3_init_4 rfl rfl ?_
  refine j_iconst (n := 6) (v := nI 3) dX3_init_5 rfl rfl ?_
  refine j_newi (n := 8) (L := 3) dX3_init_6 rfl (by decide) (by decide) (by decide) (Nat.le_of_ble_eq_true rfl) (Nat.le_of_ble_eq_true rfl) ac_int ?_
  obtain ⟨M1, hM1⟩ : ∃ Y, Y = zs M (xz X) (fun _ => 0) := ⟨_, rfl⟩
  obtain ⟨X1, hX1⟩ : ∃ Y, Y = zNew X 100 3 := ⟨_, rfl⟩
  rw [← hM1, ← hX1]
  have z1 : xz X1 = xz X + 1 := by rw [hX1]; show xz X + 1 = xz X + 1; omega
  have c0_1 : xc X1 (a) = 2 := by rw [hX1]; exact (zNew_co _ _ _ (by omega)).trans c0_0
  have c1_1 : xc X1 (xz X) = 100 := by rw [hX1]; exact zNew_c _ _ _
  have l1_1 : xl X1 (xz X) = 3 := by rw [hX1]; exact zNew_l _ _ _
  refine j_putR (n := 11) (k := 2) (b := xz X) dX3_init_8 rfl pX3_9 (fun _ => rfl) (.inr ⟨_, rfl⟩) c0_1 (by omega) (by omega) ?_
  obtain ⟨X2, hX2⟩ : ∃ Y, Y = zpu X1 a 2 (xz X) := ⟨_, rfl⟩
  obtain ⟨M2, hM2⟩ : ∃ Y, Y = M1 := ⟨_, rfl⟩
  rw [← hX2, ← hM2]
  have z2 : xz X2 = xz X + 1 := by rw [hX2]; show xz X1 + 0 = xz X + 1; omega
  have c0_2 : xc X2 (a) = 2 := by rw [hX2]; exact c0_1
  have c1_2 : xc X2 (xz X) = 100 := by rw [hX2]; exact c1_1
  have l1_2 : xl X2 (xz X) = 3 := by rw [hX2]; exact l1_1
  exact j_rv dX3_init_11 rfl (Nat.le_of_ble_eq_true rfl) (Nat.le_of_ble_eq_true rfl) (by subst hM1 hX1 hM2 hX2; rfl) (by subst hM1 hX1 hM2 hX2; rfl)
def iMSheet (M : zMem) (X : zX) (a : Nat) : zMem := (zs (zw M a 0 (-1)) (xz X) (fun _ => 0))
def iXSheet (X : zX) (a : Nat) : zX := zpu (zNew X 100 24) a 2 (xz X)
theorem iXSheet_z (X : zX) (a : Nat) : xz (iXSheet X a) = xz X + 1 := rfl
theorem iXSheet_o {X : zX} {a b : Nat} (h : b < xz X) : xc (iXSheet X a) b = xc X b ∧ xl (iXSheet X a) b = xl X b ∧ xz (iXSheet X a) = xz X + 1 := by
  refine ⟨?_, ?_, rfl⟩
  · unfold iXSheet
    repeat (first | rw [zpu_c] | rw [zNew_co _ _ _ (by first | omega | (simp only [zpu_z, zNew_z]; omega))])
  · unfold iXSheet
    repeat (first | rw [zpu_l] | rw [zNew_lo _ _ _ (by first | omega | (simp only [zpu_z, zNew_z]; omega))])
theorem iXSheet_r {X : zX} {a b : Nat} (h : b < xz X) (h2 : b ≠ a) : xR (iXSheet X a) b = xR X b := by
  unfold iXSheet
  repeat (first | rw [zpu_ne _ _ _ (by first | omega | (simp only [zpu_z, zNew_z]; omega))] | rw [zNew_ro _ _ _ (by first | omega | (simp only [zpu_z, zNew_z]; omega))])
theorem i_Sheet (d : Nat) (G : zG) (M : zMem) (X : zX) (a : Nat) (c0_0 : xc X a = 3) (ha : 16 ≤ a) (hax : a < xz X) : zCall G miX4_init (d + 1) [.ref a] (zV (iMSheet M X a) (iXSheet X a)) M X 1 24 := by
  refine zCall.of (lv := [some (.ref a)]) (by decide) (Nat.le_of_ble_eq_true rfl) rfl ?_
  have z0 : xz X = xz X + 0 := rfl
  refine j_aload_n (n := 1) dX4_init_0 rfl rfl ?_
  refine j_oinit (n := 4) dX4_init_1 rfl oX4_3 (by omega) (Nat.le_of_ble_eq_true rfl) ?_
  refine j_aload_n (n := 5) dX4_init_4 rfl rfl ?_
  refine j_iconst (n := 6) (v := (-1)) dX4_init_5 rfl rfl ?_
  refine j_putI (n := 9) (k := 0) (x := (-1)) dX4_init_6 rfl pX4_11 (fun h => by cases h) rfl rfl c0_0 (by omega) (by omega) ?_
  obtain ⟨M1, hM1⟩ : ∃ Y, Y = zw M a 0 (-1) := ⟨_, rfl⟩
  rw [← hM1]
  obtain ⟨X1, hX1⟩ : ∃ Y, Y = X := ⟨_, rfl⟩
  rw [← hX1]
  have z1 : xz X1 = xz X + 0 := by rw [hX1]; show xz X + 0 = xz X + 0; omega
  have c0_1 : xc X1 (a) = 3 := by rw [hX1]; exact c0_0
  refine j_aload_n (n := 10) dX4_init_9 rfl rfl ?_
  refine j_bipush (n := 12) (v := nI 24) dX4_init_10 rfl (by decide) ?_
  refine j_newi (n := 14) (L := 24) dX4_init_12 rfl (by decide) (by decide) (by decide) (Nat.le_of_ble_eq_true rfl) (Nat.le_of_ble_eq_true rfl) ac_int ?_
  rw [show xz X1 = xz X by omega]
  obtain ⟨M2, hM2⟩ : ∃ Y, Y = zs M1 (xz X) (fun _ => 0) := ⟨_, rfl⟩
  obtain ⟨X2, hX2⟩ : ∃ Y, Y = zNew X1 100 24 := ⟨_, rfl⟩
  rw [← hM2, ← hX2]
  have z2 : xz X2 = xz X + 1 := by rw [hX2]; show xz X1 + 1 = xz X + 1; omega
  have c0_2 : xc X2 (a) = 3 := by rw [hX2]; exact (zNew_co _ _ _ (by omega)).trans c0_1
  have c1_2 : xc X2 (xz X) = 100 := by rw [hX2]; rw [show xz X = xz X1 by omega]; exact zNew_c _ _ _
  have l1_2 : xl X2 (xz X) = 24 := by rw [hX2]; rw [show xz X = xz X1 by omega]; exact zNew_l _ _ _
  refine j_putR (n := 17) (k := 2) (b := xz X) dX4_init_14 rfl pX4_15 (fun _ => rfl) (.inr ⟨_, rfl⟩) c0_2 (by omega) (by omega) ?_
  obtain ⟨X3, hX3⟩ : ∃ Y, Y = zpu X2 a 2 (xz X) := ⟨_, rfl⟩
  obtain ⟨M3, hM3⟩ : ∃ Y, Y = M2 := ⟨_, rfl⟩
  rw [← hX3, ← hM3]
  have z3 : xz X3 = xz X + 1 := by rw [hX3]; show xz X2 + 0 = xz X + 1; omega
  have c0_3 : xc X3 (a) = 3 := by rw [hX3]; exact c0_2
  have c1_3 : xc X3 (xz X) = 100 := by rw [hX3]; exact c1_2
  have l1_3 : xl X3 (xz X) = 24 := by rw [hX3]; exact l1_2
  clear z1 c0_1
  exact j_rv dX4_init_17 rfl (Nat.le_of_ble_eq_true rfl) (Nat.le_of_ble_eq_true rfl) (by subst hM1 hX1 hM2 hX2 hM3 hX3; rfl) (by subst hM1 hX1 hM2 hX2 hM3 hX3; rfl)
def iMParser (M : zMem) (X : zX) (a : Nat) : zMem := (zs (zs (zs M (xz X) (fun _ => 0)) (xz X + 1) (fun _ => 0)) (xz X + 2) (fun _ => 0))
def iXParser (X : zX) (a : Nat) : zX := zpu (zNew (zpu (zNew (zpu (zNew X 101 0) a 0 (xz X)) 100 96) a 8 (xz X + 1)) 100 96) a 10 (xz X + 2)
theorem iXParser_z (X : zX) (a : Nat) : xz (iXParser X a) = xz X + 3 := rfl
theorem iXParser_o {X : zX} {a b : Nat} (h : b < xz X) : xc (iXParser X a) b = xc X b ∧ xl (iXParser X a) b = xl X b ∧ xz (iXParser X a) = xz X + 3 := by
  refine ⟨?_, ?_, rfl⟩
  · unfold iXParser
    repeat (first | rw [zpu_c] | rw [zNew_co _ _ _ (by first | omega | (simp only [zpu_z, zNew_z]; omega))])
  · unfold iXParser
    repeat (first | rw [zpu_l] | rw [zNew_lo _ _ _ (by first | omega | (simp only [zpu_z, zNew_z]; omega))])
theorem iXParser_r {X : zX} {a b : Nat} (h : b < xz X) (h2 : b ≠ a) : xR (iXParser X a) b = xR X b := by
  unfold iXParser
  repeat (first | rw [zpu_ne _ _ _ (by first | omega | (simp only [zpu_z, zNew_z]; omega))] | rw [zNew_ro _ _ _ (by first | omega | (simp only [zpu_z, zNew_z]; omega))])
theorem i_Parser (d : Nat) (G : zG) (M : zMem) (X : zX) (a : Nat) (c0_0 : xc X a = 1) (ha : 16 ≤ a) (hax : a < xz X) : zCall G miX2_init (d + 1) [.ref a] (zV (iMParser M X a) (iXParser X a)) M X 3 192 := by
  refine zCall.of (lv := [some (.ref a)]) (by decide) (Nat.le_of_ble_eq_true rfl) rfl ?_
  have z0 : xz X = xz X + 0 := rfl
  refine j_aload_n (n := 1) dX2_init_0 rfl rfl ?_
  refine j_oinit (n := 4) dX2_init_1 rfl oX2_3 (by omega) (Nat.le_of_ble_eq_true rfl) ?_
  refine j_aload_n (n := 5) dX2_init_4 rfl rfl ?_
  refine j_iconst (n := 6) (v := nI 0) dX2_init_5 rfl rfl ?_
  refine j_newb (n := 8) (L := 0) dX2_init_6 rfl (by decide) (by decide) (by decide) (Nat.le_of_ble_eq_true rfl) (Nat.le_of_ble_eq_true rfl) ac_byte ?_
  obtain ⟨M1, hM1⟩ : ∃ Y, Y = zs M (xz X) (fun _ => 0) := ⟨_, rfl⟩
  obtain ⟨X1, hX1⟩ : ∃ Y, Y = zNew X 101 0 := ⟨_, rfl⟩
  rw [← hM1, ← hX1]
  have z1 : xz X1 = xz X + 1 := by rw [hX1]; show xz X + 1 = xz X + 1; omega
  have c0_1 : xc X1 (a) = 1 := by rw [hX1]; exact (zNew_co _ _ _ (by omega)).trans c0_0
  have c1_1 : xc X1 (xz X) = 101 := by rw [hX1]; exact zNew_c _ _ _
  have l1_1 : xl X1 (xz X) = 0 := by rw [hX1]; exact zNew_l _ _ _
  refine j_putR (n := 11) (k := 0) (b := xz X) dX2_init_8 rfl pX2_9 (fun h => by cases h) (.inr ⟨_, rfl⟩) c0_1 (by omega) (by omega) ?_
  obtain ⟨X2, hX2⟩ : ∃ Y, Y = zpu X1 a 0 (xz X) := ⟨_, rfl⟩
  obtain ⟨M2, hM2⟩ : ∃ Y, Y = M1 := ⟨_, rfl⟩
  rw [← hX2, ← hM2]
  have z2 : xz X2 = xz X + 1 := by rw [hX2]; show xz X1 + 0 = xz X + 1; omega
  have c0_2 : xc X2 (a) = 1 := by rw [hX2]; exact c0_1
  have c1_2 : xc X2 (xz X) = 101 := by rw [hX2]; exact c1_1
  have l1_2 : xl X2 (xz X) = 0 := by rw [hX2]; exact l1_1
  refine j_aload_n (n := 12) dX2_init_11 rfl rfl ?_
  refine j_bipush (n := 14) (v := nI 96) dX2_init_12 rfl (by decide) ?_
  refine j_newi (n := 16) (L := 96) dX2_init_14 rfl (by decide) (by decide) (by decide) (Nat.le_of_ble_eq_true rfl) (Nat.le_of_ble_eq_true rfl) ac_int ?_
  rw [show xz X2 = xz X + 1 by omega]
  obtain ⟨M3, hM3⟩ : ∃ Y, Y = zs M2 (xz X + 1) (fun _ => 0) := ⟨_, rfl⟩
  obtain ⟨X3, hX3⟩ : ∃ Y, Y = zNew X2 100 96 := ⟨_, rfl⟩
  rw [← hM3, ← hX3]
  have z3 : xz X3 = xz X + 2 := by rw [hX3]; show xz X2 + 1 = xz X + 2; omega
  have c0_3 : xc X3 (a) = 1 := by rw [hX3]; exact (zNew_co _ _ _ (by omega)).trans c0_2
  have c1_3 : xc X3 (xz X) = 101 := by rw [hX3]; exact (zNew_co _ _ _ (by omega)).trans c1_2
  have l1_3 : xl X3 (xz X) = 0 := by rw [hX3]; exact (zNew_lo _ _ _ (by omega)).trans l1_2
  clear z1 c0_1 c1_1 l1_1
  have c2_3 : xc X3 (xz X + 1) = 100 := by rw [hX3]; rw [show xz X + 1 = xz X2 by omega]; exact zNew_c _ _ _
  have l2_3 : xl X3 (xz X + 1) = 96 := by rw [hX3]; rw [show xz X + 1 = xz X2 by omega]; exact zNew_l _ _ _
  refine j_putR (n := 19) (k := 8) (b := xz X + 1) dX2_init_16 rfl pX2_15 (fun _ => rfl) (.inr ⟨_, rfl⟩) c0_3 (by omega) (by omega) ?_
  obtain ⟨X4, hX4⟩ : ∃ Y, Y = zpu X3 a 8 (xz X + 1) := ⟨_, rfl⟩
  obtain ⟨M4, hM4⟩ : ∃ Y, Y = M3 := ⟨_, rfl⟩
  rw [← hX4, ← hM4]
  have z4 : xz X4 = xz X + 2 := by rw [hX4]; show xz X3 + 0 = xz X + 2; omega
  have c0_4 : xc X4 (a) = 1 := by rw [hX4]; exact c0_3
  have c1_4 : xc X4 (xz X) = 101 := by rw [hX4]; exact c1_3
  have l1_4 : xl X4 (xz X) = 0 := by rw [hX4]; exact l1_3
  have c2_4 : xc X4 (xz X + 1) = 100 := by rw [hX4]; exact c2_3
  have l2_4 : xl X4 (xz X + 1) = 96 := by rw [hX4]; exact l2_3
  clear z2 c0_2 c1_2 l1_2
  refine j_aload_n (n := 20) dX2_init_19 rfl rfl ?_
  refine j_bipush (n := 22) (v := nI 96) dX2_init_20 rfl (by decide) ?_
  refine j_newi (n := 24) (L := 96) dX2_init_22 rfl (by decide) (by decide) (by decide) (Nat.le_of_ble_eq_true rfl) (Nat.le_of_ble_eq_true rfl) ac_int ?_
  rw [show xz X4 = xz X + 2 by omega]
  obtain ⟨M5, hM5⟩ : ∃ Y, Y = zs M4 (xz X + 2) (fun _ => 0) := ⟨_, rfl⟩
  obtain ⟨X5, hX5⟩ : ∃ Y, Y = zNew X4 100 96 := ⟨_, rfl⟩
  rw [← hM5, ← hX5]
  have z5 : xz X5 = xz X + 3 := by rw [hX5]; show xz X4 + 1 = xz X + 3; omega
  have c0_5 : xc X5 (a) = 1 := by rw [hX5]; exact (zNew_co _ _ _ (by omega)).trans c0_4
  have c1_5 : xc X5 (xz X) = 101 := by rw [hX5]; exact (zNew_co _ _ _ (by omega)).trans c1_4
  have l1_5 : xl X5 (xz X) = 0 := by rw [hX5]; exact (zNew_lo _ _ _ (by omega)).trans l1_4
  have c2_5 : xc X5 (xz X + 1) = 100 := by rw [hX5]; exact (zNew_co _ _ _ (by omega)).trans c2_4
  have l2_5 : xl X5 (xz X + 1) = 96 := by rw [hX5]; exact (zNew_lo _ _ _ (by omega)).trans l2_4
  clear z3 c0_3 c1_3 l1_3 c2_3 l2_3
  have c3_5 : xc X5 (xz X + 2) = 100 := by rw [hX5]; rw [show xz X + 2 = xz X4 by omega]; exact zNew_c _ _ _
  have l3_5 : xl X5 (xz X + 2) = 96 := by rw [hX5]; rw [show xz X + 2 = xz X4 by omega]; exact zNew_l _ _ _
  refine j_putR (n := 27) (k := 10) (b := xz X + 2) dX2_init_24 rfl pX2_19 (fun _ => rfl) (.inr ⟨_, rfl⟩) c0_5 (by omega) (by omega) ?_
  obtain ⟨X6, hX6⟩ : ∃ Y, Y = zpu X5 a 10 (xz X + 2) := ⟨_, rfl⟩
  obtain ⟨M6, hM6⟩ : ∃ Y, Y = M5 := ⟨_, rfl⟩
  rw [← hX6, ← hM6]
  have z6 : xz X6 = xz X + 3 := by rw [hX6]; show xz X5 + 0 = xz X + 3; omega
  have c0_6 : xc X6 (a) = 1 := by rw [hX6]; exact c0_5
  have c1_6 : xc X6 (xz X) = 101 := by rw [hX6]; exact c1_5
  have l1_6 : xl X6 (xz X) = 0 := by rw [hX6]; exact l1_5
  have c2_6 : xc X6 (xz X + 1) = 100 := by rw [hX6]; exact c2_5
  have l2_6 : xl X6 (xz X + 1) = 96 := by rw [hX6]; exact l2_5
  have c3_6 : xc X6 (xz X + 2) = 100 := by rw [hX6]; exact c3_5
  have l3_6 : xl X6 (xz X + 2) = 96 := by rw [hX6]; exact l3_5
  clear z4 c0_4 c1_4 c2_4 l1_4 l2_4
  exact j_rv dX2_init_27 rfl (Nat.le_of_ble_eq_true rfl) (Nat.le_of_ble_eq_true rfl) (by subst hM1 hX1 hM2 hX2 hM3 hX3 hM4 hX4 hM5 hX5 hM6 hX6; rfl) (by subst hM1 hX1 hM2 hX2 hM3 hX3 hM4 hX4 hM5 hX5 hM6 hX6; rfl)
