-- TOWN: its constructor's loops
def lkX (X : zX) (lk : Nat) : Nat → zX
  | 0 => X
  | k + 1 => zpu (iXLock (zNew (lkX X lk k) 0 0) (xz X + k)) lk k (xz X + k)
def lkM (M : zMem) (X : zX) : Nat → zMem
  | 0 => M
  | k + 1 => zs (lkM M X k) (xz X + k) (fun _ => 0)
theorem lkX_z (X : zX) (lk : Nat) : ∀ k, xz (lkX X lk k) = xz X + k
  | 0 => rfl
  | k + 1 => by
    show xz (lkX X lk k) + 1 = _
    rw [lkX_z X lk k]
    rfl
theorem lkX_o {X : zX} {lk b : Nat} (h : b < xz X) : ∀ k, xc (lkX X lk k) b = xc X b ∧ xl (lkX X lk k) b = xl X b
  | 0 => ⟨rfl, rfl⟩
  | k + 1 => by
    have z := lkX_z X lk k
    have i := lkX_o (lk := lk) h k
    exact ⟨(zNew_co (lkX X lk k) 0 0 (by omega)).trans i.1, (zNew_lo (lkX X lk k) 0 0 (by omega)).trans i.2⟩
theorem lkX_r {X : zX} {lk b : Nat} (h : b < xz X) (h2 : b ≠ lk) : ∀ k, xR (lkX X lk k) b = xR X b
  | 0 => rfl
  | k + 1 => by
    have z := lkX_z X lk k
    show xR (zpu (zNew (lkX X lk k) 0 0) lk k (xz X + k)) b = _
    rw [zpu_ne _ _ _ h2, zNew_ro _ _ _ (by omega)]
    exact lkX_r h h2 k
section ZCn
variable {G : zG} {mi : zM} {rm : Room} {Q : List Frame → Array Value → State → State → Prop} {pc n : Nat} {lv : List (Option Value)} {st : List Value} {M : zMem} {X : zX} {cn : Nat × Nat}
theorem j_cn {c2 : Nat × Nat} (h : cn = c2) (k : zAt G mi rm Q pc lv st M X c2) : zAt G mi rm Q pc lv st M X cn := by
  rw [h]; exact k
theorem j_xz {z : Nat} (h : xz X = z) {c L : Nat} (k : zAt G mi rm Q pc lv (.ref z :: st) (zs M z (fun _ => 0)) (zNew X c L) cn) : zAt G mi rm Q pc lv (.ref (xz X) :: st) (zs M (xz X) (fun _ => 0)) (zNew X c L) cn := by
  rw [h]; exact k
end ZCn
theorem t_locks (d : Nat) (G : zG) (M : zMem) (X : zX) (a lk : Nat) (ha : 16 ≤ a) (hax : a < xz X) (hlk : 16 ≤ lk) (glk : lk < xz X) (dlk : a ≠ lk) (c0 : xc X a = 6) (c1 : xc X lk = 103) (l1 : xl X lk = 10) (r2 : xR X a 2 = some lk) : ∀ j k, 10 - k = j → k ≤ 10 → zAt G miX7_init (zRm (d + 2) 30 133) (zQ G (zV (lkM M X 10) (lkX X lk 10)) 30 133) 85 [some (.ref a), some (.int (nI k))] [] (lkM M X k) (lkX X lk k) (20 + k, 83 + 5 * k) := by
  intro j
  induction j using Nat.strongRecOn with
  | ind j ih =>
    intro k hj hk
    have z := lkX_z X lk k
    have oa := lkX_o (lk := lk) hax k
    have ol := lkX_o (lk := lk) glk k
    refine j_iload_n (n := 86) dX7_init_85 rfl rfl ?_
    refine j_bipush (n := 88) (v := nI 10) dX7_init_86 rfl (by decide) ?_
    refine j_icmp_geT (n := 91) (tg := 110) dX7_init_88 rfl rfl (i_N (by omega)) (i_N (by omega)) (fun h => ?_) (fun h => ?_)
    · have e : k = 10 := by omega
      subst e
      exact j_rv dX7_init_110 rfl (by decide) (by decide) rfl rfl
    · refine j_aload_n (n := 92) dX7_init_91 rfl rfl ?_
      refine j_getr (n := 95) (k := 2) (b := lk) dX7_init_92 rfl fX7_19 (oa.1.trans c0) ha (by omega) ((congrFun (lkX_r hax dlk k) 2).trans r2) ?_
      refine j_iload_n (n := 96) dX7_init_95 rfl rfl ?_
      refine j_new (n := 99) dX7_init_96 rfl nX7_17 (by show 20 + k + 1 ≤ 30; omega) (by show 83 + 5 * k + 5 ≤ 133; omega) ?_
      refine j_xz (z := xz X + k) z ?_
      have z2 : xz (zNew (lkX X lk k) 0 0) = xz X + k + 1 := by rw [zNew_z, z]
      have cz : xc (zNew (lkX X lk k) 0 0) (xz X + k) = 0 := by rw [← z]; exact zNew_c _ _ _
      refine j_dup (n := 100) dX7_init_99 rfl rfl ?_
      refine j_callIN (n := 103) (a := xz X + k) (as := []) (st := [.ref (xz X + k), .int (nI k), .ref lk]) dX7_init_100 rfl sX7_43 (i_Lock d G _ (zNew (lkX X lk k) 0 0) (xz X + k) cz (by omega) (by omega)) (by omega) (by decide) rfl rfl (Nat.le_of_ble_eq_true rfl) (by show 20 + k + 1 + 0 ≤ 30; omega) (by show 83 + 5 * k + 5 + 0 ≤ 133; omega) (fun v N1 Y1 hh => ?_)
      obtain ⟨rfl, hN, hY⟩ := hh
      rw [hN, hY]
      refine j_aasR (n := 104) (a := lk) (b := xz X + k) (c := 0) (t := 3) (L := 10) (i := k) dX7_init_103 rfl ((zNew_co (lkX X lk k) 0 0 (by omega)).trans (ol.1.trans c1)) (by decide) rfl ((zNew_lo (lkX X lk k) 0 0 (by omega)).trans (ol.2.trans l1)) (by omega) (by decide) hlk (by show lk < xz (zNew (lkX X lk k) 0 0); omega) cz rfl (by decide) (by omega) (by show xz X + k < xz (zNew (lkX X lk k) 0 0); omega) ?_
      refine j_iinc (n := 107) (y := nI (k + 1)) (lv2 := [some (.ref a), some (.int (nI (k + 1)))]) dX7_init_104 rfl rfl (by decide) rfl (show nI k + nI 1 = nI (k + 1) by rw [nI_add]) rfl ?_
      refine j_goto (n := 85) dX7_init_107 rfl ?_
      refine j_cn (c2 := (20 + (k + 1), 83 + 5 * (k + 1))) (by show (20 + k + 1 + 0, 83 + 5 * k + 5 + 0) = _; congr 1 <;> omega) ?_
      exact ih _ (by omega) (k + 1) rfl (by omega)
def peX (X : zX) (pa : Nat) : Nat → zX
  | 0 => X
  | k + 1 => zpu (iXPerson (zNew (peX X pa k) 2 0) (xz X + 2 * k)) pa k (xz X + 2 * k)
def peM (M : zMem) (X : zX) (pa : Nat) : Nat → zMem
  | 0 => M
  | k + 1 => iMPerson (zs (peM M X pa k) (xz X + 2 * k) (fun _ => 0)) (zNew (peX X pa k) 2 0) (xz X + 2 * k)
theorem peX_z (X : zX) (pa : Nat) : ∀ k, xz (peX X pa k) = xz X + 2 * k
  | 0 => rfl
  | k + 1 => by
    show xz (peX X pa k) + 1 + 1 = _
    rw [peX_z X pa k]
    omega
theorem peX_o {X : zX} {pa b : Nat} (h : b < xz X) : ∀ k, xc (peX X pa k) b = xc X b ∧ xl (peX X pa k) b = xl X b
  | 0 => ⟨rfl, rfl⟩
  | k + 1 => by
    have z := peX_z X pa k
    have i := peX_o (pa := pa) h k
    have q := iXPerson_o (X := zNew (peX X pa k) 2 0) (a := xz X + 2 * k) (b := b) (by rw [zNew_z]; omega)
    exact ⟨q.1.trans ((zNew_co (peX X pa k) 2 0 (by omega)).trans i.1), q.2.1.trans ((zNew_lo (peX X pa k) 2 0 (by omega)).trans i.2)⟩
theorem peX_r {X : zX} {pa b : Nat} (h : b < xz X) (h2 : b ≠ pa) : ∀ k, xR (peX X pa k) b = xR X b
  | 0 => rfl
  | k + 1 => by
    have z := peX_z X pa k
    show xR (zpu (iXPerson (zNew (peX X pa k) 2 0) (xz X + 2 * k)) pa k (xz X + 2 * k)) b = _
    rw [zpu_ne _ _ _ h2, iXPerson_r (by rw [zNew_z]; omega) (by omega), zNew_ro _ _ _ (by omega)]
    exact peX_r h h2 k
theorem t_people (d : Nat) (G : zG) (M : zMem) (X : zX) (a pa lk : Nat) (ha : 16 ≤ a) (hax : a < xz X) (hpa : 16 ≤ pa) (gpa : pa < xz X) (dpa : a ≠ pa) (hlk : 16 ≤ lk) (glk : lk < xz X) (dlk : a ≠ lk) (dpl : lk ≠ pa) (c0 : xc X a = 6) (c1 : xc X pa = 102) (l1 : xl X pa = 8) (r0 : xR X a 0 = some pa) (c2 : xc X lk = 103) (l2 : xl X lk = 10) (r2 : xR X a 2 = some lk) : ∀ j k, 8 - k = j → k ≤ 8 → zAt G miX7_init (zRm (d + 2) 30 133) (zQ G (zV (lkM (peM M X pa 8) (peX X pa 8) 10) (lkX (peX X pa 8) lk 10)) 30 133) 58 [some (.ref a), some (.int (nI k))] [] (peM M X pa k) (peX X pa k) (4 + 2 * k, 35 + 6 * k) := by
  intro j
  induction j using Nat.strongRecOn with
  | ind j ih =>
    intro k hj hk
    have z := peX_z X pa k
    have oa := peX_o (pa := pa) hax k
    have op := peX_o (pa := pa) gpa k
    refine j_iload_n (n := 59) dX7_init_58 rfl rfl ?_
    refine j_bipush (n := 61) (v := nI 8) dX7_init_59 rfl (by decide) ?_
    refine j_icmp_geT (n := 64) (tg := 83) dX7_init_61 rfl rfl (i_N (by omega)) (i_N (by omega)) (fun h => ?_) (fun h => ?_)
    · have e : k = 8 := by omega
      subst e
      have ol := peX_o (pa := pa) glk 8
      refine j_iconst (n := 84) (v := nI 0) dX7_init_83 rfl rfl ?_
      refine j_istore_n (n := 85) (lv2 := [some (.ref a), some (.int (nI 0))]) dX7_init_84 rfl rfl (by decide) rfl ?_
      exact t_locks d G (peM M X pa 8) (peX X pa 8) a lk ha (by omega) hlk (by omega) dlk (oa.1.trans c0) (ol.1.trans c2) (ol.2.trans l2) ((congrFun (peX_r hax dpa 8) 2).trans r2) _ 0 rfl (by decide)
    · refine j_aload_n (n := 65) dX7_init_64 rfl rfl ?_
      refine j_getr (n := 68) (k := 0) (b := pa) dX7_init_65 rfl fX7_11 (oa.1.trans c0) ha (by omega) ((congrFun (peX_r hax dpa k) 0).trans r0) ?_
      refine j_iload_n (n := 69) dX7_init_68 rfl rfl ?_
      refine j_new (n := 72) dX7_init_69 rfl nX7_9 (by show 4 + 2 * k + 1 ≤ 30; omega) (by show 35 + 6 * k + 3 ≤ 133; omega) ?_
      refine j_xz (z := xz X + 2 * k) z ?_
      have z2 : xz (zNew (peX X pa k) 2 0) = xz X + 2 * k + 1 := by rw [zNew_z, z]
      have cz : xc (zNew (peX X pa k) 2 0) (xz X + 2 * k) = 2 := by rw [← z]; exact zNew_c _ _ _
      refine j_dup (n := 73) dX7_init_72 rfl rfl ?_
      refine j_callIN (n := 76) (a := xz X + 2 * k) (as := []) (st := [.ref (xz X + 2 * k), .int (nI k), .ref pa]) dX7_init_73 rfl sX7_42 (i_Person d G _ (zNew (peX X pa k) 2 0) (xz X + 2 * k) cz (by omega) (by omega)) (by omega) (by decide) rfl rfl (Nat.le_of_ble_eq_true rfl) (by show 4 + 2 * k + 1 + 1 ≤ 30; omega) (by show 35 + 6 * k + 3 + 3 ≤ 133; omega) (fun v N1 Y1 hh => ?_)
      obtain ⟨rfl, hN, hY⟩ := hh
      rw [hN, hY]
      have z3 := iXPerson_z (zNew (peX X pa k) 2 0) (xz X + 2 * k)
      have q := iXPerson_o (X := zNew (peX X pa k) 2 0) (a := xz X + 2 * k) (b := pa) (by omega)
      have q2 := iXPerson_o (X := zNew (peX X pa k) 2 0) (a := xz X + 2 * k) (b := xz X + 2 * k) (by omega)
      refine j_aasR (n := 77) (a := pa) (b := xz X + 2 * k) (c := 2) (t := 2) (L := 8) (i := k) dX7_init_76 rfl (q.1.trans ((zNew_co (peX X pa k) 2 0 (by omega)).trans (op.1.trans c1))) (by decide) rfl (q.2.1.trans ((zNew_lo (peX X pa k) 2 0 (by omega)).trans (op.2.trans l1))) (by omega) (by decide) hpa (by omega) (q2.1.trans cz) rfl (by decide) (by omega) (by omega) ?_
      refine j_iinc (n := 80) (y := nI (k + 1)) (lv2 := [some (.ref a), some (.int (nI (k + 1)))]) dX7_init_77 rfl rfl (by decide) rfl (show nI k + nI 1 = nI (k + 1) by rw [nI_add]) rfl ?_
      refine j_goto (n := 58) dX7_init_80 rfl ?_
      refine j_cn (c2 := (4 + 2 * (k + 1), 35 + 6 * (k + 1))) (by show (4 + 2 * k + 1 + 1, 35 + 6 * k + 3 + 3) = _; congr 1 <;> omega) ?_
      exact ih _ (by omega) (k + 1) rfl (by omega)
