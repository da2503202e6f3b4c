-- MAKE: a text is made: the cells of Text, row and stack
def zAr (a : Nat) (M1 : zMem) (X1 : zX) : Option Value → zMem → zX → Prop := fun v M2 X2 => v = some (.ref a) ∧ M2 = M1 ∧ X2 = X1
theorem k_copyOf (d : Nat) (G : zG) (M : zMem) (X : zX) (hc0 : xc X 120 = 100) (hl0 : xl X 120 = 96) (hx : 181 ≤ xz X) (n : Nat) (hn : n < 96) : zCall G miJ7_copyOf_59c91 (d + 1) [.ref 120, .int (nI n)] (zAr (xz X) (zs M (xz X) (va_cpy (M 120) (fun _ => 0) 0 0 n)) (zNew X 100 n)) M X 1 n := by
  refine zCall.of (lv := [some (.ref 120), some (.int (nI n)), none]) (by decide) (Nat.le_of_ble_eq_true rfl) rfl ?_
  have hne : 120 ≠ xz X := by omega
  refine j_iload_n (n := 1) dJ7_copyOf_59c91_0 rfl rfl ?_
  refine j_aload_n (n := 2) dJ7_copyOf_59c91_1 rfl rfl ?_
  refine j_alen (n := 3) (t := 0) (L := 96) dJ7_copyOf_59c91_2 rfl hc0 (by decide) hl0 (by decide) (by omega) ?_
  refine j_icmp_neT (n := 6) (tg := 14) dJ7_copyOf_59c91_3 rfl rfl (i_N (by omega)) (i_N (by omega)) (fun h => ?_) (fun h => ?_)
  · refine j_iload_n (n := 15) dJ7_copyOf_59c91_14 rfl rfl ?_
    refine j_newi (n := 17) (L := n) dJ7_copyOf_59c91_15 rfl (nI_pos (by omega)) (nI_clamp (by omega)) (by omega) (Nat.le_refl _) (by show 0 + n ≤ n; omega) ac_int ?_
    refine j_astore_n (n := 18) (lv2 := [some (.ref 120), some (.int (nI n)), some (.ref (xz X))]) dJ7_copyOf_59c91_17 rfl rfl (by decide) rfl ?_
    refine j_aload_n (n := 19) dJ7_copyOf_59c91_18 rfl rfl ?_
    refine j_iconst (n := 20) (v := nI 0) dJ7_copyOf_59c91_19 rfl rfl ?_
    refine j_aload_n (n := 21) dJ7_copyOf_59c91_20 rfl rfl ?_
    refine j_iconst (n := 22) (v := nI 0) dJ7_copyOf_59c91_21 rfl rfl ?_
    refine j_aload_n (n := 23) dJ7_copyOf_59c91_22 rfl rfl ?_
    refine j_alen (n := 24) (t := 0) (L := 96) dJ7_copyOf_59c91_23 rfl ((zNew_co X 100 n hne).trans hc0) (by decide) ((zNew_lo X 100 n hne).trans hl0) (by decide) (by show 120 < xz X + 1; omega) ?_
    refine j_iload_n (n := 25) dJ7_copyOf_59c91_24 rfl rfl ?_
    refine j_mmin (n := 28) dJ7_copyOf_59c91_25 rfl sJ7_304 (by omega) (Nat.le_of_ble_eq_true rfl) (Nat.le_refl _) (by show 0 + n ≤ n; omega) ?_
    refine j_top (y := nI n) ((minI_N (by omega) (by omega)).trans (congrArg nI (by omega))) ?_
    refine j_acopy (n := 31) (L0 := 96) (L := n) (sp := 0) (dp := 0) (k := n) dJ7_copyOf_59c91_28 rfl ac_J7 ((zNew_co X 100 n hne).trans hc0) ((zNew_lo X 100 n hne).trans hl0) (zNew_c X 100 n) (zNew_l X 100 n) (by decide) (by show 120 < xz X + 1; omega) (by omega) (by show xz X < xz X + 1; omega) (by omega) (by omega) (by decide) (by omega) (by omega) (Nat.le_of_ble_eq_true rfl) rfl ?_
    refine j_aload_n (n := 32) dJ7_copyOf_59c91_31 rfl rfl ?_
    refine j_aret dJ7_copyOf_59c91_32 rfl (.inr ⟨_, rfl⟩) (Nat.le_refl _) (by show 0 + n ≤ n; omega) ⟨rfl, ?_, rfl⟩
    rw [zs_eq, zs_zs, zs_ne _ _ hne]
  · exfalso; omega
theorem k_tinit (d : Nat) (G : zG) (M : zMem) (X : zX) (a b : Nat) (x0 x1 : Int32) (s : Nat) (hs : s ≤ 96) (hc : xc X a = 5) (ha : 16 ≤ a) (hax : a < xz X) : zCall G miX6_init (d + 1) [.ref a, .int x0, .int x1, .int (nI s), .ref b] (zV (zs (zs M a (upd (upd (upd (M a) 0 x0) 1 x1) 2 (nI s))) (xz X) (fun _ => 0)) (zsR (zNew (zsR X a (zup (xR X a) 3 (some b))) 100 s) a (zup (zup (xR X a) 3 (some b)) 4 (some (xz X))))) M X 1 s := by
  refine zCall.of (lv := [some (.ref a), some (.int x0), some (.int x1), some (.int (nI s)), some (.ref b)]) (by decide) (Nat.le_of_ble_eq_true rfl) rfl ?_
  have hne : a ≠ xz X := by omega
  refine j_aload_n (n := 1) dX6_init_0 rfl rfl ?_
  refine j_oinit (n := 4) dX6_init_1 rfl oX6_1 (by omega) (Nat.le_of_ble_eq_true rfl) ?_
  refine j_aload_n (n := 5) dX6_init_4 rfl rfl ?_
  refine j_iload_n (n := 6) dX6_init_5 rfl rfl ?_
  refine j_put (n := 9) (k := 0) (x := x0) dX6_init_6 rfl pX6_7 (fun _ => rfl) rfl rfl hc ha hax ?_
  refine j_aload_n (n := 10) dX6_init_9 rfl rfl ?_
  refine j_iload_n (n := 11) dX6_init_10 rfl rfl ?_
  refine j_put (n := 14) (k := 1) (x := x1) dX6_init_11 rfl pX6_13 (fun _ => rfl) rfl rfl hc ha hax ?_
  refine j_aload_n (n := 15) dX6_init_14 rfl rfl ?_
  refine j_iload_n (n := 16) dX6_init_15 rfl rfl ?_
  refine j_put (n := 19) (k := 2) (x := nI s) dX6_init_16 rfl pX6_16 (fun _ => rfl) rfl rfl hc ha hax ?_
  refine j_mem (M2 := zs M a (upd (upd (upd (M a) 0 x0) 1 x1) 2 (nI s))) (by rw [zs_eq, zs_zs, zs_eq, zs_zs]) ?_
  refine j_aload_n (n := 20) dX6_init_19 rfl rfl ?_
  refine j_aload (n := 22) dX6_init_20 rfl rfl ?_
  refine j_putr (n := 25) (k := 3) (b := b) dX6_init_22 rfl pX6_19 (fun _ => rfl) (.inr ⟨_, rfl⟩) hc ha hax ?_
  refine j_aload_n (n := 26) dX6_init_25 rfl rfl ?_
  refine j_iload_n (n := 27) dX6_init_26 rfl rfl ?_
  refine j_newi (n := 29) (L := s) dX6_init_27 rfl (nI_pos (by omega)) (nI_clamp (by omega)) (by omega) (Nat.le_refl _) (by show 0 + s ≤ s; omega) ac_int ?_
  refine j_putr (n := 32) (k := 4) (b := xz X) dX6_init_29 rfl pX6_23 (fun _ => rfl) (.inr ⟨_, rfl⟩) ((zNew_co (zsR X a (zup (xR X a) 3 (some b))) 100 s hne).trans hc) ha (by show a < xz X + 1; omega) ?_
  refine j_rv dX6_init_32 rfl (Nat.le_refl _) (by show 0 + s ≤ s; omega) rfl ?_
  rw [zNew_ro (zsR X a (zup (xR X a) 3 (some b))) 100 s hne, zsR_eq]
def mkM (M : zMem) (z : Nat) (x0 : Int32) (key s n : Nat) : zMem := zs (zs (zs M z (upd (upd (upd (fun _ => 0) 0 x0) 1 (nI key)) 2 (nI s))) (z + 1) (va_cpy (M 120) (fun _ => 0) 0 0 n)) (z + 2) (fun _ => 0)
def mkX (X : zX) (s n : Nat) : zX := zsR (zNew (zsR (zNew (zNew X 5 0) 100 n) (xz X) (zup (xR (zNew (zNew X 5 0) 100 n) (xz X)) 3 (some (xz X + 1)))) 100 s) (xz X) (zup (zup (xR (zNew (zNew X 5 0) 100 n) (xz X)) 3 (some (xz X + 1))) 4 (some (xz X + 2)))
theorem k_makeText (d : Nat) (G : zG) (M : zMem) (X : zX) (hr : kR X) (x0 : Int32) (key s n : Nat) (h6 : M 118 6 = nI key) (h7 : M 118 7 = nI s) (h9 : M 118 9 = nI n) (hs : s ≤ 96) (hn : n < 96) : zCall G miX2_makeText (d + 2) [.ref 118, .int x0] (zAr (xz X) (mkM M (xz X) x0 key s n) (mkX X s n)) M X 3 197 := by
  refine zCall.of (lv := [some (.ref 118), some (.int x0)]) (by decide) (Nat.le_of_ble_eq_true rfl) rfl ?_
  have hz := hr.2.2.2.2.2.2.2.2.2
  have n118 : 118 ≠ xz X := by omega
  have n120 : 120 ≠ xz X := by omega
  have hc : xc (zNew X 5 0) 118 = 1 := (zNew_co X 5 0 n118).trans (hr.a (a := 118) rfl (by decide) rfl).1
  have hlt : 118 < xz (zNew X 5 0) := by show 118 < xz X + 1; omega
  refine j_new (n := 3) dX2_makeText_0 rfl nX2_64 (by show 0 + 1 ≤ 3; omega) (by show 0 + 5 ≤ 197; omega) ?_
  refine j_dup (n := 4) dX2_makeText_3 rfl rfl ?_
  refine j_iload_n (n := 5) dX2_makeText_4 rfl rfl ?_
  refine j_aload_n (n := 6) dX2_makeText_5 rfl rfl ?_
  refine jc_get (n := 9) (k := 6) (v := nI key) dX2_makeText_6 rfl fX2_33 hc (by decide) hlt (by rw [zs_ne _ _ n118]; exact h6) ?_
  refine j_aload_n (n := 10) dX2_makeText_9 rfl rfl ?_
  refine jc_get (n := 13) (k := 7) (v := nI s) dX2_makeText_10 rfl fX2_66 hc (by decide) hlt (by rw [zs_ne _ _ n118]; exact h7) ?_
  refine j_aload_n (n := 14) dX2_makeText_13 rfl rfl ?_
  refine j_getr (n := 17) (k := 8) (b := 120) dX2_makeText_14 rfl fX2_15 hc (by decide) hlt ((congrFun (zNew_ro X 5 0 n118) 8).trans hr.p8) ?_
  refine j_aload_n (n := 18) dX2_makeText_17 rfl rfl ?_
  refine jc_get (n := 21) (k := 9) (v := nI n) dX2_makeText_18 rfl fX2_69 hc (by decide) hlt (by rw [zs_ne _ _ n118]; exact h9) ?_
  refine j_callS (n := 24) (as := [.ref 120, .int (nI n)]) (st := [.int (nI s), .int (nI key), .int x0, .ref (xz X), .ref (xz X)]) dX2_makeText_21 rfl sX2_72 (k_copyOf d G (zs M (xz X) (fun _ => 0)) (zNew X 5 0) ((zNew_co X 5 0 n120).trans (hr.a (a := 120) rfl (by decide) rfl).1) ((zNew_lo X 5 0 n120).trans (hr.a (a := 120) rfl (by decide) rfl).2) (by show 181 ≤ xz X + 1; omega) n hn) (by omega) (by decide) rfl rfl (Nat.le_of_ble_eq_true rfl) (by show 0 + 1 + 1 ≤ 3; omega) (by show 0 + 5 + n ≤ 197; omega) (fun v M1 X1 hh => ?_)
  obtain ⟨rfl, rfl, rfl⟩ := hh
  refine j_callI (n := 27) (a := xz X) (as := [.int x0, .int (nI key), .int (nI s), .ref (xz X + 1)]) (st := [.ref (xz X)]) dX2_makeText_24 rfl sX2_78 (k_tinit d G _ (zNew (zNew X 5 0) 100 n) (xz X) (xz X + 1) x0 (nI key) s hs ((zNew_co (zNew X 5 0) 100 n (by show xz X ≠ xz X + 1; omega)).trans (zNew_c X 5 0)) (by omega) (by show xz X < xz X + 1 + 1; omega)) (by omega) (by decide) rfl rfl (Nat.le_of_ble_eq_true rfl) (by show 0 + 1 + 1 + 1 ≤ 3; omega) (by show 0 + 5 + n + s ≤ 197; omega) (fun v M1 X1 hh => ?_)
  obtain ⟨rfl, rfl, rfl⟩ := hh
  refine j_aret dX2_makeText_27 rfl (.inl ⟨_, rfl⟩) (Nat.le_refl _) (by show 0 + 5 + n + s ≤ 197; omega) ⟨rfl, ?_, rfl⟩
  show zs (zs (zs (zs M (xz X) fun _ => 0) (xz X + 1) (va_cpy (zs M (xz X) (fun _ => 0) 120) (fun _ => 0) 0 0 n)) (xz X) (upd (upd (upd ((zs (zs M (xz X) fun _ => 0) (xz X + 1) (va_cpy (zs M (xz X) (fun _ => 0) 120) (fun _ => 0) 0 0 n)) (xz X)) 0 x0) 1 (nI key)) 2 (nI s))) (xz X + 2) (fun _ => 0) = mkM M (xz X) x0 key s n
  rw [zs_ne (zs M (xz X) fun _ => 0) _ (show xz X ≠ xz X + 1 by omega), zs_eq, zs_ne M _ n120, zs_comm (zs M (xz X) fun _ => 0) _ _ (show xz X + 1 ≠ xz X by omega), zs_zs]
  rfl
