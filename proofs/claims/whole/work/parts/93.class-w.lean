-- CLASS W: by program (wip/whole/gen/c23.py)
theorem pq_cm (M : zMem) (c : Nat → Nat) (q : Nat → Nat) (R : Nat → Int32) (o : Nat → Nat) : pq (cm M 17 c) q R o = cm (pq M q R o) 17 c := by
  unfold pq
  rw [cm_wo (ix_n (by decide)), cm_wo (ix_n (by decide)), cm_wo (ix_n (by decide))]
theorem mkM_cm (M : zMem) (c : Nat → Nat) {z : Nat} (hz : 181 ≤ z) (x0 : Int32) (key s n : Nat) : mkM (cm M 17 c) z x0 key s n = cm (mkM M z x0 key s n) 17 c := by
  unfold mkM
  rw [cm_o (ix_n (by decide)), cm_wo (ix_n (by omega)), cm_wo (ix_n (by omega)), cm_wo (ix_n (by omega))]
theorem mkX_o {X : zX} (s n : Nat) {b : Nat} (h : b < xz X) : xR (mkX X s n) b = xR X b ∧ xc (mkX X s n) b = xc X b ∧ xl (mkX X s n) b = xl X b := by
  have h1 : b ≠ xz X := by omega
  have h2 : b ≠ xz (zNew X 5 0) := by show b ≠ xz X + 1; omega
  refine ⟨?_, ?_, ?_⟩
  · unfold mkX
    rw [zsR_ne _ _ h1, zNew_ro _ _ _ (by show b ≠ xz X + 1 + 1; omega), zsR_ne _ _ h1, zNew_ro _ _ _ h2, zNew_ro _ _ _ h1]
  · show xc (zNew (zsR (zNew (zNew X 5 0) 100 n) (xz X) (zup (xR (zNew (zNew X 5 0) 100 n) (xz X)) 3 (some (xz X + 1)))) 100 s) b = _
    rw [zNew_co _ _ _ (by show b ≠ xz X + 1 + 1; omega)]
    show xc (zNew (zNew X 5 0) 100 n) b = _
    rw [zNew_co _ _ _ h2, zNew_co _ _ _ h1]
  · show xl (zNew (zsR (zNew (zNew X 5 0) 100 n) (xz X) (zup (xR (zNew (zNew X 5 0) 100 n) (xz X)) 3 (some (xz X + 1)))) 100 s) b = _
    rw [zNew_lo _ _ _ (by show b ≠ xz X + 1 + 1; omega)]
    show xl (zNew (zNew X 5 0) 100 n) b = _
    rw [zNew_lo _ _ _ h2, zNew_lo _ _ _ h1]
theorem mkX_z (X : zX) (s n : Nat) : xz (mkX X s n) = xz X + 3 := rfl
theorem exX_mk {X : zX} (hz : 181 ≤ xz X) (s n : Nat) : exX X (mkX X s n) := ⟨fun a ha => (mkX_o s n (by omega)).2, by rw [mkX_z]; omega, fun a ha _ _ _ => (mkX_o s n (by omega)).1, fun k _ => congrFun (mkX_o s n (by omega)).1 k⟩
theorem mkX_c (X : zX) (s n : Nat) : xc (mkX X s n) (xz X) = 5 := by
  show xc (zNew (zsR (zNew (zNew X 5 0) 100 n) (xz X) (zup (xR (zNew (zNew X 5 0) 100 n) (xz X)) 3 (some (xz X + 1)))) 100 s) (xz X) = 5
  rw [zNew_co _ _ _ (by show xz X ≠ xz X + 1 + 1; omega)]
  show xc (zNew (zNew X 5 0) 100 n) (xz X) = 5
  rw [zNew_co _ _ _ (by show xz X ≠ xz X + 1; omega), zNew_c]
theorem exX_20 (X : zX) (f : Nat → Option Nat) {a : Nat} (ha : a = 20 ∨ a = 21) : exX X (zsR X a f) := ⟨fun _ _ => ⟨rfl, rfl⟩, Nat.le_refl _, fun b _ h1 h2 _ => zsR_ne _ _ (by omega), fun k _ => congrFun (zsR_ne _ _ (by omega)) k⟩
def txX (X : zX) (t key s n : Nat) : zX := zsR (zsR (mkX X s n) 20 (zup (xR (mkX X s n) 20) t (some (xz X)))) 21 (zup (xR (zsR (mkX X s n) 20 (zup (xR (mkX X s n) 20) t (some (xz X)))) 21) key (some (xz X)))
def txN (M : zMem) (q : Nat → Nat) (R : Nat → Int32) (o : Nat → Nat) : zMem := zs (pq M q R o) 16 (upd ((pq M q R o) 16) 7 (nI 0))
def txP (M : zMem) (X : zX) (c : Nat → Nat) (T F p : Nat → Nat) (r : Int32) (M1 : zMem) (X1 : zX) : Prop := ∃ q R o,
  ((parseS T F p).2 = 3 ∧ r = (-100) - nI ((parseS T F p).1.1 17) ∧ M1 = cm (txN M q R o) 17 c ∧ X1 = XP X) ∨
  ((parseS T F p).2 < 3 ∧ c 1 = 14 ∧ r = (-1000000003) ∧ M1 = cm (txN M q R o) 17 c ∧ X1 = XP X) ∨
  ((parseS T F p).2 < 3 ∧ c 1 < 14 ∧ r = nI (c 1) ∧ M1 = cm (mkM (txN M q R o) (xz X) (nI (c 1)) (parseS T F p).2 ((parseS T F p).1.1 26) ((parseS T F p).1.1 24)) 17 (pu c 1 (c 1 + 1)) ∧ X1 = txX (XP X) (c 1) (parseS T F p).2 ((parseS T F p).1.1 26) ((parseS T F p).1.1 24) ∧ (parseS T F p).1.1 24 ≤ 95 ∧ (parseS T F p).1.1 26 ≤ (parseS T F p).1.1 24 ∧ lay (parseS T F p).2 R (lst (parseS T F p).1) ∧ gR (parseS T F p).2 (lst (parseS T F p).1) 1 ((parseS T F p).1.1 26) ∧ (parseS T F p).1.1 25 = psF p F 25)
theorem txN_118 (M : zMem) (q : Nat → Nat) (R : Nat → Int32) (o : Nat → Nat) (k : Nat) : txN M q R o 118 k = nI (q k) := by
  unfold txN
  rw [zs_ne _ _ (by decide), pq_q]
theorem mkM_1 (M : zMem) (z : Nat) (x0 : Int32) (key s n : Nat) : mkM M z x0 key s n z 1 = nI key := by
  unfold mkM
  rw [zs_ne _ _ (by omega), zs_ne _ _ (by omega), zs_eq]
  rfl
theorem k_text (d : Nat) (G : zG) (M : zMem) (X : zX) (hr : kR X) (c : Nat → Nat) (hc1 : c 1 ≤ 14) (T : Nat → Nat) (hT : tpC M T) (hT2 : ∀ i, T i ≤ 255) (hf : zFm G) (n : Nat) (hl7 : M 16 7 = nI n) (hn : n ≤ 96) (F p : Nat → Nat) (e16 : F 16 = n) (h20 : F 20 ≤ 5287680) (h21 : F 21 ≤ 255) (hp : p 1 ≤ 14) : zCall G miX9_text (d + 7) [.ref 16] (zIr (txP M X c T F p)) (cm M 17 c) X 3 197 := by
  refine zCall.of (lv := [some (.ref 16), none, none]) (by decide) (Nat.le_of_ble_eq_true rfl) rfl ?_
  refine j_aload_n (n := 1) dX9_text_0 rfl rfl ?_
  refine j_getr (n := 4) (k := 5) (b := 118) dX9_text_1 rfl fX9_32 (hr).c (by decide) ((hr).hi (by decide)) (hr.f (k := 5) rfl (by decide)) ?_
  refine j_aload_n (n := 5) dX9_text_4 rfl rfl ?_
  refine j_getr (n := 8) (k := 6) (b := 122) dX9_text_5 rfl fX9_36 (hr).c (by decide) ((hr).hi (by decide)) (hr.f (k := 6) rfl (by decide)) ?_
  refine j_aload_n (n := 9) dX9_text_8 rfl rfl ?_
  refine jc_get (n := 12) (k := 7) (v := nI n) dX9_text_9 rfl fX9_253 (hr).c (by decide) ((hr).hi (by decide)) ((congrFun (cm_o (ix_n (by decide))) _).trans hl7) ?_
  refine j_cVr (n := 15) dX9_text_12 rfl sX9_260 (k_fnd d G (cm M 17 c) X hr T (fun i hi => (congrFun (cm_o (ix_n (by decide))) i).trans (hT i hi)) hT2 hf n F p e16 hn h20 h21 hp) (by omega) (by decide) rfl rfl (Nat.le_of_ble_eq_true rfl) (hr.a (a := 118) rfl (by decide) rfl).1 (by decide) (hr.hi (by decide)) (by decide) (by decide) (fun r N1 Y1 hh => ?_)
  obtain ⟨e2, q, R, o, e3, hcase⟩ := hh
  rw [e2, e3, pq_cm]
  have hr : kR (XP X) := kR_ex (exX_XP X) hr
  refine j_istore_n (n := 16) (lv2 := [some (.ref 16), some (.int r), none]) dX9_text_15 rfl rfl (by decide) rfl ?_
  refine j_aload_n (n := 17) dX9_text_16 rfl rfl ?_
  refine j_iconst (n := 18) (v := nI 0) dX9_text_17 rfl rfl ?_
  refine jc_put (n := 21) (k := 7) (x := nI 0) (M2 := cm (zs (pq M q R o) 16 (upd ((pq M q R o) 16) 7 (nI 0))) 17 c) dX9_text_18 rfl pX9_253 (fun h => by cases h) rfl rfl (hr).c (by decide) ((hr).hi (by decide)) ((cm_wo (ix_n (by omega)) _).trans (congrArg (fun q => cm q _ _) ((congrArg (fun f => zs _ _ (upd f _ _)) (cm_o (ix_n (by omega)))).trans rfl))) ?_
  refine j_mem (M2 := cm (txN M q R o) 17 c) rfl ?_
  rcases hcase with ⟨k3, er, h17⟩ | ⟨k3, er, k6, k7, k9, b24, b26, hlay, hgr, h25⟩
  · subst er
    refine j_iload_n (n := 22) dX9_text_21 rfl rfl ?_
    refine j_iconst (n := 23) (v := (-1)) dX9_text_22 rfl rfl ?_
    refine j_icmp_eqT (n := 26) (tg := 31) dX9_text_23 rfl rfl (i_N (by omega)) (show Int32.toInt (-1) = (-1 : Int) from by decide) (fun h101 => ?_) (fun h101 => ?_)
    · exfalso; omega
    · refine j_bipush (n := 28) (v := (-100)) dX9_text_26 rfl (by decide) ?_
      refine j_iload_n (n := 29) dX9_text_28 rfl rfl ?_
      refine j_isub (n := 30) dX9_text_29 rfl ?_
      exact j_iret dX9_text_30 rfl rfl (by decide) (by decide) ⟨_, rfl, q, R, o, .inl ⟨k3, rfl, rfl, rfl⟩⟩
  · subst er
    refine j_iload_n (n := 22) dX9_text_21 rfl rfl ?_
    refine j_iconst (n := 23) (v := (-1)) dX9_text_22 rfl rfl ?_
    refine j_icmp_eqT (n := 26) (tg := 31) dX9_text_23 rfl rfl (show Int32.toInt (-1) = (-1 : Int) from by decide) (show Int32.toInt (-1) = (-1 : Int) from by decide) (fun h102 => ?_) (fun h102 => ?_)
    · refine j_aload_n (n := 32) dX9_text_31 rfl rfl ?_
      refine j_getr (n := 35) (k := 0) (b := 17) dX9_text_32 rfl fX9_10 (hr).c (by decide) ((hr).hi (by decide)) (hr.f (k := 0) rfl (by decide)) ?_
      refine jc_get (n := 38) (k := 5) (v := nI (c 1)) dX9_text_35 rfl fX9_264 (hr.1.1).c (hr.1.1).lo ((hr.1.1).hi (by omega)) (cm_r (ix_t rfl)) ?_
      refine j_bipush (n := 40) (v := nI 14) dX9_text_38 rfl (by decide) ?_
      refine j_icmp_ltT (n := 43) (tg := 46) dX9_text_40 rfl rfl (i_N (by omega)) (i_N (by omega)) (fun h103 => ?_) (fun h103 => ?_)
      · refine j_aload_n (n := 47) dX9_text_46 rfl rfl ?_
        refine j_getr (n := 50) (k := 5) (b := 118) dX9_text_47 rfl fX9_32 (hr).c (by decide) ((hr).hi (by decide)) (hr.f (k := 5) rfl (by decide)) ?_
        refine j_aload_n (n := 51) dX9_text_50 rfl rfl ?_
        refine j_getr (n := 54) (k := 0) (b := 17) dX9_text_51 rfl fX9_10 (hr).c (by decide) ((hr).hi (by decide)) (hr.f (k := 0) rfl (by decide)) ?_
        refine jc_get (n := 57) (k := 5) (v := nI (c 1)) dX9_text_54 rfl fX9_264 (hr.1.1).c (hr.1.1).lo ((hr.1.1).hi (by omega)) (cm_r (ix_t rfl)) ?_
        refine j_callV (n := 60) (a := 118) (as := [.int (nI (c 1))]) (st := []) dX9_text_57 rfl sX9_267 (k_makeText (d + 4) G (cm (txN M q R o) 17 c) (XP X) hr (nI (c 1)) (parseS T F p).2 ((parseS T F p).1.1 26) ((parseS T F p).1.1 24) ((congrFun (cm_o (ix_n (by decide))) 6).trans ((txN_118 _ _ _ _ 6).trans (congrArg nI k6))) ((congrFun (cm_o (ix_n (by decide))) 7).trans ((txN_118 _ _ _ _ 7).trans (congrArg nI k7))) ((congrFun (cm_o (ix_n (by decide))) 9).trans ((txN_118 _ _ _ _ 9).trans (congrArg nI k9))) (by omega) (by omega)) (by omega) (by decide) rfl rfl (Nat.le_of_ble_eq_true rfl) (hr.a (a := 118) rfl (by decide) rfl).1 (by decide) (hr.hi (by decide)) (by decide) (by decide) (fun v M1 X1 hh => ?_)
        obtain ⟨rfl, rfl, rfl⟩ := hh
        have hz : 181 ≤ xz X := hr.2.2.2.2.2.2.2.2.2
        refine j_mem (M2 := cm (mkM (txN M q R o) (xz X) (nI (c 1)) (parseS T F p).2 ((parseS T F p).1.1 26) ((parseS T F p).1.1 24)) 17 c) (mkM_cm (txN M q R o) c (z := xz X) hz _ _ _ _) ?_
        have hr : kR (mkX (XP X) ((parseS T F p).1.1 26) ((parseS T F p).1.1 24)) := kR_ex (exX_mk (X := XP X) hz _ _) hr
        have hzc : xc (mkX (XP X) ((parseS T F p).1.1 26) ((parseS T F p).1.1 24)) (xz X) = 5 := mkX_c (XP X) _ _
        have hzl : xz X < xz (mkX (XP X) ((parseS T F p).1.1 26) ((parseS T F p).1.1 24)) := by rw [mkX_z]; show xz X < xz X + 3; omega
        refine j_astore_n (n := 61) (lv2 := [some (.ref 16), some (.int (-1)), some (.ref (xz X))]) dX9_text_60 rfl rfl (by decide) rfl ?_
        refine j_aload_n (n := 62) dX9_text_61 rfl rfl ?_
        refine j_getr (n := 65) (k := 0) (b := 17) dX9_text_62 rfl fX9_10 (hr).c (by decide) ((hr).hi (by decide)) (hr.f (k := 0) rfl (by decide)) ?_
        refine j_getr (n := 68) (k := 4) (b := 20) dX9_text_65 rfl fX9_271 (hr.1.1).c (hr.1.1).lo ((hr.1.1).hi (by omega)) (hr.1.1).r4 ?_
        refine j_aload_n (n := 69) dX9_text_68 rfl rfl ?_
        refine j_getr (n := 72) (k := 0) (b := 17) dX9_text_69 rfl fX9_10 (hr).c (by decide) ((hr).hi (by decide)) (hr.f (k := 0) rfl (by decide)) ?_
        refine jc_get (n := 75) (k := 5) (v := nI (c 1)) dX9_text_72 rfl fX9_264 (hr.1.1).c (hr.1.1).lo ((hr.1.1).hi (by omega)) (cm_r (ix_t rfl)) ?_
        refine j_aload_n (n := 76) dX9_text_75 rfl rfl ?_
        refine j_aast (n := 77) (a := 20) (b := xz X) (c := 5) (t := 4) (L := 14) (i := nI (c 1)) dX9_text_76 rfl (hr.1.1.a3).1 (by decide) rfl (hr.1.1.a3).2 (vp_inN (by omega) (by decide)) (by decide) (hr.hi (by decide)) hzc rfl (by decide) (by omega) hzl ?_
        rw [nI_clamp (by omega)]
        have hr := kR_ex (exX_20 (mkX (XP X) ((parseS T F p).1.1 26) ((parseS T F p).1.1 24)) (zup (xR (mkX (XP X) ((parseS T F p).1.1 26) ((parseS T F p).1.1 24)) 20) (c 1) (some (xz X))) (.inl rfl)) hr
        refine j_aload_n (n := 78) dX9_text_77 rfl rfl ?_
        refine j_getr (n := 81) (k := 0) (b := 17) dX9_text_78 rfl fX9_10 (hr).c (by decide) ((hr).hi (by decide)) (hr.f (k := 0) rfl (by decide)) ?_
        refine j_getr (n := 84) (k := 6) (b := 21) dX9_text_81 rfl fX9_242 (hr.1.1).c (hr.1.1).lo ((hr.1.1).hi (by omega)) (hr.1.1).r6 ?_
        refine j_aload_n (n := 85) dX9_text_84 rfl rfl ?_
        refine jc_get (n := 88) (k := 1) (v := nI (parseS T F p).2) dX9_text_85 rfl fX9_274 hzc (by omega) hzl ((congrFun (cm_o (ix_n (by omega))) 1).trans (mkM_1 _ _ _ _ _ _)) ?_
        refine j_aload_n (n := 89) dX9_text_88 rfl rfl ?_
        refine j_aast (n := 90) (a := 21) (b := xz X) (c := 5) (t := 4) (L := 3) (i := nI (parseS T F p).2) dX9_text_89 rfl (hr.1.1.a4).1 (by decide) rfl (hr.1.1.a4).2 (vp_inN (by omega) (by decide)) (by decide) (hr.hi (by decide)) hzc rfl (by decide) (by omega) hzl ?_
        rw [nI_clamp (n := (parseS T F p).2) (by omega)]
        have hr := kR_ex (exX_20 _ (zup (xR (zsR (mkX (XP X) ((parseS T F p).1.1 26) ((parseS T F p).1.1 24)) 20 (zup (xR (mkX (XP X) ((parseS T F p).1.1 26) ((parseS T F p).1.1 24)) 20) (c 1) (some (xz X)))) 21) (parseS T F p).2 (some (xz X))) (.inr rfl)) hr
        refine j_aload_n (n := 91) dX9_text_90 rfl rfl ?_
        refine j_getr (n := 94) (k := 0) (b := 17) dX9_text_91 rfl fX9_10 (hr).c (by decide) ((hr).hi (by decide)) (hr.f (k := 0) rfl (by decide)) ?_
        refine j_dup (n := 95) dX9_text_94 rfl rfl ?_
        refine jc_get (n := 98) (k := 5) (v := nI (c 1)) dX9_text_95 rfl fX9_264 (hr.1.1).c (hr.1.1).lo ((hr.1.1).hi (by omega)) (cm_r (ix_t rfl)) ?_
        refine j_dup_x1 (n := 99) dX9_text_98 rfl rfl rfl ?_
        refine j_iconst (n := 100) (v := nI 1) dX9_text_99 rfl rfl ?_
        refine j_iaddN (n := 101) (c := c 1 + 1) dX9_text_100 rfl rfl ?_
        refine jc_put (n := 104) (k := 5) (x := nI (c 1 + 1)) (M2 := cm (mkM (txN M q R o) (xz X) (nI (c 1)) (parseS T F p).2 ((parseS T F p).1.1 26) ((parseS T F p).1.1 24)) 17 (pu c 1 (c 1 + 1))) dX9_text_101 rfl pX9_264 (fun h => by cases h) rfl rfl (hr.1.1).c (hr.1.1).lo ((hr.1.1).hi (by omega)) (cm_w (ix_t rfl) _) ?_
        exact j_iret dX9_text_104 rfl rfl (by decide) (by decide) ⟨_, rfl, q, R, o, .inr (.inr ⟨k3, by omega, rfl, rfl, rfl, b24, b26, hlay, hgr, h25⟩)⟩
      · refine j_ldc (n := 45) (v := -1000000003) dX9_text_43 rfl kX9_76 ?_
        exact j_iret dX9_text_45 rfl rfl (by decide) (by decide) ⟨_, rfl, q, R, o, .inr (.inl ⟨k3, by omega, rfl, rfl, rfl⟩)⟩
    · exfalso; omega
