-- CLASS A: by program (wip/whole/gen/c1.py)
theorem minI_N {a b : Nat} (ha : a < 2147483648) (hb : b < 2147483648) : minI (nI a) (nI b) = nI (min a b) := by
  unfold minI
  rw [i_N ha, i_N hb]
  split
  · rw [show min a b = b by omega]
  · rw [show min a b = a by omega]
theorem maxI_0 {x : Int32} : maxI (nI 0) x = nI x.toInt.toNat := by
  unfold maxI
  have hb : x.toInt < 2147483648 := Int32.toInt_lt x
  rw [i_N (by decide)]
  split
  · apply int32_eq
    rw [i_N (by omega)]
    omega
  · rw [show x.toInt.toNat = 0 by omega]
/-- the tables that are only read -/
def gOK (G : zG) : Prop := zoL G 0 = 6 ∧ (zoX G 0 0 = -1 ∧ zoX G 0 1 = nI 0 ∧ zoX G 0 2 = nI 0 ∧ zoX G 0 3 = nI 1 ∧ zoX G 0 4 = nI 2 ∧ zoX G 0 5 = nI 0) ∧ zoL G 1 = 3 ∧ zoX G 1 0 = nI 81 ∧ zoX G 1 1 = nI 9 ∧ zoX G 1 2 = nI 1
theorem held_N {x : Int32} : (minI (nI 99) x).toInt.toNat = min 99 x.toInt.toNat := by
  unfold minI
  rw [i_N (by decide)]
  split
  · omega
  · rw [i_N (by decide)]
    omega
theorem c_held (d : Nat) (G : zG) (M : zMem) (X : zX) (x : Int32) : zCall G miX9_held (d + 1) [.int x, .int (nI 99)] (zI (nI (min 99 x.toInt.toNat)) M X) M X 0 0 := by
  refine zCall.of (lv := [some (.int x), some (.int (nI 99))]) (by decide) (Nat.le_of_ble_eq_true rfl) rfl ?_
  refine j_iconst (n := 1) (v := nI 0) dX9_held_0 rfl rfl ?_
  refine j_iload_n (n := 2) dX9_held_1 rfl rfl ?_
  refine j_iload_n (n := 3) dX9_held_2 rfl rfl ?_
  refine j_mmin (n := 6) dX9_held_3 rfl sX9_165 (by omega) (Nat.le_of_ble_eq_true rfl) (by decide) (by decide) ?_
  refine j_mmax (n := 9) dX9_held_6 rfl sX9_341 (by omega) (Nat.le_of_ble_eq_true rfl) (by decide) (by decide) ?_
  refine j_top (y := nI ((minI (nI 99) x).toInt.toNat)) maxI_0 ?_
  exact j_ri dX9_held_9 rfl (Nat.le_refl _) (Nat.le_refl _) (congrArg nI held_N) rfl rfl
theorem jc_sald {G : zG} {mi : zM} {rm : Room} {Q : List Frame → Array Value → State → State → Prop} {pc n : Nat} {lv : List (Option Value)} {st : List Value} {M : zMem} {X : zX} {cn : Nat × Nat} {a i L : Nat} {v : Int32} (hd : decode (zc mi) pc = .ok (.iaload, 1)) (hn : pc + 1 = n) (ha : a < 3) (hL : zoL G a = L) (hi : i < L) (hb : L ≤ 2147483648) (hv : zoX G a i = v) (kk : zAt G mi rm Q n lv (.int v :: st) M X cn) : zAt G mi rm Q pc lv (.int (nI i) :: .ref a :: st) M X cn :=
  j_sald hd hn ha (by rw [hL]; exact vp_inN hi hb) (by rw [nI_clamp (by omega), hv]; exact kk)
theorem c_isOfK (d : Nat) (G : zG) (M : zMem) (X : zX) (hG : gOK G) (a b : Nat) (ha : a ≤ 5) (hb : b ≤ 5) : zCall G miX0_isOf (d + 0) [.int (nI a), .int (nI b)] (zI (zB (a = b ∨ b = 0 ∨ (b = 1 ∧ a = 3) ∨ (b = 2 ∧ a = 4))) M X) M X 0 0 := by
  have hab : a = 0 ∨ a = 1 ∨ a = 2 ∨ a = 3 ∨ a = 4 ∨ a = 5 := by omega
  rcases hab with rfl | rfl | rfl | rfl | rfl | rfl
  · refine zCall.of (lv := [some (.int (nI 0)), some (.int (nI b)), none, none]) (by decide) (Nat.le_of_ble_eq_true rfl) rfl ?_
    refine j_iload_n (n := 1) dX0_isOf_0 rfl rfl ?_
    refine j_istore_n (n := 2) (lv2 := [some (.int (nI 0)), some (.int (nI b)), some (.int (nI 0)), none]) dX0_isOf_1 rfl rfl (by decide) rfl ?_
    refine j_iconst (n := 3) (v := nI 0) dX0_isOf_2 rfl rfl ?_
    refine j_istore_n (n := 4) (lv2 := [some (.int (nI 0)), some (.int (nI b)), some (.int (nI 0)), some (.int (nI 0))]) dX0_isOf_3 rfl rfl (by decide) rfl ?_
    refine j_iload_n (n := 5) dX0_isOf_4 rfl rfl ?_
    refine j_bipush (n := 7) (v := nI 6) dX0_isOf_5 rfl (by decide) ?_
    refine j_icmp_geT (n := 10) (tg := 33) dX0_isOf_7 rfl rfl (i_N (by omega)) (i_N (by omega)) (fun h1 => ?_) (fun h1 => ?_)
    · exact absurd h1 (by decide)
    · refine j_iload_n (n := 11) dX0_isOf_10 rfl rfl ?_
      refine j_if_lt (tg := 33) (n := 14) dX0_isOf_11 rfl rfl (fun h => absurd h (by decide)) (fun h => ?_)
      refine j_iload_n (n := 15) dX0_isOf_14 rfl rfl ?_
      refine j_iload_n (n := 16) dX0_isOf_15 rfl rfl ?_
      refine j_icmp_neT (n := 19) (tg := 21) dX0_isOf_16 rfl rfl (i_N (by omega)) (i_N (by omega)) (fun h2 => ?_) (fun h2 => ?_)
      · refine j_gets0 (n := 24) dX0_isOf_21 rfl tX0_9 ?_
        refine j_iload_n (n := 25) dX0_isOf_24 rfl rfl ?_
        refine jc_sald (n := 26) (v := (-1)) dX0_isOf_25 rfl (by decide) hG.1 (by decide) (by decide) hG.2.1.1 ?_
        refine j_istore_n (n := 27) (lv2 := [some (.int (nI 0)), some (.int (nI b)), some (.int (-1)), some (.int (nI 0))]) dX0_isOf_26 rfl rfl (by decide) rfl ?_
        refine j_iinc (n := 30) (y := nI 1) (lv2 := [some (.int (nI 0)), some (.int (nI b)), some (.int (-1)), some (.int (nI 1))]) dX0_isOf_27 rfl rfl (by decide) rfl (show nI 0 + nI 1 = nI 1 by rw [nI_add]; try (congr 1)) rfl ?_
        refine j_goto (n := 4) dX0_isOf_30 rfl ?_
        refine j_iload_n (n := 5) dX0_isOf_4 rfl rfl ?_
        refine j_bipush (n := 7) (v := nI 6) dX0_isOf_5 rfl (by decide) ?_
        refine j_icmp_geT (n := 10) (tg := 33) dX0_isOf_7 rfl rfl (i_N (by omega)) (i_N (by omega)) (fun h3 => ?_) (fun h3 => ?_)
        · exact absurd h3 (by decide)
        · refine j_iload_n (n := 11) dX0_isOf_10 rfl rfl ?_
          refine j_if_lt (tg := 33) (n := 14) dX0_isOf_11 rfl rfl (fun h => ?_) (fun h => absurd (by decide) h)
          refine j_iconst (n := 34) (v := nI 0) dX0_isOf_33 rfl rfl ?_
          exact j_rb dX0_isOf_34 rfl rfl (Nat.le_refl _) (Nat.le_refl _) (by first | exact (zB_t (by omega)).symm | exact (zB_f (by omega)).symm) rfl rfl
      · refine j_iconst (n := 20) (v := nI 1) dX0_isOf_19 rfl rfl ?_
        exact j_rb dX0_isOf_20 rfl rfl (Nat.le_refl _) (Nat.le_refl _) (by first | exact (zB_t (by omega)).symm | exact (zB_f (by omega)).symm) rfl rfl
  · refine zCall.of (lv := [some (.int (nI 1)), some (.int (nI b)), none, none]) (by decide) (Nat.le_of_ble_eq_true rfl) rfl ?_
    refine j_iload_n (n := 1) dX0_isOf_0 rfl rfl ?_
    refine j_istore_n (n := 2) (lv2 := [some (.int (nI 1)), some (.int (nI b)), some (.int (nI 1)), none]) dX0_isOf_1 rfl rfl (by decide) rfl ?_
    refine j_iconst (n := 3) (v := nI 0) dX0_isOf_2 rfl rfl ?_
    refine j_istore_n (n := 4) (lv2 := [some (.int (nI 1)), some (.int (nI b)), some (.int (nI 1)), some (.int (nI 0))]) dX0_isOf_3 rfl rfl (by decide) rfl ?_
    refine j_iload_n (n := 5) dX0_isOf_4 rfl rfl ?_
    refine j_bipush (n := 7) (v := nI 6) dX0_isOf_5 rfl (by decide) ?_
    refine j_icmp_geT (n := 10) (tg := 33) dX0_isOf_7 rfl rfl (i_N (by omega)) (i_N (by omega)) (fun h1 => ?_) (fun h1 => ?_)
    · exact absurd h1 (by decide)
    · refine j_iload_n (n := 11) dX0_isOf_10 rfl rfl ?_
      refine j_if_lt (tg := 33) (n := 14) dX0_isOf_11 rfl rfl (fun h => absurd h (by decide)) (fun h => ?_)
      refine j_iload_n (n := 15) dX0_isOf_14 rfl rfl ?_
      refine j_iload_n (n := 16) dX0_isOf_15 rfl rfl ?_
      refine j_icmp_neT (n := 19) (tg := 21) dX0_isOf_16 rfl rfl (i_N (by omega)) (i_N (by omega)) (fun h2 => ?_) (fun h2 => ?_)
      · refine j_gets0 (n := 24) dX0_isOf_21 rfl tX0_9 ?_
        refine j_iload_n (n := 25) dX0_isOf_24 rfl rfl ?_
        refine jc_sald (n := 26) (v := nI 0) dX0_isOf_25 rfl (by decide) hG.1 (by decide) (by decide) hG.2.1.2.1 ?_
        refine j_istore_n (n := 27) (lv2 := [some (.int (nI 1)), some (.int (nI b)), some (.int (nI 0)), some (.int (nI 0))]) dX0_isOf_26 rfl rfl (by decide) rfl ?_
        refine j_iinc (n := 30) (y := nI 1) (lv2 := [some (.int (nI 1)), some (.int (nI b)), some (.int (nI 0)), some (.int (nI 1))]) dX0_isOf_27 rfl rfl (by decide) rfl (show nI 0 + nI 1 = nI 1 by rw [nI_add]; try (congr 1)) rfl ?_
        refine j_goto (n := 4) dX0_isOf_30 rfl ?_
        refine j_iload_n (n := 5) dX0_isOf_4 rfl rfl ?_
        refine j_bipush (n := 7) (v := nI 6) dX0_isOf_5 rfl (by decide) ?_
        refine j_icmp_geT (n := 10) (tg := 33) dX0_isOf_7 rfl rfl (i_N (by omega)) (i_N (by omega)) (fun h3 => ?_) (fun h3 => ?_)
        · exact absurd h3 (by decide)
        · refine j_iload_n (n := 11) dX0_isOf_10 rfl rfl ?_
          refine j_if_lt (tg := 33) (n := 14) dX0_isOf_11 rfl rfl (fun h => absurd h (by decide)) (fun h => ?_)
          refine j_iload_n (n := 15) dX0_isOf_14 rfl rfl ?_
          refine j_iload_n (n := 16) dX0_isOf_15 rfl rfl ?_
          refine j_icmp_neT (n := 19) (tg := 21) dX0_isOf_16 rfl rfl (i_N (by omega)) (i_N (by omega)) (fun h4 => ?_) (fun h4 => ?_)
          · refine j_gets0 (n := 24) dX0_isOf_21 rfl tX0_9 ?_
            refine j_iload_n (n := 25) dX0_isOf_24 rfl rfl ?_
            refine jc_sald (n := 26) (v := (-1)) dX0_isOf_25 rfl (by decide) hG.1 (by decide) (by decide) hG.2.1.1 ?_
            refine j_istore_n (n := 27) (lv2 := [some (.int (nI 1)), some (.int (nI b)), some (.int (-1)), some (.int (nI 1))]) dX0_isOf_26 rfl rfl (by decide) rfl ?_
            refine j_iinc (n := 30) (y := nI 2) (lv2 := [some (.int (nI 1)), some (.int (nI b)), some (.int (-1)), some (.int (nI 2))]) dX0_isOf_27 rfl rfl (by decide) rfl (show nI 1 + nI 1 = nI 2 by rw [nI_add]; try (congr 1)) rfl ?_
            refine j_goto (n := 4) dX0_isOf_30 rfl ?_
            refine j_iload_n (n := 5) dX0_isOf_4 rfl rfl ?_
            refine j_bipush (n := 7) (v := nI 6) dX0_isOf_5 rfl (by decide) ?_
            refine j_icmp_geT (n := 10) (tg := 33) dX0_isOf_7 rfl rfl (i_N (by omega)) (i_N (by omega)) (fun h5 => ?_) (fun h5 => ?_)
            · exact absurd h5 (by decide)
            · refine j_iload_n (n := 11) dX0_isOf_10 rfl rfl ?_
              refine j_if_lt (tg := 33) (n := 14) dX0_isOf_11 rfl rfl (fun h => ?_) (fun h => absurd (by decide) h)
              refine j_iconst (n := 34) (v := nI 0) dX0_isOf_33 rfl rfl ?_
              exact j_rb dX0_isOf_34 rfl rfl (Nat.le_refl _) (Nat.le_refl _) (by first | exact (zB_t (by omega)).symm | exact (zB_f (by omega)).symm) rfl rfl
          · refine j_iconst (n := 20) (v := nI 1) dX0_isOf_19 rfl rfl ?_
            exact j_rb dX0_isOf_20 rfl rfl (Nat.le_refl _) (Nat.le_refl _) (by first | exact (zB_t (by omega)).symm | exact (zB_f (by omega)).symm) rfl rfl
      · refine j_iconst (n := 20) (v := nI 1) dX0_isOf_19 rfl rfl ?_
        exact j_rb dX0_isOf_20 rfl rfl (Nat.le_refl _) (Nat.le_refl _) (by first | exact (zB_t (by omega)).symm | exact (zB_f (by omega)).symm) rfl rfl
  · refine zCall.of (lv := [some (.int (nI 2)), some (.int (nI b)), none, none]) (by decide) (Nat.le_of_ble_eq_true rfl) rfl ?_
    refine j_iload_n (n := 1) dX0_isOf_0 rfl rfl ?_
    refine j_istore_n (n := 2) (lv2 := [some (.int (nI 2)), some (.int (nI b)), some (.int (nI 2)), none]) dX0_isOf_1 rfl rfl (by decide) rfl ?_
    refine j_iconst (n := 3) (v := nI 0) dX0_isOf_2 rfl rfl ?_
    refine j_istore_n (n := 4) (lv2 := [some (.int (nI 2)), some (.int (nI b)), some (.int (nI 2)), some (.int (nI 0))]) dX0_isOf_3 rfl rfl (by decide) rfl ?_
    refine j_iload_n (n := 5) dX0_isOf_4 rfl rfl ?_
    refine j_bipush (n := 7) (v := nI 6) dX0_isOf_5 rfl (by decide) ?_
    refine j_icmp_geT (n := 10) (tg := 33) dX0_isOf_7 rfl rfl (i_N (by omega)) (i_N (by omega)) (fun h1 => ?_) (fun h1 => ?_)
    · exact absurd h1 (by decide)
    · refine j_iload_n (n := 11) dX0_isOf_10 rfl rfl ?_
      refine j_if_lt (tg := 33) (n := 14) dX0_isOf_11 rfl rfl (fun h => absurd h (by decide)) (fun h => ?_)
      refine j_iload_n (n := 15) dX0_isOf_14 rfl rfl ?_
      refine j_iload_n (n := 16) dX0_isOf_15 rfl rfl ?_
      refine j_icmp_neT (n := 19) (tg := 21) dX0_isOf_16 rfl rfl (i_N (by omega)) (i_N (by omega)) (fun h2 => ?_) (fun h2 => ?_)
      · refine j_gets0 (n := 24) dX0_isOf_21 rfl tX0_9 ?_
        refine j_iload_n (n := 25) dX0_isOf_24 rfl rfl ?_
        refine jc_sald (n := 26) (v := nI 0) dX0_isOf_25 rfl (by decide) hG.1 (by decide) (by decide) hG.2.1.2.2.1 ?_
        refine j_istore_n (n := 27) (lv2 := [some (.int (nI 2)), some (.int (nI b)), some (.int (nI 0)), some (.int (nI 0))]) dX0_isOf_26 rfl rfl (by decide) rfl ?_
        refine j_iinc (n := 30) (y := nI 1) (lv2 := [some (.int (nI 2)), some (.int (nI b)), some (.int (nI 0)), some (.int (nI 1))]) dX0_isOf_27 rfl rfl (by decide) rfl (show nI 0 + nI 1 = nI 1 by rw [nI_add]; try (congr 1)) rfl ?_
        refine j_goto (n := 4) dX0_isOf_30 rfl ?_
        refine j_iload_n (n := 5) dX0_isOf_4 rfl rfl ?_
        refine j_bipush (n := 7) (v := nI 6) dX0_isOf_5 rfl (by decide) ?_
        refine j_icmp_geT (n := 10) (tg := 33) dX0_isOf_7 rfl rfl (i_N (by omega)) (i_N (by omega)) (fun h3 => ?_) (fun h3 => ?_)
        · exact absurd h3 (by decide)
        · refine j_iload_n (n := 11) dX0_isOf_10 rfl rfl ?_
          refine j_if_lt (tg := 33) (n := 14) dX0_isOf_11 rfl rfl (fun h => absurd h (by decide)) (fun h => ?_)
          refine j_iload_n (n := 15) dX0_isOf_14 rfl rfl ?_
          refine j_iload_n (n := 16) dX0_isOf_15 rfl rfl ?_
          refine j_icmp_neT (n := 19) (tg := 21) dX0_isOf_16 rfl rfl (i_N (by omega)) (i_N (by omega)) (fun h4 => ?_) (fun h4 => ?_)
          · refine j_gets0 (n := 24) dX0_isOf_21 rfl tX0_9 ?_
            refine j_iload_n (n := 25) dX0_isOf_24 rfl rfl ?_
            refine jc_sald (n := 26) (v := (-1)) dX0_isOf_25 rfl (by decide) hG.1 (by decide) (by decide) hG.2.1.1 ?_
            refine j_istore_n (n := 27) (lv2 := [some (.int (nI 2)), some (.int (nI b)), some (.int (-1)), some (.int (nI 1))]) dX0_isOf_26 rfl rfl (by decide) rfl ?_
            refine j_iinc (n := 30) (y := nI 2) (lv2 := [some (.int (nI 2)), some (.int (nI b)), some (.int (-1)), some (.int (nI 2))]) dX0_isOf_27 rfl rfl (by decide) rfl (show nI 1 + nI 1 = nI 2 by rw [nI_add]; try (congr 1)) rfl ?_
            refine j_goto (n := 4) dX0_isOf_30 rfl ?_
            refine j_iload_n (n := 5) dX0_isOf_4 rfl rfl ?_
            refine j_bipush (n := 7) (v := nI 6) dX0_isOf_5 rfl (by decide) ?_
            refine j_icmp_geT (n := 10) (tg := 33) dX0_isOf_7 rfl rfl (i_N (by omega)) (i_N (by omega)) (fun h5 => ?_) (fun h5 => ?_)
            · exact absurd h5 (by decide)
            · refine j_iload_n (n := 11) dX0_isOf_10 rfl rfl ?_
              refine j_if_lt (tg := 33) (n := 14) dX0_isOf_11 rfl rfl (fun h => ?_) (fun h => absurd (by decide) h)
              refine j_iconst (n := 34) (v := nI 0) dX0_isOf_33 rfl rfl ?_
              exact j_rb dX0_isOf_34 rfl rfl (Nat.le_refl _) (Nat.le_refl _) (by first | exact (zB_t (by omega)).symm | exact (zB_f (by omega)).symm) rfl rfl
          · refine j_iconst (n := 20) (v := nI 1) dX0_isOf_19 rfl rfl ?_
            exact j_rb dX0_isOf_20 rfl rfl (Nat.le_refl _) (Nat.le_refl _) (by first | exact (zB_t (by omega)).symm | exact (zB_f (by omega)).symm) rfl rfl
      · refine j_iconst (n := 20) (v := nI 1) dX0_isOf_19 rfl rfl ?_
        exact j_rb dX0_isOf_20 rfl rfl (Nat.le_refl _) (Nat.le_refl _) (by first | exact (zB_t (by omega)).symm | exact (zB_f (by omega)).symm) rfl rfl
  · refine zCall.of (lv := [some (.int (nI 3)), some (.int (nI b)), none, none]) (by decide) (Nat.le_of_ble_eq_true rfl) rfl ?_
    refine j_iload_n (n := 1) dX0_isOf_0 rfl rfl ?_
    refine j_istore_n (n := 2) (lv2 := [some (.int (nI 3)), some (.int (nI b)), some (.int (nI 3)), none]) dX0_isOf_1 rfl rfl (by decide) rfl ?_
    refine j_iconst (n := 3) (v := nI 0) dX0_isOf_2 rfl rfl ?_
    refine j_istore_n (n := 4) (lv2 := [some (.int (nI 3)), some (.int (nI b)), some (.int (nI 3)), some (.int (nI 0))]) dX0_isOf_3 rfl rfl (by decide) rfl ?_
    refine j_iload_n (n := 5) dX0_isOf_4 rfl rfl ?_
    refine j_bipush (n := 7) (v := nI 6) dX0_isOf_5 rfl (by decide) ?_
    refine j_icmp_geT (n := 10) (tg := 33) dX0_isOf_7 rfl rfl (i_N (by omega)) (i_N (by omega)) (fun h1 => ?_) (fun h1 => ?_)
    · exact absurd h1 (by decide)
    · refine j_iload_n (n := 11) dX0_isOf_10 rfl rfl ?_
      refine j_if_lt (tg := 33) (n := 14) dX0_isOf_11 rfl rfl (fun h => absurd h (by decide)) (fun h => ?_)
      refine j_iload_n (n := 15) dX0_isOf_14 rfl rfl ?_
      refine j_iload_n (n := 16) dX0_isOf_15 rfl rfl ?_
      refine j_icmp_neT (n := 19) (tg := 21) dX0_isOf_16 rfl rfl (i_N (by omega)) (i_N (by omega)) (fun h2 => ?_) (fun h2 => ?_)
      · refine j_gets0 (n := 24) dX0_isOf_21 rfl tX0_9 ?_
        refine j_iload_n (n := 25) dX0_isOf_24 rfl rfl ?_
        refine jc_sald (n := 26) (v := nI 1) dX0_isOf_25 rfl (by decide) hG.1 (by decide) (by decide) hG.2.1.2.2.2.1 ?_
        refine j_istore_n (n := 27) (lv2 := [some (.int (nI 3)), some (.int (nI b)), some (.int (nI 1)), some (.int (nI 0))]) dX0_isOf_26 rfl rfl (by decide) rfl ?_
        refine j_iinc (n := 30) (y := nI 1) (lv2 := [some (.int (nI 3)), some (.int (nI b)), some (.int (nI 1)), some (.int (nI 1))]) dX0_isOf_27 rfl rfl (by decide) rfl (show nI 0 + nI 1 = nI 1 by rw [nI_add]; try (congr 1)) rfl ?_
        refine j_goto (n := 4) dX0_isOf_30 rfl ?_
        refine j_iload_n (n := 5) dX0_isOf_4 rfl rfl ?_
        refine j_bipush (n := 7) (v := nI 6) dX0_isOf_5 rfl (by decide) ?_
        refine j_icmp_geT (n := 10) (tg := 33) dX0_isOf_7 rfl rfl (i_N (by omega)) (i_N (by omega)) (fun h3 => ?_) (fun h3 => ?_)
        · exact absurd h3 (by decide)
        · refine j_iload_n (n := 11) dX0_isOf_10 rfl rfl ?_
          refine j_if_lt (tg := 33) (n := 14) dX0_isOf_11 rfl rfl (fun h => absurd h (by decide)) (fun h => ?_)
          refine j_iload_n (n := 15) dX0_isOf_14 rfl rfl ?_
          refine j_iload_n (n := 16) dX0_isOf_15 rfl rfl ?_
          refine j_icmp_neT (n := 19) (tg := 21) dX0_isOf_16 rfl rfl (i_N (by omega)) (i_N (by omega)) (fun h4 => ?_) (fun h4 => ?_)
          · refine j_gets0 (n := 24) dX0_isOf_21 rfl tX0_9 ?_
            refine j_iload_n (n := 25) dX0_isOf_24 rfl rfl ?_
            refine jc_sald (n := 26) (v := nI 0) dX0_isOf_25 rfl (by decide) hG.1 (by decide) (by decide) hG.2.1.2.1 ?_
            refine j_istore_n (n := 27) (lv2 := [some (.int (nI 3)), some (.int (nI b)), some (.int (nI 0)), some (.int (nI 1))]) dX0_isOf_26 rfl rfl (by decide) rfl ?_
            refine j_iinc (n := 30) (y := nI 2) (lv2 := [some (.int (nI 3)), some (.int (nI b)), some (.int (nI 0)), some (.int (nI 2))]) dX0_isOf_27 rfl rfl (by decide) rfl (show nI 1 + nI 1 = nI 2 by rw [nI_add]; try (congr 1)) rfl ?_
            refine j_goto (n := 4) dX0_isOf_30 rfl ?_
            refine j_iload_n (n := 5) dX0_isOf_4 rfl rfl ?_
            refine j_bipush (n := 7) (v := nI 6) dX0_isOf_5 rfl (by decide) ?_
            refine j_icmp_geT (n := 10) (tg := 33) dX0_isOf_7 rfl rfl (i_N (by omega)) (i_N (by omega)) (fun h5 => ?_) (fun h5 => ?_)
            · exact absurd h5 (by decide)
            · refine j_iload_n (n := 11) dX0_isOf_10 rfl rfl ?_
              refine j_if_lt (tg := 33) (n := 14) dX0_isOf_11 rfl rfl (fun h => absurd h (by decide)) (fun h => ?_)
              refine j_iload_n (n := 15) dX0_isOf_14 rfl rfl ?_
              refine j_iload_n (n := 16) dX0_isOf_15 rfl rfl ?_
              refine j_icmp_neT (n := 19) (tg := 21) dX0_isOf_16 rfl rfl (i_N (by omega)) (i_N (by omega)) (fun h6 => ?_) (fun h6 => ?_)
              · refine j_gets0 (n := 24) dX0_isOf_21 rfl tX0_9 ?_
                refine j_iload_n (n := 25) dX0_isOf_24 rfl rfl ?_
                refine jc_sald (n := 26) (v := (-1)) dX0_isOf_25 rfl (by decide) hG.1 (by decide) (by decide) hG.2.1.1 ?_
                refine j_istore_n (n := 27) (lv2 := [some (.int (nI 3)), some (.int (nI b)), some (.int (-1)), some (.int (nI 2))]) dX0_isOf_26 rfl rfl (by decide) rfl ?_
                refine j_iinc (n := 30) (y := nI 3) (lv2 := [some (.int (nI 3)), some (.int (nI b)), some (.int (-1)), some (.int (nI 3))]) dX0_isOf_27 rfl rfl (by decide) rfl (show nI 2 + nI 1 = nI 3 by rw [nI_add]; try (congr 1)) rfl ?_
                refine j_goto (n := 4) dX0_isOf_30 rfl ?_
                refine j_iload_n (n := 5) dX0_isOf_4 rfl rfl ?_
                refine j_bipush (n := 7) (v := nI 6) dX0_isOf_5 rfl (by decide) ?_
                refine j_icmp_geT (n := 10) (tg := 33) dX0_isOf_7 rfl rfl (i_N (by omega)) (i_N (by omega)) (fun h7 => ?_) (fun h7 => ?_)
                · exact absurd h7 (by decide)
                · refine j_iload_n (n := 11) dX0_isOf_10 rfl rfl ?_
                  refine j_if_lt (tg := 33) (n := 14) dX0_isOf_11 rfl rfl (fun h => ?_) (fun h => absurd (by decide) h)
                  refine j_iconst (n := 34) (v := nI 0) dX0_isOf_33 rfl rfl ?_
                  exact j_rb dX0_isOf_34 rfl rfl (Nat.le_refl _) (Nat.le_refl _) (by first | exact (zB_t (by omega)).symm | exact (zB_f (by omega)).symm) rfl rfl
              · refine j_iconst (n := 20) (v := nI 1) dX0_isOf_19 rfl rfl ?_
                exact j_rb dX0_isOf_20 rfl rfl (Nat.le_refl _) (Nat.le_refl _) (by first | exact (zB_t (by omega)).symm | exact (zB_f (by omega)).symm) rfl rfl
          · refine j_iconst (n := 20) (v := nI 1) dX0_isOf_19 rfl rfl ?_
            exact j_rb dX0_isOf_20 rfl rfl (Nat.le_refl _) (Nat.le_refl _) (by first | exact (zB_t (by omega)).symm | exact (zB_f (by omega)).symm) rfl rfl
      · refine j_iconst (n := 20) (v := nI 1) dX0_isOf_19 rfl rfl ?_
        exact j_rb dX0_isOf_20 rfl rfl (Nat.le_refl _) (Nat.le_refl _) (by first | exact (zB_t (by omega)).symm | exact (zB_f (by omega)).symm) rfl rfl
  · refine zCall.of (lv := [some (.int (nI 4)), some (.int (nI b)), none, none]) (by decide) (Nat.le_of_ble_eq_true rfl) rfl ?_
    refine j_iload_n (n := 1) dX0_isOf_0 rfl rfl ?_
    refine j_istore_n (n := 2) (lv2 := [some (.int (nI 4)), some (.int (nI b)), some (.int (nI 4)), none]) dX0_isOf_1 rfl rfl (by decide) rfl ?_
    refine j_iconst (n := 3) (v := nI 0) dX0_isOf_2 rfl rfl ?_
    refine j_istore_n (n := 4) (lv2 := [some (.int (nI 4)), some (.int (nI b)), some (.int (nI 4)), some (.int (nI 0))]) dX0_isOf_3 rfl rfl (by decide) rfl ?_
    refine j_iload_n (n := 5) dX0_isOf_4 rfl rfl ?_
    refine j_bipush (n := 7) (v := nI 6) dX0_isOf_5 rfl (by decide) ?_
    refine j_icmp_geT (n := 10) (tg := 33) dX0_isOf_7 rfl rfl (i_N (by omega)) (i_N (by omega)) (fun h1 => ?_) (fun h1 => ?_)
    · exact absurd h1 (by decide)
    · refine j_iload_n (n := 11) dX0_isOf_10 rfl rfl ?_
      refine j_if_lt (tg := 33) (n := 14) dX0_isOf_11 rfl rfl (fun h => absurd h (by decide)) (fun h => ?_)
      refine j_iload_n (n := 15) dX0_isOf_14 rfl rfl ?_
      refine j_iload_n (n := 16) dX0_isOf_15 rfl rfl ?_
      refine j_icmp_neT (n := 19) (tg := 21) dX0_isOf_16 rfl rfl (i_N (by omega)) (i_N (by omega)) (fun h2 => ?_) (fun h2 => ?_)
      · refine j_gets0 (n := 24) dX0_isOf_21 rfl tX0_9 ?_
        refine j_iload_n (n := 25) dX0_isOf_24 rfl rfl ?_
        refine jc_sald (n := 26) (v := nI 2) dX0_isOf_25 rfl (by decide) hG.1 (by decide) (by decide) hG.2.1.2.2.2.2.1 ?_
        refine j_istore_n (n := 27) (lv2 := [some (.int (nI 4)), some (.int (nI b)), some (.int (nI 2)), some (.int (nI 0))]) dX0_isOf_26 rfl rfl (by decide) rfl ?_
        refine j_iinc (n := 30) (y := nI 1) (lv2 := [some (.int (nI 4)), some (.int (nI b)), some (.int (nI 2)), some (.int (nI 1))]) dX0_isOf_27 rfl rfl (by decide) rfl (show nI 0 + nI 1 = nI 1 by rw [nI_add]; try (congr 1)) rfl ?_
        refine j_goto (n := 4) dX0_isOf_30 rfl ?_
        refine j_iload_n (n := 5) dX0_isOf_4 rfl rfl ?_
        refine j_bipush (n := 7) (v := nI 6) dX0_isOf_5 rfl (by decide) ?_
        refine j_icmp_geT (n := 10) (tg := 33) dX0_isOf_7 rfl rfl (i_N (by omega)) (i_N (by omega)) (fun h3 => ?_) (fun h3 => ?_)
        · exact absurd h3 (by decide)
        · refine j_iload_n (n := 11) dX0_isOf_10 rfl rfl ?_
          refine j_if_lt (tg := 33) (n := 14) dX0_isOf_11 rfl rfl (fun h => absurd h (by decide)) (fun h => ?_)
          refine j_iload_n (n := 15) dX0_isOf_14 rfl rfl ?_
          refine j_iload_n (n := 16) dX0_isOf_15 rfl rfl ?_
          refine j_icmp_neT (n := 19) (tg := 21) dX0_isOf_16 rfl rfl (i_N (by omega)) (i_N (by omega)) (fun h4 => ?_) (fun h4 => ?_)
          · refine j_gets0 (n := 24) dX0_isOf_21 rfl tX0_9 ?_
            refine j_iload_n (n := 25) dX0_isOf_24 rfl rfl ?_
            refine jc_sald (n := 26) (v := nI 0) dX0_isOf_25 rfl (by decide) hG.1 (by decide) (by decide) hG.2.1.2.2.1 ?_
            refine j_istore_n (n := 27) (lv2 := [some (.int (nI 4)), some (.int (nI b)), some (.int (nI 0)), some (.int (nI 1))]) dX0_isOf_26 rfl rfl (by decide) rfl ?_
            refine j_iinc (n := 30) (y := nI 2) (lv2 := [some (.int (nI 4)), some (.int (nI b)), some (.int (nI 0)), some (.int (nI 2))]) dX0_isOf_27 rfl rfl (by decide) rfl (show nI 1 + nI 1 = nI 2 by rw [nI_add]; try (congr 1)) rfl ?_
            refine j_goto (n := 4) dX0_isOf_30 rfl ?_
            refine j_iload_n (n := 5) dX0_isOf_4 rfl rfl ?_
            refine j_bipush (n := 7) (v := nI 6) dX0_isOf_5 rfl (by decide) ?_
            refine j_icmp_geT (n := 10) (tg := 33) dX0_isOf_7 rfl rfl (i_N (by omega)) (i_N (by omega)) (fun h5 => ?_) (fun h5 => ?_)
            · exact absurd h5 (by decide)
            · refine j_iload_n (n := 11) dX0_isOf_10 rfl rfl ?_
              refine j_if_lt (tg := 33) (n := 14) dX0_isOf_11 rfl rfl (fun h => absurd h (by decide)) (fun h => ?_)
              refine j_iload_n (n := 15) dX0_isOf_14 rfl rfl ?_
              refine j_iload_n (n := 16) dX0_isOf_15 rfl rfl ?_
              refine j_icmp_neT (n := 19) (tg := 21) dX0_isOf_16 rfl rfl (i_N (by omega)) (i_N (by omega)) (fun h6 => ?_) (fun h6 => ?_)
              · refine j_gets0 (n := 24) dX0_isOf_21 rfl tX0_9 ?_
                refine j_iload_n (n := 25) dX0_isOf_24 rfl rfl ?_
                refine jc_sald (n := 26) (v := (-1)) dX0_isOf_25 rfl (by decide) hG.1 (by decide) (by decide) hG.2.1.1 ?_
                refine j_istore_n (n := 27) (lv2 := [some (.int (nI 4)), some (.int (nI b)), some (.int (-1)), some (.int (nI 2))]) dX0_isOf_26 rfl rfl (by decide) rfl ?_
                refine j_iinc (n := 30) (y := nI 3) (lv2 := [some (.int (nI 4)), some (.int (nI b)), some (.int (-1)), some (.int (nI 3))]) dX0_isOf_27 rfl rfl (by decide) rfl (show nI 2 + nI 1 = nI 3 by rw [nI_add]; try (congr 1)) rfl ?_
                refine j_goto (n := 4) dX0_isOf_30 rfl ?_
                refine j_iload_n (n := 5) dX0_isOf_4 rfl rfl ?_
                refine j_bipush (n := 7) (v := nI 6) dX0_isOf_5 rfl (by decide) ?_
                refine j_icmp_geT (n := 10) (tg := 33) dX0_isOf_7 rfl rfl (i_N (by omega)) (i_N (by omega)) (fun h7 => ?_) (fun h7 => ?_)
                · exact absurd h7 (by decide)
                · refine j_iload_n (n := 11) dX0_isOf_10 rfl rfl ?_
                  refine j_if_lt (tg := 33) (n := 14) dX0_isOf_11 rfl rfl (fun h => ?_) (fun h => absurd (by decide) h)
                  refine j_iconst (n := 34) (v := nI 0) dX0_isOf_33 rfl rfl ?_
                  exact j_rb dX0_isOf_34 rfl rfl (Nat.le_refl _) (Nat.le_refl _) (by first | exact (zB_t (by omega)).symm | exact (zB_f (by omega)).symm) rfl rfl
              · refine j_iconst (n := 20) (v := nI 1) dX0_isOf_19 rfl rfl ?_
                exact j_rb dX0_isOf_20 rfl rfl (Nat.le_refl _) (Nat.le_refl _) (by first | exact (zB_t (by omega)).symm | exact (zB_f (by omega)).symm) rfl rfl
          · refine j_iconst (n := 20) (v := nI 1) dX0_isOf_19 rfl rfl ?_
            exact j_rb dX0_isOf_20 rfl rfl (Nat.le_refl _) (Nat.le_refl _) (by first | exact (zB_t (by omega)).symm | exact (zB_f (by omega)).symm) rfl rfl
      · refine j_iconst (n := 20) (v := nI 1) dX0_isOf_19 rfl rfl ?_
        exact j_rb dX0_isOf_20 rfl rfl (Nat.le_refl _) (Nat.le_refl _) (by first | exact (zB_t (by omega)).symm | exact (zB_f (by omega)).symm) rfl rfl
  · refine zCall.of (lv := [some (.int (nI 5)), some (.int (nI b)), none, none]) (by decide) (Nat.le_of_ble_eq_true rfl) rfl ?_
    refine j_iload_n (n := 1) dX0_isOf_0 rfl rfl ?_
    refine j_istore_n (n := 2) (lv2 := [some (.int (nI 5)), some (.int (nI b)), some (.int (nI 5)), none]) dX0_isOf_1 rfl rfl (by decide) rfl ?_
    refine j_iconst (n := 3) (v := nI 0) dX0_isOf_2 rfl rfl ?_
    refine j_istore_n (n := 4) (lv2 := [some (.int (nI 5)), some (.int (nI b)), some (.int (nI 5)), some (.int (nI 0))]) dX0_isOf_3 rfl rfl (by decide) rfl ?_
    refine j_iload_n (n := 5) dX0_isOf_4 rfl rfl ?_
    refine j_bipush (n := 7) (v := nI 6) dX0_isOf_5 rfl (by decide) ?_
    refine j_icmp_geT (n := 10) (tg := 33) dX0_isOf_7 rfl rfl (i_N (by omega)) (i_N (by omega)) (fun h1 => ?_) (fun h1 => ?_)
    · exact absurd h1 (by decide)
    · refine j_iload_n (n := 11) dX0_isOf_10 rfl rfl ?_
      refine j_if_lt (tg := 33) (n := 14) dX0_isOf_11 rfl rfl (fun h => absurd h (by decide)) (fun h => ?_)
      refine j_iload_n (n := 15) dX0_isOf_14 rfl rfl ?_
      refine j_iload_n (n := 16) dX0_isOf_15 rfl rfl ?_
      refine j_icmp_neT (n := 19) (tg := 21) dX0_isOf_16 rfl rfl (i_N (by omega)) (i_N (by omega)) (fun h2 => ?_) (fun h2 => ?_)
      · refine j_gets0 (n := 24) dX0_isOf_21 rfl tX0_9 ?_
        refine j_iload_n (n := 25) dX0_isOf_24 rfl rfl ?_
        refine jc_sald (n := 26) (v := nI 0) dX0_isOf_25 rfl (by decide) hG.1 (by decide) (by decide) hG.2.1.2.2.2.2.2 ?_
        refine j_istore_n (n := 27) (lv2 := [some (.int (nI 5)), some (.int (nI b)), some (.int (nI 0)), some (.int (nI 0))]) dX0_isOf_26 rfl rfl (by decide) rfl ?_
        refine j_iinc (n := 30) (y := nI 1) (lv2 := [some (.int (nI 5)), some (.int (nI b)), some (.int (nI 0)), some (.int (nI 1))]) dX0_isOf_27 rfl rfl (by decide) rfl (show nI 0 + nI 1 = nI 1 by rw [nI_add]; try (congr 1)) rfl ?_
        refine j_goto (n := 4) dX0_isOf_30 rfl ?_
        refine j_iload_n (n := 5) dX0_isOf_4 rfl rfl ?_
        refine j_bipush (n := 7) (v := nI 6) dX0_isOf_5 rfl (by decide) ?_
        refine j_icmp_geT (n := 10) (tg := 33) dX0_isOf_7 rfl rfl (i_N (by omega)) (i_N (by omega)) (fun h3 => ?_) (fun h3 => ?_)
        · exact absurd h3 (by decide)
        · refine j_iload_n (n := 11) dX0_isOf_10 rfl rfl ?_
          refine j_if_lt (tg := 33) (n := 14) dX0_isOf_11 rfl rfl (fun h => absurd h (by decide)) (fun h => ?_)
          refine j_iload_n (n := 15) dX0_isOf_14 rfl rfl ?_
          refine j_iload_n (n := 16) dX0_isOf_15 rfl rfl ?_
          refine j_icmp_neT (n := 19) (tg := 21) dX0_isOf_16 rfl rfl (i_N (by omega)) (i_N (by omega)) (fun h4 => ?_) (fun h4 => ?_)
          · refine j_gets0 (n := 24) dX0_isOf_21 rfl tX0_9 ?_
            refine j_iload_n (n := 25) dX0_isOf_24 rfl rfl ?_
            refine jc_sald (n := 26) (v := (-1)) dX0_isOf_25 rfl (by decide) hG.1 (by decide) (by decide) hG.2.1.1 ?_
            refine j_istore_n (n := 27) (lv2 := [some (.int (nI 5)), some (.int (nI b)), some (.int (-1)), some (.int (nI 1))]) dX0_isOf_26 rfl rfl (by decide) rfl ?_
            refine j_iinc (n := 30) (y := nI 2) (lv2 := [some (.int (nI 5)), some (.int (nI b)), some (.int (-1)), some (.int (nI 2))]) dX0_isOf_27 rfl rfl (by decide) rfl (show nI 1 + nI 1 = nI 2 by rw [nI_add]; try (congr 1)) rfl ?_
            refine j_goto (n := 4) dX0_isOf_30 rfl ?_
            refine j_iload_n (n := 5) dX0_isOf_4 rfl rfl ?_
            refine j_bipush (n := 7) (v := nI 6) dX0_isOf_5 rfl (by decide) ?_
            refine j_icmp_geT (n := 10) (tg := 33) dX0_isOf_7 rfl rfl (i_N (by omega)) (i_N (by omega)) (fun h5 => ?_) (fun h5 => ?_)
            · exact absurd h5 (by decide)
            · refine j_iload_n (n := 11) dX0_isOf_10 rfl rfl ?_
              refine j_if_lt (tg := 33) (n := 14) dX0_isOf_11 rfl rfl (fun h => ?_) (fun h => absurd (by decide) h)
              refine j_iconst (n := 34) (v := nI 0) dX0_isOf_33 rfl rfl ?_
              exact j_rb dX0_isOf_34 rfl rfl (Nat.le_refl _) (Nat.le_refl _) (by first | exact (zB_t (by omega)).symm | exact (zB_f (by omega)).symm) rfl rfl
          · refine j_iconst (n := 20) (v := nI 1) dX0_isOf_19 rfl rfl ?_
            exact j_rb dX0_isOf_20 rfl rfl (Nat.le_refl _) (Nat.le_refl _) (by first | exact (zB_t (by omega)).symm | exact (zB_f (by omega)).symm) rfl rfl
      · refine j_iconst (n := 20) (v := nI 1) dX0_isOf_19 rfl rfl ?_
        exact j_rb dX0_isOf_20 rfl rfl (Nat.le_refl _) (Nat.le_refl _) (by first | exact (zB_t (by omega)).symm | exact (zB_f (by omega)).symm) rfl rfl
theorem c_feelsK (d : Nat) (G : zG) (M : zMem) (X : zX) (k r : Nat) (hk : k ≤ 5) (hr : r ≤ 99) : zCall G miX0_feels (d + 0) [.int (nI k), .int (nI r)] (zI (nI (feelsN k r)) M X) M X 0 0 := by
  refine zCall.of (lv := [some (.int (nI k)), some (.int (nI r))]) (by decide) (Nat.le_of_ble_eq_true rfl) rfl ?_
  refine j_iload_n (n := 1) dX0_feels_0 rfl rfl ?_
  have hs101 : k = 1 ∨ k = 2 ∨ k = 3 ∨ k = 4 ∨ k = 5 ∨ (k < 1 ∨ 5 < k) := by omega
  rcases hs101 with hs101 | hs101 | hs101 | hs101 | hs101 | hs101
  · refine j_tabIn (i := 0) (off := 35) (tg := 36) dX0_feels_1 (by rw [i_N (by omega)]; omega) (by decide) rfl rfl ?_
    refine j_iload_n (n := 37) dX0_feels_36 rfl rfl ?_
    refine j_bipush (n := 39) (v := nI 9) dX0_feels_37 rfl (by decide) ?_
    refine j_iaddN (n := 40) (c := r + 9) dX0_feels_39 rfl rfl ?_
    exact j_ri dX0_feels_40 rfl (Nat.le_refl _) (Nat.le_refl _) (by unfold feelsN; repeat (first | rw [if_pos (by omega)] | rw [if_neg (by omega)])) rfl rfl
  · refine j_tabIn (i := 1) (off := 47) (tg := 48) dX0_feels_1 (by rw [i_N (by omega)]; omega) (by decide) rfl rfl ?_
    refine j_iload_n (n := 49) dX0_feels_48 rfl rfl ?_
    refine j_iconst (n := 50) (v := nI 2) dX0_feels_49 rfl rfl ?_
    refine j_idivN (n := 51) (c := r / 2) dX0_feels_50 rfl (by omega) (by omega) (by omega) rfl ?_
    exact j_ri dX0_feels_51 rfl (Nat.le_refl _) (Nat.le_refl _) (by unfold feelsN; repeat (first | rw [if_pos (by omega)] | rw [if_neg (by omega)])) rfl rfl
  · refine j_tabIn (i := 2) (off := 40) (tg := 41) dX0_feels_1 (by rw [i_N (by omega)]; omega) (by decide) rfl rfl ?_
    refine j_iconst (n := 42) (v := nI 2) dX0_feels_41 rfl rfl ?_
    refine j_iload_n (n := 43) dX0_feels_42 rfl rfl ?_
    refine j_bipush (n := 45) (v := nI 9) dX0_feels_43 rfl (by decide) ?_
    refine j_iaddN (n := 46) (c := r + 9) dX0_feels_45 rfl rfl ?_
    refine j_imulN (n := 47) (c := 2 * (r + 9)) dX0_feels_46 rfl rfl ?_
    exact j_ri dX0_feels_47 rfl (Nat.le_refl _) (Nat.le_refl _) (by unfold feelsN; repeat (first | rw [if_pos (by omega)] | rw [if_neg (by omega)])) rfl rfl
  · refine j_tabIn (i := 3) (off := 51) (tg := 52) dX0_feels_1 (by rw [i_N (by omega)]; omega) (by decide) rfl rfl ?_
    refine j_iload_n (n := 53) dX0_feels_52 rfl rfl ?_
    refine j_iconst (n := 54) (v := nI 2) dX0_feels_53 rfl rfl ?_
    refine j_idivN (n := 55) (c := r / 2) dX0_feels_54 rfl (by omega) (by omega) (by omega) rfl ?_
    refine j_iconst (n := 56) (v := nI 3) dX0_feels_55 rfl rfl ?_
    refine j_iaddN (n := 57) (c := r / 2 + 3) dX0_feels_56 rfl rfl ?_
    exact j_ri dX0_feels_57 rfl (Nat.le_refl _) (Nat.le_refl _) (by unfold feelsN; repeat (first | rw [if_pos (by omega)] | rw [if_neg (by omega)])) rfl rfl
  · refine j_tabIn (i := 4) (off := 57) (tg := 58) dX0_feels_1 (by rw [i_N (by omega)]; omega) (by decide) rfl rfl ?_
    refine j_iconst (n := 59) (v := nI 0) dX0_feels_58 rfl rfl ?_
    exact j_ri dX0_feels_59 rfl (Nat.le_refl _) (Nat.le_refl _) (by unfold feelsN; repeat (first | rw [if_pos (by omega)] | rw [if_neg (by omega)])) rfl rfl
  · refine j_tabOut (tg := 60) dX0_feels_1 (by rw [i_N (by omega)]; omega) rfl ?_
    refine j_iload_n (n := 61) dX0_feels_60 rfl rfl ?_
    exact j_ri dX0_feels_61 rfl (Nat.le_refl _) (Nat.le_refl _) (by unfold feelsN; repeat (first | rw [if_pos (by omega)] | rw [if_neg (by omega)])) rfl rfl
theorem c_wearsK (d : Nat) (G : zG) (M : zMem) (X : zX) (k q : Nat) (hk : k ≤ 5) (hq : q ≤ 99) : zCall G miX0_wears (d + 0) [.int (nI k), .int (nI q)] (zI (nI (wearN k q)) M X) M X 0 0 := by
  refine zCall.of (lv := [some (.int (nI k)), some (.int (nI q))]) (by decide) (Nat.le_of_ble_eq_true rfl) rfl ?_
  refine j_iload_n (n := 1) dX0_wears_0 rfl rfl ?_
  have hs101 : k = 1 ∨ k = 2 ∨ k = 3 ∨ k = 4 ∨ (k < 1 ∨ 4 < k) := by omega
  rcases hs101 with hs101 | hs101 | hs101 | hs101 | hs101
  · refine j_tabIn (i := 0) (off := 31) (tg := 32) dX0_wears_1 (by rw [i_N (by omega)]; omega) (by decide) rfl rfl ?_
    refine j_iload_n (n := 33) dX0_wears_32 rfl rfl ?_
    refine j_iconst (n := 34) (v := nI 2) dX0_wears_33 rfl rfl ?_
    refine j_idivN (n := 35) (c := q / 2) dX0_wears_34 rfl (by omega) (by omega) (by omega) rfl ?_
    exact j_ri dX0_wears_35 rfl (Nat.le_refl _) (Nat.le_refl _) (by unfold wearN; repeat (first | rw [if_pos (by omega)] | rw [if_neg (by omega)])) rfl rfl
  · refine j_tabIn (i := 1) (off := 35) (tg := 36) dX0_wears_1 (by rw [i_N (by omega)]; omega) (by decide) rfl rfl ?_
    refine j_iconst (n := 37) (v := nI 2) dX0_wears_36 rfl rfl ?_
    refine j_iload_n (n := 38) dX0_wears_37 rfl rfl ?_
    refine j_imulN (n := 39) (c := 2 * q) dX0_wears_38 rfl rfl ?_
    exact j_ri dX0_wears_39 rfl (Nat.le_refl _) (Nat.le_refl _) (by unfold wearN; repeat (first | rw [if_pos (by omega)] | rw [if_neg (by omega)])) rfl rfl
  · refine j_tabIn (i := 2) (off := 31) (tg := 32) dX0_wears_1 (by rw [i_N (by omega)]; omega) (by decide) rfl rfl ?_
    refine j_iload_n (n := 33) dX0_wears_32 rfl rfl ?_
    refine j_iconst (n := 34) (v := nI 2) dX0_wears_33 rfl rfl ?_
    refine j_idivN (n := 35) (c := q / 2) dX0_wears_34 rfl (by omega) (by omega) (by omega) rfl ?_
    exact j_ri dX0_wears_35 rfl (Nat.le_refl _) (Nat.le_refl _) (by unfold wearN; repeat (first | rw [if_pos (by omega)] | rw [if_neg (by omega)])) rfl rfl
  · refine j_tabIn (i := 3) (off := 39) (tg := 40) dX0_wears_1 (by rw [i_N (by omega)]; omega) (by decide) rfl rfl ?_
    refine j_iconst (n := 41) (v := nI 2) dX0_wears_40 rfl rfl ?_
    refine j_iload_n (n := 42) dX0_wears_41 rfl rfl ?_
    refine j_imulN (n := 43) (c := 2 * q) dX0_wears_42 rfl rfl ?_
    refine j_iconst (n := 44) (v := nI 1) dX0_wears_43 rfl rfl ?_
    refine j_iaddN (n := 45) (c := 2 * q + 1) dX0_wears_44 rfl rfl ?_
    exact j_ri dX0_wears_45 rfl (Nat.le_refl _) (Nat.le_refl _) (by unfold wearN; repeat (first | rw [if_pos (by omega)] | rw [if_neg (by omega)])) rfl rfl
  · refine j_tabOut (tg := 46) dX0_wears_1 (by rw [i_N (by omega)]; omega) rfl ?_
    refine j_iload_n (n := 47) dX0_wears_46 rfl rfl ?_
    exact j_ri dX0_wears_47 rfl (Nat.le_refl _) (Nat.le_refl _) (by unfold wearN; repeat (first | rw [if_pos (by omega)] | rw [if_neg (by omega)])) rfl rfl
theorem sub_300 {v : Nat} (h : v ≤ 297) : nI 300 - nI v - nI 5 = nI 295 - nI v := by
  rw [pk_sub (show v ≤ 300 by omega)]
  by_cases h5 : 5 ≤ 300 - v
  · rw [pk_sub h5]
    by_cases h6 : v ≤ 295
    · rw [pk_sub h6, show 300 - v - 5 = 295 - v by omega]
    · omega
  · have : v = 296 ∨ v = 297 := by omega
    rcases this with rfl | rfl <;> decide
theorem c_worthK (d : Nat) (G : zG) (M : zMem) (X : zX) (k v : Nat) (hk : k ≤ 5) (hv : v ≤ 297) : zCall G miX0_worth (d + 0) [.int (nI k), .int (nI v)] (zI (worthN k v) M X) M X 0 0 := by
  refine zCall.of (lv := [some (.int (nI k)), some (.int (nI v))]) (by decide) (Nat.le_of_ble_eq_true rfl) rfl ?_
  refine j_iload_n (n := 1) dX0_worth_0 rfl rfl ?_
  have hs101 : k = 1 ∨ k = 2 ∨ k = 3 ∨ k = 4 ∨ k = 5 ∨ (k < 1 ∨ 5 < k) := by omega
  rcases hs101 with hs101 | hs101 | hs101 | hs101 | hs101 | hs101
  · refine j_tabIn (i := 0) (off := 35) (tg := 36) dX0_worth_1 (by rw [i_N (by omega)]; omega) (by decide) rfl rfl ?_
    refine j_iload_n (n := 37) dX0_worth_36 rfl rfl ?_
    refine j_iconst (n := 38) (v := nI 4) dX0_worth_37 rfl rfl ?_
    refine j_iaddN (n := 39) (c := v + 4) dX0_worth_38 rfl rfl ?_
    exact j_ri dX0_worth_39 rfl (Nat.le_refl _) (Nat.le_refl _) (by unfold worthN; (repeat (first | rw [if_pos (by omega)] | rw [if_neg (by omega)])); try exact sub_300 hv) rfl rfl
  · refine j_tabIn (i := 1) (off := 45) (tg := 46) dX0_worth_1 (by rw [i_N (by omega)]; omega) (by decide) rfl rfl ?_
    refine j_sipush (n := 49) (v := nI 300) dX0_worth_46 rfl (by decide) ?_
    refine j_iload_n (n := 50) dX0_worth_49 rfl rfl ?_
    refine j_isub (n := 51) dX0_worth_50 rfl ?_
    exact j_ri dX0_worth_51 rfl (Nat.le_refl _) (Nat.le_refl _) (by unfold worthN; (repeat (first | rw [if_pos (by omega)] | rw [if_neg (by omega)])); try exact sub_300 hv) rfl rfl
  · refine j_tabIn (i := 2) (off := 39) (tg := 40) dX0_worth_1 (by rw [i_N (by omega)]; omega) (by decide) rfl rfl ?_
    refine j_iconst (n := 41) (v := nI 2) dX0_worth_40 rfl rfl ?_
    refine j_iload_n (n := 42) dX0_worth_41 rfl rfl ?_
    refine j_iconst (n := 43) (v := nI 4) dX0_worth_42 rfl rfl ?_
    refine j_iaddN (n := 44) (c := v + 4) dX0_worth_43 rfl rfl ?_
    refine j_imulN (n := 45) (c := 2 * (v + 4)) dX0_worth_44 rfl rfl ?_
    exact j_ri dX0_worth_45 rfl (Nat.le_refl _) (Nat.le_refl _) (by unfold worthN; (repeat (first | rw [if_pos (by omega)] | rw [if_neg (by omega)])); try exact sub_300 hv) rfl rfl
  · refine j_tabIn (i := 3) (off := 51) (tg := 52) dX0_worth_1 (by rw [i_N (by omega)]; omega) (by decide) rfl rfl ?_
    refine j_sipush (n := 55) (v := nI 300) dX0_worth_52 rfl (by decide) ?_
    refine j_iload_n (n := 56) dX0_worth_55 rfl rfl ?_
    refine j_isub (n := 57) dX0_worth_56 rfl ?_
    refine j_iconst (n := 58) (v := nI 5) dX0_worth_57 rfl rfl ?_
    refine j_isub (n := 59) dX0_worth_58 rfl ?_
    exact j_ri dX0_worth_59 rfl (Nat.le_refl _) (Nat.le_refl _) (by unfold worthN; (repeat (first | rw [if_pos (by omega)] | rw [if_neg (by omega)])); try exact sub_300 hv) rfl rfl
  · refine j_tabIn (i := 4) (off := 59) (tg := 60) dX0_worth_1 (by rw [i_N (by omega)]; omega) (by decide) rfl rfl ?_
    refine j_bipush (n := 62) (v := nI 6) dX0_worth_60 rfl (by decide) ?_
    exact j_ri dX0_worth_62 rfl (Nat.le_refl _) (Nat.le_refl _) (by unfold worthN; (repeat (first | rw [if_pos (by omega)] | rw [if_neg (by omega)])); try exact sub_300 hv) rfl rfl
  · refine j_tabOut (tg := 63) dX0_worth_1 (by rw [i_N (by omega)]; omega) rfl ?_
    refine j_iload_n (n := 64) dX0_worth_63 rfl rfl ?_
    exact j_ri dX0_worth_64 rfl (Nat.le_refl _) (Nat.le_refl _) (by unfold worthN; (repeat (first | rw [if_pos (by omega)] | rw [if_neg (by omega)])); try exact sub_300 hv) rfl rfl
def beP (M : zMem) (a : Nat) (x y u v w : Int32) : zMem := zs (zs M a (upd (upd (M a) 0 x) 1 y)) (a + 1) (upd (upd (upd (M (a + 1)) 0 u) 1 v) 2 w)
theorem c_becomeP (d : Nat) (G : zG) (M : zMem) (X : zX) (a : Nat) (hp : isP X a) (x y u v w : Int32) : zCall G miX3_become (d + 0) [.ref a, .int x, .int y, .int u, .int v, .int w] (zV (beP M a x y u v w) X) M X 0 0 := by
  refine zCall.of (lv := [some (.ref a), some (.int x), some (.int y), some (.int u), some (.int v), some (.int w)]) (by decide) (Nat.le_of_ble_eq_true rfl) rfl ?_
  refine j_aload_n (n := 1) dX3_become_0 rfl rfl ?_
  refine j_iload_n (n := 2) dX3_become_1 rfl rfl ?_
  refine jc_put (n := 5) (k := 0) (x := x) (M2 := zs M a (upd (M a) 0 x)) dX3_become_2 rfl pX3_15 (fun h => by cases h) rfl rfl (hp).2.2.1 (hp).1 (Nat.lt_of_succ_lt (hp).2.1) rfl ?_
  refine j_aload_n (n := 6) dX3_become_5 rfl rfl ?_
  refine j_iload_n (n := 7) dX3_become_6 rfl rfl ?_
  refine jc_put (n := 10) (k := 1) (x := y) (M2 := zs M a (upd (upd (M a) 0 x) 1 y)) dX3_become_7 rfl pX3_19 (fun h => by cases h) rfl rfl (hp).2.2.1 (hp).1 (Nat.lt_of_succ_lt (hp).2.1) (by rw [zs_eq, zs_zs]) ?_
  refine j_aload_n (n := 11) dX3_become_10 rfl rfl ?_
  refine j_getr (n := 14) (k := 2) (b := a + 1) dX3_become_11 rfl fX3_9 (hp).2.2.1 (hp).1 (Nat.lt_of_succ_lt (hp).2.1) (hp).2.2.2.1 ?_
  refine j_iconst (n := 15) (v := nI 0) dX3_become_14 rfl rfl ?_
  refine j_iload_n (n := 16) dX3_become_15 rfl rfl ?_
  refine j_iastN (n := 17) (L := 3) (a := a + 1) (i := 0) (x := u) (M2 := zs (zs M a (upd (upd (M a) 0 x) 1 y)) (a + 1) (upd (M (a + 1)) 0 u)) dX3_become_16 rfl (hp).2.2.2.2.1 (hp).2.2.2.2.2 (by omega) (by decide) (Nat.le_succ_of_le (hp).1) (hp).2.1 (congrArg (fun f => zs _ _ (upd f _ _)) (show _ = _ from by simp [zs])) ?_
  refine j_aload_n (n := 18) dX3_become_17 rfl rfl ?_
  refine j_getr (n := 21) (k := 2) (b := a + 1) dX3_become_18 rfl fX3_9 (hp).2.2.1 (hp).1 (Nat.lt_of_succ_lt (hp).2.1) (hp).2.2.2.1 ?_
  refine j_iconst (n := 22) (v := nI 1) dX3_become_21 rfl rfl ?_
  refine j_iload (n := 24) dX3_become_22 rfl rfl ?_
  refine j_iastN (n := 25) (L := 3) (a := a + 1) (i := 1) (x := v) (M2 := zs (zs M a (upd (upd (M a) 0 x) 1 y)) (a + 1) (upd (upd (M (a + 1)) 0 u) 1 v)) dX3_become_24 rfl (hp).2.2.2.2.1 (hp).2.2.2.2.2 (by omega) (by decide) (Nat.le_succ_of_le (hp).1) (hp).2.1 (by rw [zs_eq, zs_zs]) ?_
  refine j_aload_n (n := 26) dX3_become_25 rfl rfl ?_
  refine j_getr (n := 29) (k := 2) (b := a + 1) dX3_become_26 rfl fX3_9 (hp).2.2.1 (hp).1 (Nat.lt_of_succ_lt (hp).2.1) (hp).2.2.2.1 ?_
  refine j_iconst (n := 30) (v := nI 2) dX3_become_29 rfl rfl ?_
  refine j_iload (n := 32) dX3_become_30 rfl rfl ?_
  refine j_iastN (n := 33) (L := 3) (a := a + 1) (i := 2) (x := w) (M2 := zs (zs M a (upd (upd (M a) 0 x) 1 y)) (a + 1) (upd (upd (upd (M (a + 1)) 0 u) 1 v) 2 w)) dX3_become_32 rfl (hp).2.2.2.2.1 (hp).2.2.2.2.2 (by omega) (by decide) (Nat.le_succ_of_le (hp).1) (hp).2.1 (by rw [zs_eq, zs_zs]) ?_
  exact j_rv dX3_become_33 rfl (Nat.le_refl _) (Nat.le_refl _) rfl rfl
theorem ix_r1 {B k j i : Nat} (hk : k < 8) (hj : j < 3) (hi : 10 + 5 * k + (2 + j) = i) : ix B (B + 5 + 2 * k + 1) j = some i := by
  rw [show B + 5 + 2 * k + 1 = B + 6 + 2 * k by omega]
  exact ix_r hk hj hi
theorem cm_w2 {M : zMem} {B : Nat} {c : Nat → Nat} {a : Nat} {f : Nat → Int32} {e : Nat → Nat} (h0 : zs (cm M B c) a f = cm M B e) {k i : Nat} (h : ix B a k = some i) (v : Nat) : zs (cm M B c) a (upd f k (nI v)) = cm M B (pu e i v) := by
  rw [← cm_w (c := e) h v, ← h0, zs_zs, zs_eq]
theorem cm_be {M : zMem} {B k : Nat} {c : Nat → Nat} {x y u v w : Nat} (hk : k < 8) : beP (cm M B c) (B + 5 + 2 * k) (nI x) (nI y) (nI u) (nI v) (nI w) = cm M B (pu (pu (pu (pu (pu c (10 + 5 * k + 0) x) (10 + 5 * k + 1) y) (10 + 5 * k + 2) u) (10 + 5 * k + 3) v) (10 + 5 * k + 4) w) := by
  unfold beP
  have e1 := cm_w2 (cm_w (M := M) (c := c) (ix_p (B := B) (k := k) (j := 0) hk (by decide) rfl) x) (ix_p (B := B) (k := k) (j := 1) hk (by decide) rfl) y
  have e0 : cm M B c (B + 5 + 2 * k + 1) = cm M B (pu (pu c (10 + 5 * k + 0) x) (10 + 5 * k + 1) y) (B + 5 + 2 * k + 1) := by
    rw [← e1, zs_ne _ _ (by omega)]
  rw [e1, e0]
  exact cm_w2 (cm_w2 (cm_w (ix_r1 hk (by decide) rfl) u) (ix_r1 hk (by decide) rfl) v) (ix_r1 hk (by decide) rfl) w
theorem c_becomeAsP (d : Nat) (G : zG) (M : zMem) (X : zX) (a : Nat) (hp : isP X a) (b : Nat) (hq : isP X b) : zCall G miX3_becomeAs (d + 1) [.ref a, .ref b] (zV (beP M a (M b 0) (M b 1) (M (b + 1) 0) (M (b + 1) 1) (M (b + 1) 2)) X) M X 0 0 := by
  refine zCall.of (lv := [some (.ref a), some (.ref b)]) (by decide) (Nat.le_of_ble_eq_true rfl) rfl ?_
  refine j_aload_n (n := 1) dX3_becomeAs_0 rfl rfl ?_
  refine j_aload_n (n := 2) dX3_becomeAs_1 rfl rfl ?_
  refine jc_get (n := 5) (k := 0) (v := M b 0) dX3_becomeAs_2 rfl fX3_15 (hq).2.2.1 (hq).1 (Nat.lt_of_succ_lt (hq).2.1) rfl ?_
  refine j_aload_n (n := 6) dX3_becomeAs_5 rfl rfl ?_
  refine jc_get (n := 9) (k := 1) (v := M b 1) dX3_becomeAs_6 rfl fX3_19 (hq).2.2.1 (hq).1 (Nat.lt_of_succ_lt (hq).2.1) rfl ?_
  refine j_aload_n (n := 10) dX3_becomeAs_9 rfl rfl ?_
  refine j_getr (n := 13) (k := 2) (b := b + 1) dX3_becomeAs_10 rfl fX3_9 (hq).2.2.1 (hq).1 (Nat.lt_of_succ_lt (hq).2.1) (hq).2.2.2.1 ?_
  refine j_iconst (n := 14) (v := nI 0) dX3_becomeAs_13 rfl rfl ?_
  refine j_ialdN (n := 15) (L := 3) (a := b + 1) (i := 0) (v := M (b + 1) 0) dX3_becomeAs_14 rfl (hq).2.2.2.2.1 (hq).2.2.2.2.2 (by omega) (by decide) (Nat.le_succ_of_le (hq).1) (hq).2.1 rfl ?_
  refine j_aload_n (n := 16) dX3_becomeAs_15 rfl rfl ?_
  refine j_getr (n := 19) (k := 2) (b := b + 1) dX3_becomeAs_16 rfl fX3_9 (hq).2.2.1 (hq).1 (Nat.lt_of_succ_lt (hq).2.1) (hq).2.2.2.1 ?_
  refine j_iconst (n := 20) (v := nI 1) dX3_becomeAs_19 rfl rfl ?_
  refine j_ialdN (n := 21) (L := 3) (a := b + 1) (i := 1) (v := M (b + 1) 1) dX3_becomeAs_20 rfl (hq).2.2.2.2.1 (hq).2.2.2.2.2 (by omega) (by decide) (Nat.le_succ_of_le (hq).1) (hq).2.1 rfl ?_
  refine j_aload_n (n := 22) dX3_becomeAs_21 rfl rfl ?_
  refine j_getr (n := 25) (k := 2) (b := b + 1) dX3_becomeAs_22 rfl fX3_9 (hq).2.2.1 (hq).1 (Nat.lt_of_succ_lt (hq).2.1) (hq).2.2.2.1 ?_
  refine j_iconst (n := 26) (v := nI 2) dX3_becomeAs_25 rfl rfl ?_
  refine j_ialdN (n := 27) (L := 3) (a := b + 1) (i := 2) (v := M (b + 1) 2) dX3_becomeAs_26 rfl (hq).2.2.2.2.1 (hq).2.2.2.2.2 (by omega) (by decide) (Nat.le_succ_of_le (hq).1) (hq).2.1 rfl ?_
  refine j_cVv (n := 30) dX3_becomeAs_27 rfl sX3_22 (c_becomeP d G _ _ a (hp) (M b 0) (M b 1) (M (b + 1) 0) (M (b + 1) 1) (M (b + 1) 2)) (by omega) (by decide) rfl rfl (Nat.le_of_ble_eq_true rfl) (hp).2.2.1 (hp).1 (Nat.lt_of_succ_lt (hp).2.1) (by decide) (by decide) ?_
  exact j_rv dX3_becomeAs_30 rfl (Nat.le_refl _) (Nat.le_refl _) rfl rfl
theorem c_feelsOf (d : Nat) (G : zG) (M : zMem) (X : zX) (a : Nat) (hp : isP X a) (s kd r : Nat) (hs : s ≤ 2) (h0 : M a 0 = nI kd) (h1 : M (a + 1) s = nI r) (hkd : kd ≤ 5) (hr : r ≤ 99) : zCall G miX3_feelsOf (d + 1) [.ref a, .int (nI s)] (zI (nI (feelsN kd r)) M X) M X 0 0 := by
  refine zCall.of (lv := [some (.ref a), some (.int (nI s))]) (by decide) (Nat.le_of_ble_eq_true rfl) rfl ?_
  refine j_aload_n (n := 1) dX3_feelsOf_0 rfl rfl ?_
  refine jc_get (n := 4) (k := 0) (v := nI kd) dX3_feelsOf_1 rfl fX3_15 (hp).2.2.1 (hp).1 (Nat.lt_of_succ_lt (hp).2.1) h0 ?_
  refine j_aload_n (n := 5) dX3_feelsOf_4 rfl rfl ?_
  refine j_getr (n := 8) (k := 2) (b := a + 1) dX3_feelsOf_5 rfl fX3_9 (hp).2.2.1 (hp).1 (Nat.lt_of_succ_lt (hp).2.1) (hp).2.2.2.1 ?_
  refine j_iload_n (n := 9) dX3_feelsOf_8 rfl rfl ?_
  refine j_ialdN (n := 10) (L := 3) (a := a + 1) (i := s) (v := nI r) dX3_feelsOf_9 rfl (hp).2.2.2.2.1 (hp).2.2.2.2.2 (by omega) (by decide) (Nat.le_succ_of_le (hp).1) (hp).2.1 h1 ?_
  refine j_cS (n := 13) dX3_feelsOf_10 rfl sX3_26 (c_feelsK d G _ _ kd r (by omega) (by omega)) (by omega) (by decide) rfl rfl (Nat.le_of_ble_eq_true rfl) (by decide) (by decide) ?_
  exact j_ri dX3_feelsOf_13 rfl (Nat.le_refl _) (Nat.le_refl _) rfl rfl rfl
theorem c_allRegretsP (d : Nat) (G : zG) (M : zMem) (X : zX) (a : Nat) (hp : isP X a) (r0 r1 r2 : Nat) (h0 : M (a + 1) 0 = nI r0) (h1 : M (a + 1) 1 = nI r1) (h2 : M (a + 1) 2 = nI r2) : zCall G miX3_allRegrets (d + 0) [.ref a] (zI (nI (r0 + r1 + r2)) M X) M X 0 0 := by
  refine zCall.of (lv := [some (.ref a)]) (by decide) (Nat.le_of_ble_eq_true rfl) rfl ?_
  refine j_aload_n (n := 1) dX3_allRegrets_0 rfl rfl ?_
  refine j_getr (n := 4) (k := 2) (b := a + 1) dX3_allRegrets_1 rfl fX3_9 (hp).2.2.1 (hp).1 (Nat.lt_of_succ_lt (hp).2.1) (hp).2.2.2.1 ?_
  refine j_iconst (n := 5) (v := nI 0) dX3_allRegrets_4 rfl rfl ?_
  refine j_ialdN (n := 6) (L := 3) (a := a + 1) (i := 0) (v := nI r0) dX3_allRegrets_5 rfl (hp).2.2.2.2.1 (hp).2.2.2.2.2 (by omega) (by decide) (Nat.le_succ_of_le (hp).1) (hp).2.1 h0 ?_
  refine j_aload_n (n := 7) dX3_allRegrets_6 rfl rfl ?_
  refine j_getr (n := 10) (k := 2) (b := a + 1) dX3_allRegrets_7 rfl fX3_9 (hp).2.2.1 (hp).1 (Nat.lt_of_succ_lt (hp).2.1) (hp).2.2.2.1 ?_
  refine j_iconst (n := 11) (v := nI 1) dX3_allRegrets_10 rfl rfl ?_
  refine j_ialdN (n := 12) (L := 3) (a := a + 1) (i := 1) (v := nI r1) dX3_allRegrets_11 rfl (hp).2.2.2.2.1 (hp).2.2.2.2.2 (by omega) (by decide) (Nat.le_succ_of_le (hp).1) (hp).2.1 h1 ?_
  refine j_iaddN (n := 13) (c := r0 + r1) dX3_allRegrets_12 rfl rfl ?_
  refine j_aload_n (n := 14) dX3_allRegrets_13 rfl rfl ?_
  refine j_getr (n := 17) (k := 2) (b := a + 1) dX3_allRegrets_14 rfl fX3_9 (hp).2.2.1 (hp).1 (Nat.lt_of_succ_lt (hp).2.1) (hp).2.2.2.1 ?_
  refine j_iconst (n := 18) (v := nI 2) dX3_allRegrets_17 rfl rfl ?_
  refine j_ialdN (n := 19) (L := 3) (a := a + 1) (i := 2) (v := nI r2) dX3_allRegrets_18 rfl (hp).2.2.2.2.1 (hp).2.2.2.2.2 (by omega) (by decide) (Nat.le_succ_of_le (hp).1) (hp).2.1 h2 ?_
  refine j_iaddN (n := 20) (c := r0 + r1 + r2) dX3_allRegrets_19 rfl rfl ?_
  exact j_ri dX3_allRegrets_20 rfl (Nat.le_refl _) (Nat.le_refl _) rfl rfl rfl
theorem c_worthP (d : Nat) (G : zG) (M : zMem) (X : zX) (a : Nat) (hp : isP X a) (kd : Nat) (hkd : kd ≤ 5) (h : M a 0 = nI kd) (r0 r1 r2 : Nat) (h0 : M (a + 1) 0 = nI r0) (h1 : M (a + 1) 1 = nI r1) (h2 : M (a + 1) 2 = nI r2) (hr : r0 + r1 + r2 ≤ 297) : zCall G miX3_worth (d + 1) [.ref a] (zI (worthN kd (r0 + r1 + r2)) M X) M X 0 0 := by
  refine zCall.of (lv := [some (.ref a)]) (by decide) (Nat.le_of_ble_eq_true rfl) rfl ?_
  refine j_aload_n (n := 1) dX3_worth_0 rfl rfl ?_
  refine jc_get (n := 4) (k := 0) (v := nI kd) dX3_worth_1 rfl fX3_15 (hp).2.2.1 (hp).1 (Nat.lt_of_succ_lt (hp).2.1) h ?_
  refine j_aload_n (n := 5) dX3_worth_4 rfl rfl ?_
  refine j_cV (n := 8) dX3_worth_5 rfl sX3_32 (c_allRegretsP d G _ _ a (hp) r0 r1 r2 h0 h1 h2) (by omega) (by decide) rfl rfl (Nat.le_of_ble_eq_true rfl) (hp).2.2.1 (hp).1 (Nat.lt_of_succ_lt (hp).2.1) (by decide) (by decide) ?_
  refine j_cS (n := 11) dX3_worth_8 rfl sX3_36 (c_worthK d G _ _ kd (r0 + r1 + r2) (by omega) (by omega)) (by omega) (by decide) rfl rfl (Nat.le_of_ble_eq_true rfl) (by decide) (by decide) ?_
  exact j_ri dX3_worth_11 rfl (Nat.le_refl _) (Nat.le_refl _) rfl rfl rfl
theorem c_regretMore (d : Nat) (G : zG) (M : zMem) (X : zX) (a : Nat) (hp : isP X a) (s m r : Nat) (hs : s ≤ 2) (hm : m ≤ 10) (hr : r ≤ 99) (h1 : M (a + 1) s = nI r) : zCall G miX3_regretMore (d + 1) [.ref a, .int (nI s), .int (nI m)] (zV (zs M (a + 1) (upd (M (a + 1)) s (nI (min 99 (r + m))))) X) M X 0 0 := by
  refine zCall.of (lv := [some (.ref a), some (.int (nI s)), some (.int (nI m))]) (by decide) (Nat.le_of_ble_eq_true rfl) rfl ?_
  refine j_aload_n (n := 1) dX3_regretMore_0 rfl rfl ?_
  refine j_getr (n := 4) (k := 2) (b := a + 1) dX3_regretMore_1 rfl fX3_9 (hp).2.2.1 (hp).1 (Nat.lt_of_succ_lt (hp).2.1) (hp).2.2.2.1 ?_
  refine j_iload_n (n := 5) dX3_regretMore_4 rfl rfl ?_
  refine j_bipush (n := 7) (v := nI 99) dX3_regretMore_5 rfl (by decide) ?_
  refine j_aload_n (n := 8) dX3_regretMore_7 rfl rfl ?_
  refine j_getr (n := 11) (k := 2) (b := a + 1) dX3_regretMore_8 rfl fX3_9 (hp).2.2.1 (hp).1 (Nat.lt_of_succ_lt (hp).2.1) (hp).2.2.2.1 ?_
  refine j_iload_n (n := 12) dX3_regretMore_11 rfl rfl ?_
  refine j_ialdN (n := 13) (L := 3) (a := a + 1) (i := s) (v := nI r) dX3_regretMore_12 rfl (hp).2.2.2.2.1 (hp).2.2.2.2.2 (by omega) (by decide) (Nat.le_succ_of_le (hp).1) (hp).2.1 h1 ?_
  refine j_iload_n (n := 14) dX3_regretMore_13 rfl rfl ?_
  refine j_iaddN (n := 15) (c := r + m) dX3_regretMore_14 rfl rfl ?_
  refine j_mmin (n := 18) dX3_regretMore_15 rfl sX3_39 (by omega) (Nat.le_of_ble_eq_true rfl) (by decide) (by decide) ?_
  refine j_top (y := nI (min 99 (r + m))) (minI_N (by omega) (by omega)) ?_
  refine j_iastN (n := 19) (L := 3) (a := a + 1) (i := s) (x := nI (min 99 (r + m))) (M2 := zs M (a + 1) (upd (M (a + 1)) s (nI (min 99 (r + m))))) dX3_regretMore_18 rfl (hp).2.2.2.2.1 (hp).2.2.2.2.2 (by omega) (by decide) (Nat.le_succ_of_le (hp).1) (hp).2.1 rfl ?_
  exact j_rv dX3_regretMore_19 rfl (Nat.le_refl _) (Nat.le_refl _) rfl rfl
theorem c_regretHalf (d : Nat) (G : zG) (M : zMem) (X : zX) (a : Nat) (hp : isP X a) (r0 r1 r2 : Nat) (h0 : M (a + 1) 0 = nI r0) (h1 : M (a + 1) 1 = nI r1) (h2 : M (a + 1) 2 = nI r2) (hr0 : r0 ≤ 99) (hr1 : r1 ≤ 99) (hr2 : r2 ≤ 99) : zCall G miX3_regretHalf (d + 0) [.ref a] (zV (zs M (a + 1) (upd (upd (upd (M (a + 1)) 0 (nI (r0 / 2))) 1 (nI (r1 / 2))) 2 (nI (r2 / 2)))) X) M X 0 0 := by
  refine zCall.of (lv := [some (.ref a), none]) (by decide) (Nat.le_of_ble_eq_true rfl) rfl ?_
  refine j_iconst (n := 1) (v := nI 0) dX3_regretHalf_0 rfl rfl ?_
  refine j_istore_n (n := 2) (lv2 := [some (.ref a), some (.int (nI 0))]) dX3_regretHalf_1 rfl rfl (by decide) rfl ?_
  refine j_iload_n (n := 3) dX3_regretHalf_2 rfl rfl ?_
  refine j_iconst (n := 4) (v := nI 3) dX3_regretHalf_3 rfl rfl ?_
  refine j_icmp_geT (n := 7) (tg := 23) dX3_regretHalf_4 rfl rfl (i_N (by omega)) (i_N (by omega)) (fun h101 => ?_) (fun h101 => ?_)
  · exact absurd h101 (by decide)
  · refine j_aload_n (n := 8) dX3_regretHalf_7 rfl rfl ?_
    refine j_getr (n := 11) (k := 2) (b := a + 1) dX3_regretHalf_8 rfl fX3_9 (hp).2.2.1 (hp).1 (Nat.lt_of_succ_lt (hp).2.1) (hp).2.2.2.1 ?_
    refine j_iload_n (n := 12) dX3_regretHalf_11 rfl rfl ?_
    refine j_dup2 (n := 13) dX3_regretHalf_12 rfl rfl rfl ?_
    refine j_ialdN (n := 14) (L := 3) (a := a + 1) (i := 0) (v := nI r0) dX3_regretHalf_13 rfl (hp).2.2.2.2.1 (hp).2.2.2.2.2 (by omega) (by decide) (Nat.le_succ_of_le (hp).1) (hp).2.1 h0 ?_
    refine j_iconst (n := 15) (v := nI 2) dX3_regretHalf_14 rfl rfl ?_
    refine j_idivN (n := 16) (c := r0 / 2) dX3_regretHalf_15 rfl (by omega) (by omega) (by omega) rfl ?_
    refine j_iastN (n := 17) (L := 3) (a := a + 1) (i := 0) (x := nI (r0 / 2)) (M2 := zs M (a + 1) (upd (M (a + 1)) 0 (nI (r0 / 2)))) dX3_regretHalf_16 rfl (hp).2.2.2.2.1 (hp).2.2.2.2.2 (by omega) (by decide) (Nat.le_succ_of_le (hp).1) (hp).2.1 rfl ?_
    refine j_iinc (n := 20) (y := nI 1) (lv2 := [some (.ref a), some (.int (nI 1))]) dX3_regretHalf_17 rfl rfl (by decide) rfl (show nI 0 + nI 1 = nI 1 by rw [nI_add]; try (congr 1)) rfl ?_
    refine j_goto (n := 2) dX3_regretHalf_20 rfl ?_
    refine j_iload_n (n := 3) dX3_regretHalf_2 rfl rfl ?_
    refine j_iconst (n := 4) (v := nI 3) dX3_regretHalf_3 rfl rfl ?_
    refine j_icmp_geT (n := 7) (tg := 23) dX3_regretHalf_4 rfl rfl (i_N (by omega)) (i_N (by omega)) (fun h102 => ?_) (fun h102 => ?_)
    · exact absurd h102 (by decide)
    · refine j_aload_n (n := 8) dX3_regretHalf_7 rfl rfl ?_
      refine j_getr (n := 11) (k := 2) (b := a + 1) dX3_regretHalf_8 rfl fX3_9 (hp).2.2.1 (hp).1 (Nat.lt_of_succ_lt (hp).2.1) (hp).2.2.2.1 ?_
      refine j_iload_n (n := 12) dX3_regretHalf_11 rfl rfl ?_
      refine j_dup2 (n := 13) dX3_regretHalf_12 rfl rfl rfl ?_
      refine j_ialdN (n := 14) (L := 3) (a := a + 1) (i := 1) (v := nI r1) dX3_regretHalf_13 rfl (hp).2.2.2.2.1 (hp).2.2.2.2.2 (by omega) (by decide) (Nat.le_succ_of_le (hp).1) (hp).2.1 (by simp [zs, upd, h1]) ?_
      refine j_iconst (n := 15) (v := nI 2) dX3_regretHalf_14 rfl rfl ?_
      refine j_idivN (n := 16) (c := r1 / 2) dX3_regretHalf_15 rfl (by omega) (by omega) (by omega) rfl ?_
      refine j_iastN (n := 17) (L := 3) (a := a + 1) (i := 1) (x := nI (r1 / 2)) (M2 := zs M (a + 1) (upd (upd (M (a + 1)) 0 (nI (r0 / 2))) 1 (nI (r1 / 2)))) dX3_regretHalf_16 rfl (hp).2.2.2.2.1 (hp).2.2.2.2.2 (by omega) (by decide) (Nat.le_succ_of_le (hp).1) (hp).2.1 (by rw [zs_eq, zs_zs]) ?_
      refine j_iinc (n := 20) (y := nI 2) (lv2 := [some (.ref a), some (.int (nI 2))]) dX3_regretHalf_17 rfl rfl (by decide) rfl (show nI 1 + nI 1 = nI 2 by rw [nI_add]; try (congr 1)) rfl ?_
      refine j_goto (n := 2) dX3_regretHalf_20 rfl ?_
      refine j_iload_n (n := 3) dX3_regretHalf_2 rfl rfl ?_
      refine j_iconst (n := 4) (v := nI 3) dX3_regretHalf_3 rfl rfl ?_
      refine j_icmp_geT (n := 7) (tg := 23) dX3_regretHalf_4 rfl rfl (i_N (by omega)) (i_N (by omega)) (fun h103 => ?_) (fun h103 => ?_)
      · exact absurd h103 (by decide)
      · refine j_aload_n (n := 8) dX3_regretHalf_7 rfl rfl ?_
        refine j_getr (n := 11) (k := 2) (b := a + 1) dX3_regretHalf_8 rfl fX3_9 (hp).2.2.1 (hp).1 (Nat.lt_of_succ_lt (hp).2.1) (hp).2.2.2.1 ?_
        refine j_iload_n (n := 12) dX3_regretHalf_11 rfl rfl ?_
        refine j_dup2 (n := 13) dX3_regretHalf_12 rfl rfl rfl ?_
        refine j_ialdN (n := 14) (L := 3) (a := a + 1) (i := 2) (v := nI r2) dX3_regretHalf_13 rfl (hp).2.2.2.2.1 (hp).2.2.2.2.2 (by omega) (by decide) (Nat.le_succ_of_le (hp).1) (hp).2.1 (by simp [zs, upd, h2]) ?_
        refine j_iconst (n := 15) (v := nI 2) dX3_regretHalf_14 rfl rfl ?_
        refine j_idivN (n := 16) (c := r2 / 2) dX3_regretHalf_15 rfl (by omega) (by omega) (by omega) rfl ?_
        refine j_iastN (n := 17) (L := 3) (a := a + 1) (i := 2) (x := nI (r2 / 2)) (M2 := zs M (a + 1) (upd (upd (upd (M (a + 1)) 0 (nI (r0 / 2))) 1 (nI (r1 / 2))) 2 (nI (r2 / 2)))) dX3_regretHalf_16 rfl (hp).2.2.2.2.1 (hp).2.2.2.2.2 (by omega) (by decide) (Nat.le_succ_of_le (hp).1) (hp).2.1 (by rw [zs_eq, zs_zs]) ?_
        refine j_iinc (n := 20) (y := nI 3) (lv2 := [some (.ref a), some (.int (nI 3))]) dX3_regretHalf_17 rfl rfl (by decide) rfl (show nI 2 + nI 1 = nI 3 by rw [nI_add]; try (congr 1)) rfl ?_
        refine j_goto (n := 2) dX3_regretHalf_20 rfl ?_
        refine j_iload_n (n := 3) dX3_regretHalf_2 rfl rfl ?_
        refine j_iconst (n := 4) (v := nI 3) dX3_regretHalf_3 rfl rfl ?_
        refine j_icmp_geT (n := 7) (tg := 23) dX3_regretHalf_4 rfl rfl (i_N (by omega)) (i_N (by omega)) (fun h104 => ?_) (fun h104 => ?_)
        · exact j_rv dX3_regretHalf_23 rfl (Nat.le_refl _) (Nat.le_refl _) rfl rfl
        · exact absurd h104 (by decide)
def beL (M : zMem) (a : Nat) (x y u v w : Int32) : zMem := zs M a (upd (upd (upd (upd (upd (M a) 0 x) 1 y) 2 u) 3 v) 4 w)
theorem c_becomeL (d : Nat) (G : zG) (M : zMem) (X : zX) (a : Nat) (hl : xc X a = 0 ∧ 16 ≤ a ∧ a < xz X) (x y u v : Int32) : zCall G miX1_become (d + 0) [.ref a, .int x, .int y, .int u, .int v] (zV (beL M a x y u v (nI 0)) X) M X 0 0 := by
  refine zCall.of (lv := [some (.ref a), some (.int x), some (.int y), some (.int u), some (.int v)]) (by decide) (Nat.le_of_ble_eq_true rfl) rfl ?_
  refine j_aload_n (n := 1) dX1_become_0 rfl rfl ?_
  refine j_iload_n (n := 2) dX1_become_1 rfl rfl ?_
  refine jc_put (n := 5) (k := 0) (x := x) (M2 := zs M a (upd (M a) 0 x)) dX1_become_2 rfl pX1_7 (fun h => by cases h) rfl rfl (hl).1 (hl).2.1 (hl).2.2 rfl ?_
  refine j_aload_n (n := 6) dX1_become_5 rfl rfl ?_
  refine j_iload_n (n := 7) dX1_become_6 rfl rfl ?_
  refine jc_put (n := 10) (k := 1) (x := y) (M2 := zs M a (upd (upd (M a) 0 x) 1 y)) dX1_become_7 rfl pX1_13 (fun h => by cases h) rfl rfl (hl).1 (hl).2.1 (hl).2.2 (by rw [zs_eq, zs_zs]) ?_
  refine j_aload_n (n := 11) dX1_become_10 rfl rfl ?_
  refine j_iload_n (n := 12) dX1_become_11 rfl rfl ?_
  refine jc_put (n := 15) (k := 2) (x := u) (M2 := zs M a (upd (upd (upd (M a) 0 x) 1 y) 2 u)) dX1_become_12 rfl pX1_16 (fun h => by cases h) rfl rfl (hl).1 (hl).2.1 (hl).2.2 (by rw [zs_eq, zs_zs]) ?_
  refine j_aload_n (n := 16) dX1_become_15 rfl rfl ?_
  refine j_iload (n := 18) dX1_become_16 rfl rfl ?_
  refine jc_put (n := 21) (k := 3) (x := v) (M2 := zs M a (upd (upd (upd (upd (M a) 0 x) 1 y) 2 u) 3 v)) dX1_become_18 rfl pX1_19 (fun h => by cases h) rfl rfl (hl).1 (hl).2.1 (hl).2.2 (by rw [zs_eq, zs_zs]) ?_
  refine j_aload_n (n := 22) dX1_become_21 rfl rfl ?_
  refine j_iconst (n := 23) (v := nI 0) dX1_become_22 rfl rfl ?_
  refine jc_put (n := 26) (k := 4) (x := nI 0) (M2 := zs M a (upd (upd (upd (upd (upd (M a) 0 x) 1 y) 2 u) 3 v) 4 (nI 0))) dX1_become_23 rfl pX1_22 (fun h => by cases h) rfl rfl (hl).1 (hl).2.1 (hl).2.2 (by rw [zs_eq, zs_zs]) ?_
  exact j_rv dX1_become_26 rfl (Nat.le_refl _) (Nat.le_refl _) rfl rfl
theorem cm_bl {M : zMem} {B k : Nat} {c : Nat → Nat} {x y u v w : Nat} (hk : k < 10) : beL (cm M B c) (B + 21 + k) (nI x) (nI y) (nI u) (nI v) (nI w) = cm M B (pu (pu (pu (pu (pu c (50 + 5 * k + 0) x) (50 + 5 * k + 1) y) (50 + 5 * k + 2) u) (50 + 5 * k + 3) v) (50 + 5 * k + 4) w) := by
  unfold beL
  exact cm_w2 (cm_w2 (cm_w2 (cm_w2 (cm_w (ix_l hk (by decide) rfl) x) (ix_l hk (by decide) rfl) y) (ix_l hk (by decide) rfl) u) (ix_l hk (by decide) rfl) v) (ix_l hk (by decide) rfl) w
theorem nar_b {j : Nat} (h : j ≤ 1) : narrow .boolean (.int (nI j)) = .int (nI j) := by
  have : j = 0 ∨ j = 1 := by omega
  rcases this with rfl | rfl <;> rfl
theorem fit_b {j : Nat} (h : j ≤ 1) : fits .boolean (.int (nI j)) = true := by
  have : j = 0 ∨ j = 1 := by omega
  rcases this with rfl | rfl <;> rfl
theorem beL_4 (M : zMem) (a : Nat) (x y u v w : Int32) : zs (beL M a x y u v (nI 0)) a (upd (beL M a x y u v (nI 0) a) 4 w) = beL M a x y u v w := by
  unfold beL
  rw [zs_eq, zs_zs]
  congr 1
  funext j
  simp only [upd]
  repeat (first | rfl | split)
theorem c_becomeAsL (d : Nat) (G : zG) (M : zMem) (X : zX) (a : Nat) (hl : xc X a = 0 ∧ 16 ≤ a ∧ a < xz X) (b : Nat) (hm : xc X b = 0 ∧ 16 ≤ b ∧ b < xz X) (hab : b ≠ a) (j : Nat) (hj : M b 4 = nI j) (hj1 : j ≤ 1) : zCall G miX1_becomeAs (d + 1) [.ref a, .ref b] (zV (beL M a (M b 0) (M b 1) (M b 2) (M b 3) (nI j)) X) M X 0 0 := by
  refine zCall.of (lv := [some (.ref a), some (.ref b)]) (by decide) (Nat.le_of_ble_eq_true rfl) rfl ?_
  refine j_aload_n (n := 1) dX1_becomeAs_0 rfl rfl ?_
  refine j_aload_n (n := 2) dX1_becomeAs_1 rfl rfl ?_
  refine jc_get (n := 5) (k := 0) (v := M b 0) dX1_becomeAs_2 rfl fX1_7 (hm).1 (hm).2.1 (hm).2.2 rfl ?_
  refine j_aload_n (n := 6) dX1_becomeAs_5 rfl rfl ?_
  refine jc_get (n := 9) (k := 1) (v := M b 1) dX1_becomeAs_6 rfl fX1_13 (hm).1 (hm).2.1 (hm).2.2 rfl ?_
  refine j_aload_n (n := 10) dX1_becomeAs_9 rfl rfl ?_
  refine jc_get (n := 13) (k := 2) (v := M b 2) dX1_becomeAs_10 rfl fX1_16 (hm).1 (hm).2.1 (hm).2.2 rfl ?_
  refine j_aload_n (n := 14) dX1_becomeAs_13 rfl rfl ?_
  refine jc_get (n := 17) (k := 3) (v := M b 3) dX1_becomeAs_14 rfl fX1_19 (hm).1 (hm).2.1 (hm).2.2 rfl ?_
  refine j_cVv (n := 20) dX1_becomeAs_17 rfl sX1_26 (c_becomeL d G _ _ a hl (M b 0) (M b 1) (M b 2) (M b 3)) (by omega) (by decide) rfl rfl (Nat.le_of_ble_eq_true rfl) (hl).1 (hl).2.1 (hl).2.2 (by decide) (by decide) ?_
  refine j_aload_n (n := 21) dX1_becomeAs_20 rfl rfl ?_
  refine j_aload_n (n := 22) dX1_becomeAs_21 rfl rfl ?_
  refine jc_get (n := 25) (k := 4) (v := nI j) dX1_becomeAs_22 rfl fX1_22 (hm).1 (hm).2.1 (hm).2.2 (by unfold beL; rw [zs_ne _ _ hab]; exact hj) ?_
  refine jc_put (n := 28) (k := 4) (x := nI j) (M2 := beL M a (M b 0) (M b 1) (M b 2) (M b 3) (nI j)) dX1_becomeAs_25 rfl pX1_22 (fun h => by cases h) (nar_b hj1) (fit_b hj1) (hl).1 (hl).2.1 (hl).2.2 (beL_4 _ _ _ _ _ _ _) ?_
  exact j_rv dX1_becomeAs_28 rfl (Nat.le_refl _) (Nat.le_refl _) rfl rfl
theorem c_opensFor (d : Nat) (G : zG) (M : zMem) (X : zX) (a : Nat) (hl : xc X a = 0 ∧ 16 ≤ a ∧ a < xz X) (b : Nat) (hp : isP X b) (j sr st kd r : Nat) (h4 : M a 4 = nI j) (h2 : M a 2 = nI sr) (h3 : M a 3 = nI st) (hj : j ≤ 1) (hsr : sr ≤ 2) (hst : st ≤ 99) (h0 : M b 0 = nI kd) (h1 : M (b + 1) sr = nI r) (hkd : kd ≤ 5) (hr : r ≤ 99) : zCall G miX1_opensFor (d + 2) [.ref a, .ref b] (zI (zB (j = 0 ∧ st ≤ feelsN kd r)) M X) M X 0 0 := by
  refine zCall.of (lv := [some (.ref a), some (.ref b)]) (by decide) (Nat.le_of_ble_eq_true rfl) rfl ?_
  have hf := feelsN_le (k := kd) hr
  refine j_aload_n (n := 1) dX1_opensFor_0 rfl rfl ?_
  refine jc_get (n := 4) (k := 4) (v := nI j) dX1_opensFor_1 rfl fX1_22 (hl).1 (hl).2.1 (hl).2.2 h4 ?_
  refine j_if_neN (n := 7) (tg := 26) dX1_opensFor_4 rfl rfl (by omega) (fun h101 => ?_) (fun h101 => ?_)
  · refine j_iconst (n := 27) (v := nI 0) dX1_opensFor_26 rfl rfl ?_
    exact j_rb dX1_opensFor_27 rfl rfl (Nat.le_refl _) (Nat.le_refl _) (by first | exact (zB_t (by omega)).symm | exact (zB_f (by omega)).symm) rfl rfl
  · refine j_aload_n (n := 8) dX1_opensFor_7 rfl rfl ?_
    refine j_aload_n (n := 9) dX1_opensFor_8 rfl rfl ?_
    refine jc_get (n := 12) (k := 2) (v := nI sr) dX1_opensFor_9 rfl fX1_16 (hl).1 (hl).2.1 (hl).2.2 h2 ?_
    refine j_cV (n := 15) dX1_opensFor_12 rfl sX1_30 (c_feelsOf d G _ _ b (hp) sr kd r (by omega) h0 h1 (by omega) (by omega)) (by omega) (by decide) rfl rfl (Nat.le_of_ble_eq_true rfl) (hp).2.2.1 (hp).1 (Nat.lt_of_succ_lt (hp).2.1) (by decide) (by decide) ?_
    refine j_aload_n (n := 16) dX1_opensFor_15 rfl rfl ?_
    refine jc_get (n := 19) (k := 3) (v := nI st) dX1_opensFor_16 rfl fX1_19 (hl).1 (hl).2.1 (hl).2.2 h3 ?_
    refine j_icmp_ltT (n := 22) (tg := 26) dX1_opensFor_19 rfl rfl (i_N (by omega)) (i_N (by omega)) (fun h102 => ?_) (fun h102 => ?_)
    · refine j_iconst (n := 27) (v := nI 0) dX1_opensFor_26 rfl rfl ?_
      exact j_rb dX1_opensFor_27 rfl rfl (Nat.le_refl _) (Nat.le_refl _) (by first | exact (zB_t (by omega)).symm | exact (zB_f (by omega)).symm) rfl rfl
    · refine j_iconst (n := 23) (v := nI 1) dX1_opensFor_22 rfl rfl ?_
      refine j_goto (n := 27) dX1_opensFor_23 rfl ?_
      exact j_rb dX1_opensFor_27 rfl rfl (Nat.le_refl _) (Nat.le_refl _) (by first | exact (zB_t (by omega)).symm | exact (zB_f (by omega)).symm) rfl rfl
