-- CLASS O: by program (wip/whole/gen/c15.py)
theorem s_coder (d : Nat) (G : zG) (M : zMem) (X : zX) (i : Nat) (hi : i < 6) : zCall G miJ0_coder_7d493 (d + 0) [.ref (3 + i)] (zI (nI 0) M X) M X 0 0 := by
  refine zCall.of (lv := [some (.ref (3 + i))]) (by decide) (Nat.le_of_ble_eq_true rfl) rfl ?_
  refine js_cmp (n := 3) dJ0_coder_7d493_0 rfl tJ0_38 ?_
  refine j_if_eqN (n := 6) (tg := 13) dJ0_coder_7d493_3 rfl rfl (by omega) (fun h101 => ?_) (fun h101 => ?_)
  · exact absurd h101 (by decide)
  · refine j_aload_n (n := 7) dJ0_coder_7d493_6 rfl rfl ?_
    refine js_cod (n := 10) (i := i) dJ0_coder_7d493_7 rfl (by omega) fs_cod ?_
    refine j_goto (n := 14) dJ0_coder_7d493_10 rfl ?_
    exact j_rx dJ0_coder_7d493_14 rfl rfl (Nat.le_refl _) (Nat.le_refl _) rfl rfl rfl
theorem s_isLatin1 (d : Nat) (G : zG) (M : zMem) (X : zX) (i : Nat) (hi : i < 6) : zCall G miJ0_isLatin1_aae02 (d + 0) [.ref (3 + i)] (zI (nI 1) M X) M X 0 0 := by
  refine zCall.of (lv := [some (.ref (3 + i))]) (by decide) (Nat.le_of_ble_eq_true rfl) rfl ?_
  refine js_cmp (n := 3) dJ0_isLatin1_aae02_0 rfl tJ0_38 ?_
  refine j_if_eqN (n := 6) (tg := 17) dJ0_isLatin1_aae02_3 rfl rfl (by omega) (fun h101 => ?_) (fun h101 => ?_)
  · exact absurd h101 (by decide)
  · refine j_aload_n (n := 7) dJ0_isLatin1_aae02_6 rfl rfl ?_
    refine js_cod (n := 10) (i := i) dJ0_isLatin1_aae02_7 rfl (by omega) fs_cod ?_
    refine j_if_neN (n := 13) (tg := 17) dJ0_isLatin1_aae02_10 rfl rfl (by omega) (fun h102 => ?_) (fun h102 => ?_)
    · exact absurd h102 (by decide)
    · refine j_iconst (n := 14) (v := nI 1) dJ0_isLatin1_aae02_13 rfl rfl ?_
      refine j_goto (n := 18) dJ0_isLatin1_aae02_14 rfl ?_
      exact j_rx dJ0_isLatin1_aae02_18 rfl rfl (Nat.le_refl _) (Nat.le_refl _) rfl rfl rfl
theorem s_length (d : Nat) (G : zG) (M : zMem) (X : zX) (i : Nat) (hi : i < 6) : zCall G miJ0_length_8abf5 (d + 1) [.ref (3 + i)] (zI (nI (sLn i)) M X) M X 0 0 := by
  refine zCall.of (lv := [some (.ref (3 + i))]) (by decide) (Nat.le_of_ble_eq_true rfl) rfl ?_
  have hsl := sLn_le i hi
  refine j_aload_n (n := 1) dJ0_length_8abf5_0 rfl rfl ?_
  refine js_val (n := 4) (i := i) dJ0_length_8abf5_1 rfl (by omega) fs_val ?_
  refine js_len (n := 5) (i := i) dJ0_length_8abf5_4 rfl (by omega) ?_
  refine j_aload_n (n := 6) dJ0_length_8abf5_5 rfl rfl ?_
  refine j_cVs (n := 9) (a := i) dJ0_length_8abf5_6 rfl uJ0_335 (by omega) (s_coder d G _ _ i (by omega)) (by omega) (by decide) rfl rfl (Nat.le_of_ble_eq_true rfl) (by decide) (by decide) ?_
  refine j_ishr (n := 10) dJ0_length_8abf5_9 rfl ?_
  exact j_rx dJ0_length_8abf5_10 rfl rfl (Nat.le_refl _) (Nat.le_refl _) (shr_0 _ (by omega)) rfl rfl
/-- what formats the complaint, a reference or null -/
def zFm (G : zG) : Prop := zfm G = .ref 15 ∨ zfm G = .null
theorem s_checkIndex3 (d : Nat) (G : zG) (M : zMem) (X : zX) (j n : Nat) (hj : j < n) (hn : n < 2147483648) : zCall G miJ3_checkIndex_8e157 (d + 0) [.int (nI j), .int (nI n), .ref 15] (zI (nI j) M X) M X 0 0 := by
  refine zCall.of (lv := [some (.int (nI j)), some (.int (nI n)), some (.ref 15)]) (by decide) (Nat.le_of_ble_eq_true rfl) rfl ?_
  refine j_iload_n (n := 1) dJ3_checkIndex_8e157_0 rfl rfl ?_
  refine j_if_ltM (n := 4) (tg := 9) dJ3_checkIndex_8e157_1 rfl rfl (by omega) (fun h101 => ?_) (fun h101 => ?_)
  · exfalso; omega
  · refine j_iload_n (n := 5) dJ3_checkIndex_8e157_4 rfl rfl ?_
    refine j_iload_n (n := 6) dJ3_checkIndex_8e157_5 rfl rfl ?_
    refine j_icmp_ltT (n := 9) (tg := 16) dJ3_checkIndex_8e157_6 rfl rfl (i_N (by omega)) (i_N (by omega)) (fun h102 => ?_) (fun h102 => ?_)
    · refine j_iload_n (n := 17) dJ3_checkIndex_8e157_16 rfl rfl ?_
      exact j_rx dJ3_checkIndex_8e157_17 rfl rfl (Nat.le_refl _) (Nat.le_refl _) rfl rfl rfl
    · exfalso; omega
theorem s_checkIndexN (d : Nat) (G : zG) (M : zMem) (X : zX) (j n : Nat) (hj : j < n) (hn : n < 2147483648) : zCall G miJ3_checkIndex_8e157 (d + 0) [.int (nI j), .int (nI n), .null] (zI (nI j) M X) M X 0 0 := by
  refine zCall.of (lv := [some (.int (nI j)), some (.int (nI n)), some (.null)]) (by decide) (Nat.le_of_ble_eq_true rfl) rfl ?_
  refine j_iload_n (n := 1) dJ3_checkIndex_8e157_0 rfl rfl ?_
  refine j_if_ltM (n := 4) (tg := 9) dJ3_checkIndex_8e157_1 rfl rfl (by omega) (fun h101 => ?_) (fun h101 => ?_)
  · exfalso; omega
  · refine j_iload_n (n := 5) dJ3_checkIndex_8e157_4 rfl rfl ?_
    refine j_iload_n (n := 6) dJ3_checkIndex_8e157_5 rfl rfl ?_
    refine j_icmp_ltT (n := 9) (tg := 16) dJ3_checkIndex_8e157_6 rfl rfl (i_N (by omega)) (i_N (by omega)) (fun h102 => ?_) (fun h102 => ?_)
    · refine j_iload_n (n := 17) dJ3_checkIndex_8e157_16 rfl rfl ?_
      exact j_rx dJ3_checkIndex_8e157_17 rfl rfl (Nat.le_refl _) (Nat.le_refl _) rfl rfl rfl
    · exfalso; omega
theorem s_checkIndex (d : Nat) (G : zG) (M : zMem) (X : zX) (hf : zFm G) (j n : Nat) (hj : j < n) (hn : n < 2147483648) : zCall G miJ0_checkIndex_df160 (d + 1) [.int (nI j), .int (nI n)] (zV M X) M X 0 0 := by
  refine zCall.of (lv := [some (.int (nI j)), some (.int (nI n))]) (by decide) (Nat.le_of_ble_eq_true rfl) rfl ?_
  refine j_iload_n (n := 1) dJ0_checkIndex_df160_0 rfl rfl ?_
  refine j_iload_n (n := 2) dJ0_checkIndex_df160_1 rfl rfl ?_
  rcases hf with hf | hf
  · refine js_fmt (n := 5) dJ0_checkIndex_df160_2 rfl tJ0_1053 hf ?_
    refine j_cS (n := 8) dJ0_checkIndex_df160_5 rfl sJ0_1059 (s_checkIndex3 d G _ _ j n (by omega) (by omega)) (by omega) (by decide) rfl rfl (Nat.le_of_ble_eq_true rfl) (by decide) (by decide) ?_
    refine j_pop (n := 9) dJ0_checkIndex_df160_8 rfl rfl ?_
    exact j_rv dJ0_checkIndex_df160_9 rfl (Nat.le_refl _) (Nat.le_refl _) rfl rfl
  · refine js_fmt (n := 5) dJ0_checkIndex_df160_2 rfl tJ0_1053 hf ?_
    refine j_cS (n := 8) dJ0_checkIndex_df160_5 rfl sJ0_1059 (s_checkIndexN d G _ _ j n (by omega) (by omega)) (by omega) (by decide) rfl rfl (Nat.le_of_ble_eq_true rfl) (by decide) (by decide) ?_
    refine j_pop (n := 9) dJ0_checkIndex_df160_8 rfl rfl ?_
    exact j_rv dJ0_checkIndex_df160_9 rfl (Nat.le_refl _) (Nat.le_refl _) rfl rfl
theorem s_charAt1 (d : Nat) (G : zG) (M : zMem) (X : zX) (hf : zFm G) (i : Nat) (hi : i < 6) (j : Nat) (hj : j < sLn i) : zCall G miJ1_charAt_3b067 (d + 2) [.ref (9 + i), .int (nI j)] (zI (nI (sB i j)) M X) M X 0 0 := by
  refine zCall.of (lv := [some (.ref (9 + i)), some (.int (nI j))]) (by decide) (Nat.le_of_ble_eq_true rfl) rfl ?_
  have hsl := sLn_le i hi
  have hsb := sB_ok i hi j (by omega)
  refine j_iload_n (n := 1) dJ1_charAt_3b067_0 rfl rfl ?_
  refine j_aload_n (n := 2) dJ1_charAt_3b067_1 rfl rfl ?_
  refine js_len (n := 3) (i := i) dJ1_charAt_3b067_2 rfl (by omega) ?_
  refine j_cSv (n := 6) dJ1_charAt_3b067_3 rfl sJ1_9 (s_checkIndex d G _ _ hf j (sLn i) (by omega) (by omega)) (by omega) (by decide) rfl rfl (Nat.le_of_ble_eq_true rfl) (by decide) (by decide) ?_
  refine j_aload_n (n := 7) dJ1_charAt_3b067_6 rfl rfl ?_
  refine j_iload_n (n := 8) dJ1_charAt_3b067_7 rfl rfl ?_
  refine js_ald (n := 9) (i := i) (j := j) (v := sBy i j) dJ1_charAt_3b067_8 rfl (by omega) (by omega) (by omega) rfl ?_
  refine j_sipush (n := 12) (v := nI 255) dJ1_charAt_3b067_9 rfl (by decide) ?_
  refine j_iand (n := 13) dJ1_charAt_3b067_12 rfl ?_
  refine j_i2c (n := 14) dJ1_charAt_3b067_13 rfl ?_
  exact j_rx dJ1_charAt_3b067_14 rfl (by rw [hsb.2.2]; exact nar_c _ hsb.1) (Nat.le_refl _) (Nat.le_refl _) hsb.2.2 rfl rfl
theorem s_charAt (d : Nat) (G : zG) (M : zMem) (X : zX) (hf : zFm G) (i : Nat) (hi : i < 6) (j : Nat) (hj : j < sLn i) : zCall G miJ0_charAt_5068e (d + 3) [.ref (3 + i), .int (nI j)] (zI (nI (sB i j)) M X) M X 0 0 := by
  refine zCall.of (lv := [some (.ref (3 + i)), some (.int (nI j))]) (by decide) (Nat.le_of_ble_eq_true rfl) rfl ?_
  have hsl := sLn_le i hi
  have hsb := sB_ok i hi j (by omega)
  refine j_aload_n (n := 1) dJ0_charAt_5068e_0 rfl rfl ?_
  refine j_cVs (n := 4) (a := i) dJ0_charAt_5068e_1 rfl uJ0_492 (by omega) (s_isLatin1 (d + 2) G _ _ i (by omega)) (by omega) (by decide) rfl rfl (Nat.le_of_ble_eq_true rfl) (by decide) (by decide) ?_
  refine j_if_eqN (n := 7) (tg := 16) dJ0_charAt_5068e_4 rfl rfl (by omega) (fun h101 => ?_) (fun h101 => ?_)
  · exact absurd h101 (by decide)
  · refine j_aload_n (n := 8) dJ0_charAt_5068e_7 rfl rfl ?_
    refine js_val (n := 11) (i := i) dJ0_charAt_5068e_8 rfl (by omega) fs_val ?_
    refine j_iload_n (n := 12) dJ0_charAt_5068e_11 rfl rfl ?_
    refine j_cS (n := 15) dJ0_charAt_5068e_12 rfl sJ0_495 (s_charAt1 d G _ _ hf i hi j (by omega)) (by omega) (by decide) rfl rfl (Nat.le_of_ble_eq_true rfl) (by decide) (by decide) ?_
    exact j_rx dJ0_charAt_5068e_15 rfl (nar_c _ hsb.1) (Nat.le_refl _) (Nat.le_refl _) rfl rfl rfl
theorem s_canEncode (d : Nat) (G : zG) (M : zMem) (X : zX) (t : Nat) (ht : t < 128) : zCall G miJ1_canEncode_9a6ad (d + 0) [.int (nI t)] (zI (nI 1) M X) M X 0 0 := by
  refine zCall.of (lv := [some (.int (nI t))]) (by decide) (Nat.le_of_ble_eq_true rfl) rfl ?_
  refine j_iload_n (n := 1) dJ1_canEncode_9a6ad_0 rfl rfl ?_
  refine j_if_ltM (n := 4) (tg := 15) dJ1_canEncode_9a6ad_1 rfl rfl (by omega) (fun h101 => ?_) (fun h101 => ?_)
  · exfalso; omega
  · refine j_iload_n (n := 5) dJ1_canEncode_9a6ad_4 rfl rfl ?_
    refine j_sipush (n := 8) (v := nI 255) dJ1_canEncode_9a6ad_5 rfl (by decide) ?_
    refine j_icmp_gtT (n := 11) (tg := 15) dJ1_canEncode_9a6ad_8 rfl rfl (i_N (by omega)) (i_N (by omega)) (fun h102 => ?_) (fun h102 => ?_)
    · exfalso; omega
    · refine j_iconst (n := 12) (v := nI 1) dJ1_canEncode_9a6ad_11 rfl rfl ?_
      refine j_goto (n := 16) dJ1_canEncode_9a6ad_12 rfl ?_
      exact j_rx dJ1_canEncode_9a6ad_16 rfl rfl (Nat.le_refl _) (Nat.le_refl _) rfl rfl rfl
/-- where a name stands among those of a key -/
def nmX (key t : Nat) : Int32 := if nmL key t = true then nI (nmI key t) else (-1)
theorem nmX_0 {t : Nat} : nmX 0 t = if t = 114 then nI 0 else if t = 115 then nI 1 else if t = 116 then nI 2 else (-1) := by
  unfold nmX nmL nmI
  by_cases h1 : t = 114
  · subst h1; rfl
  · by_cases h2 : t = 115
    · subst h2; rfl
    · by_cases h3 : t = 116
      · subst h3; rfl
      · rw [if_neg (by rw [decide_eq_true_iff]; omega), if_neg h1, if_neg h2, if_neg h3]
theorem nmX_1 {t : Nat} : nmX 1 t = if t = 101 then nI 0 else if t = 104 then nI 1 else (-1) := by
  unfold nmX nmL nmI
  by_cases h1 : t = 101
  · subst h1; rfl
  · by_cases h2 : t = 104
    · subst h2; rfl
    · rw [if_neg (by rw [decide_eq_true_iff]; omega), if_neg h1, if_neg h2]
theorem nmX_2 {t : Nat} : nmX 2 t = if t = 114 then nI 0 else if t = 111 then nI 1 else (-1) := by
  unfold nmX nmL nmI
  by_cases h1 : t = 114
  · subst h1; rfl
  · by_cases h2 : t = 111
    · subst h2; rfl
    · rw [if_neg (by rw [decide_eq_true_iff]; omega), if_neg h1, if_neg h2]
theorem s_idxC0 (d : Nat) (G : zG) (M : zMem) (X : zX) (t : Nat) (ht : t < 128) : zCall G miJ1_indexOfChar_4cfef (d + 0) [.ref (9 + 3), .int (nI t), .int (nI 0), .int (nI 3)] (zI (nmX 0 t) M X) M X 0 0 := by
  refine zCall.of (lv := [some (.ref (9 + 3)), some (.int (nI t)), some (.int (nI 0)), some (.int (nI 3)), none, none]) (by decide) (Nat.le_of_ble_eq_true rfl) rfl ?_
  refine j_iload_n (n := 1) dJ1_indexOfChar_4cfef_0 rfl rfl ?_
  refine j_i2b (n := 2) dJ1_indexOfChar_4cfef_1 rfl ?_
  refine j_top (y := nI t) (i2b_id t ht) ?_
  refine j_istore (n := 4) (lv2 := [some (.ref (9 + 3)), some (.int (nI t)), some (.int (nI 0)), some (.int (nI 3)), some (.int (nI t)), none]) dJ1_indexOfChar_4cfef_2 rfl rfl (by decide) rfl ?_
  refine j_iload_n (n := 5) dJ1_indexOfChar_4cfef_4 rfl rfl ?_
  refine j_istore (n := 7) (lv2 := [some (.ref (9 + 3)), some (.int (nI t)), some (.int (nI 0)), some (.int (nI 3)), some (.int (nI t)), some (.int (nI 0))]) dJ1_indexOfChar_4cfef_5 rfl rfl (by decide) rfl ?_
  refine j_iload (n := 9) dJ1_indexOfChar_4cfef_7 rfl rfl ?_
  refine j_iload_n (n := 10) dJ1_indexOfChar_4cfef_9 rfl rfl ?_
  refine j_icmp_geT (n := 13) (tg := 31) dJ1_indexOfChar_4cfef_10 rfl rfl (i_N (by omega)) (i_N (by omega)) (fun h101 => ?_) (fun h101 => ?_)
  · exact absurd h101 (by decide)
  · refine j_aload_n (n := 14) dJ1_indexOfChar_4cfef_13 rfl rfl ?_
    refine j_iload (n := 16) dJ1_indexOfChar_4cfef_14 rfl rfl ?_
    refine js_ald (n := 17) (i := 3) (j := 0) (v := nI 114) dJ1_indexOfChar_4cfef_16 rfl (by decide) (by decide) (by decide) (by decide) ?_
    refine j_iload (n := 19) dJ1_indexOfChar_4cfef_17 rfl rfl ?_
    refine j_icmp_neT (n := 22) (tg := 25) dJ1_indexOfChar_4cfef_19 rfl rfl (i_N (by omega)) (i_N (by omega)) (fun h102 => ?_) (fun h102 => ?_)
    · refine j_iinc (n := 28) (y := nI 1) (lv2 := [some (.ref (9 + 3)), some (.int (nI t)), some (.int (nI 0)), some (.int (nI 3)), some (.int (nI t)), some (.int (nI 1))]) dJ1_indexOfChar_4cfef_25 rfl rfl (by decide) rfl (show nI 0 + nI 1 = nI 1 by rw [nI_add]; try (congr 1)) rfl ?_
      refine j_goto (n := 7) dJ1_indexOfChar_4cfef_28 rfl ?_
      refine j_iload (n := 9) dJ1_indexOfChar_4cfef_7 rfl rfl ?_
      refine j_iload_n (n := 10) dJ1_indexOfChar_4cfef_9 rfl rfl ?_
      refine j_icmp_geT (n := 13) (tg := 31) dJ1_indexOfChar_4cfef_10 rfl rfl (i_N (by omega)) (i_N (by omega)) (fun h103 => ?_) (fun h103 => ?_)
      · exact absurd h103 (by decide)
      · refine j_aload_n (n := 14) dJ1_indexOfChar_4cfef_13 rfl rfl ?_
        refine j_iload (n := 16) dJ1_indexOfChar_4cfef_14 rfl rfl ?_
        refine js_ald (n := 17) (i := 3) (j := 1) (v := nI 115) dJ1_indexOfChar_4cfef_16 rfl (by decide) (by decide) (by decide) (by decide) ?_
        refine j_iload (n := 19) dJ1_indexOfChar_4cfef_17 rfl rfl ?_
        refine j_icmp_neT (n := 22) (tg := 25) dJ1_indexOfChar_4cfef_19 rfl rfl (i_N (by omega)) (i_N (by omega)) (fun h104 => ?_) (fun h104 => ?_)
        · refine j_iinc (n := 28) (y := nI 2) (lv2 := [some (.ref (9 + 3)), some (.int (nI t)), some (.int (nI 0)), some (.int (nI 3)), some (.int (nI t)), some (.int (nI 2))]) dJ1_indexOfChar_4cfef_25 rfl rfl (by decide) rfl (show nI 1 + nI 1 = nI 2 by rw [nI_add]; try (congr 1)) rfl ?_
          refine j_goto (n := 7) dJ1_indexOfChar_4cfef_28 rfl ?_
          refine j_iload (n := 9) dJ1_indexOfChar_4cfef_7 rfl rfl ?_
          refine j_iload_n (n := 10) dJ1_indexOfChar_4cfef_9 rfl rfl ?_
          refine j_icmp_geT (n := 13) (tg := 31) dJ1_indexOfChar_4cfef_10 rfl rfl (i_N (by omega)) (i_N (by omega)) (fun h105 => ?_) (fun h105 => ?_)
          · exact absurd h105 (by decide)
          · refine j_aload_n (n := 14) dJ1_indexOfChar_4cfef_13 rfl rfl ?_
            refine j_iload (n := 16) dJ1_indexOfChar_4cfef_14 rfl rfl ?_
            refine js_ald (n := 17) (i := 3) (j := 2) (v := nI 116) dJ1_indexOfChar_4cfef_16 rfl (by decide) (by decide) (by decide) (by decide) ?_
            refine j_iload (n := 19) dJ1_indexOfChar_4cfef_17 rfl rfl ?_
            refine j_icmp_neT (n := 22) (tg := 25) dJ1_indexOfChar_4cfef_19 rfl rfl (i_N (by omega)) (i_N (by omega)) (fun h106 => ?_) (fun h106 => ?_)
            · refine j_iinc (n := 28) (y := nI 3) (lv2 := [some (.ref (9 + 3)), some (.int (nI t)), some (.int (nI 0)), some (.int (nI 3)), some (.int (nI t)), some (.int (nI 3))]) dJ1_indexOfChar_4cfef_25 rfl rfl (by decide) rfl (show nI 2 + nI 1 = nI 3 by rw [nI_add]; try (congr 1)) rfl ?_
              refine j_goto (n := 7) dJ1_indexOfChar_4cfef_28 rfl ?_
              refine j_iload (n := 9) dJ1_indexOfChar_4cfef_7 rfl rfl ?_
              refine j_iload_n (n := 10) dJ1_indexOfChar_4cfef_9 rfl rfl ?_
              refine j_icmp_geT (n := 13) (tg := 31) dJ1_indexOfChar_4cfef_10 rfl rfl (i_N (by omega)) (i_N (by omega)) (fun h107 => ?_) (fun h107 => ?_)
              · refine j_iconst (n := 32) (v := (-1)) dJ1_indexOfChar_4cfef_31 rfl rfl ?_
                exact j_rx dJ1_indexOfChar_4cfef_32 rfl rfl (Nat.le_refl _) (Nat.le_refl _) (by rw [nmX_0]; repeat (first | rw [if_pos (by omega)] | rw [if_neg (by omega)])) rfl rfl
              · exact absurd h107 (by decide)
            · refine j_iload (n := 24) dJ1_indexOfChar_4cfef_22 rfl rfl ?_
              exact j_rx dJ1_indexOfChar_4cfef_24 rfl rfl (Nat.le_refl _) (Nat.le_refl _) (by rw [nmX_0]; repeat (first | rw [if_pos (by omega)] | rw [if_neg (by omega)])) rfl rfl
        · refine j_iload (n := 24) dJ1_indexOfChar_4cfef_22 rfl rfl ?_
          exact j_rx dJ1_indexOfChar_4cfef_24 rfl rfl (Nat.le_refl _) (Nat.le_refl _) (by rw [nmX_0]; repeat (first | rw [if_pos (by omega)] | rw [if_neg (by omega)])) rfl rfl
    · refine j_iload (n := 24) dJ1_indexOfChar_4cfef_22 rfl rfl ?_
      exact j_rx dJ1_indexOfChar_4cfef_24 rfl rfl (Nat.le_refl _) (Nat.le_refl _) (by rw [nmX_0]; repeat (first | rw [if_pos (by omega)] | rw [if_neg (by omega)])) rfl rfl
theorem s_idxL0 (d : Nat) (G : zG) (M : zMem) (X : zX) (t : Nat) (ht : t < 128) : zCall G miJ1_indexOf_4cfef (d + 1) [.ref (9 + 3), .int (nI t), .int (nI 0), .int (nI 3)] (zI (nmX 0 t) M X) M X 0 0 := by
  refine zCall.of (lv := [some (.ref (9 + 3)), some (.int (nI t)), some (.int (nI 0)), some (.int (nI 3))]) (by decide) (Nat.le_of_ble_eq_true rfl) rfl ?_
  refine j_iload_n (n := 1) dJ1_indexOf_4cfef_0 rfl rfl ?_
  refine j_cS (n := 4) dJ1_indexOf_4cfef_1 rfl sJ1_88 (s_canEncode d G _ _ t (by omega)) (by omega) (by decide) rfl rfl (Nat.le_of_ble_eq_true rfl) (by decide) (by decide) ?_
  refine j_if_neN (n := 7) (tg := 9) dJ1_indexOf_4cfef_4 rfl rfl (by omega) (fun h101 => ?_) (fun h101 => ?_)
  · refine j_iload_n (n := 10) dJ1_indexOf_4cfef_9 rfl rfl ?_
    refine j_iconst (n := 11) (v := nI 0) dJ1_indexOf_4cfef_10 rfl rfl ?_
    refine j_mmax (n := 14) dJ1_indexOf_4cfef_11 rfl sJ1_92 (by omega) (Nat.le_of_ble_eq_true rfl) (by decide) (by decide) ?_
    refine j_top (y := nI 0) (by decide) ?_
    refine j_istore_n (n := 15) (lv2 := [some (.ref (9 + 3)), some (.int (nI t)), some (.int (nI 0)), some (.int (nI 3))]) dJ1_indexOf_4cfef_14 rfl rfl (by decide) rfl ?_
    refine j_iload_n (n := 16) dJ1_indexOf_4cfef_15 rfl rfl ?_
    refine j_aload_n (n := 17) dJ1_indexOf_4cfef_16 rfl rfl ?_
    refine js_len (n := 18) (i := 3) dJ1_indexOf_4cfef_17 rfl (by decide) ?_
    refine j_mmin (n := 21) dJ1_indexOf_4cfef_18 rfl sJ1_38 (by omega) (Nat.le_of_ble_eq_true rfl) (by decide) (by decide) ?_
    refine j_top (y := nI 3) (by decide) ?_
    refine j_istore_n (n := 22) (lv2 := [some (.ref (9 + 3)), some (.int (nI t)), some (.int (nI 0)), some (.int (nI 3))]) dJ1_indexOf_4cfef_21 rfl rfl (by decide) rfl ?_
    refine j_iload_n (n := 23) dJ1_indexOf_4cfef_22 rfl rfl ?_
    refine j_iload_n (n := 24) dJ1_indexOf_4cfef_23 rfl rfl ?_
    refine j_icmp_ltT (n := 27) (tg := 29) dJ1_indexOf_4cfef_24 rfl rfl (i_N (by omega)) (i_N (by omega)) (fun h102 => ?_) (fun h102 => ?_)
    · refine j_aload_n (n := 30) dJ1_indexOf_4cfef_29 rfl rfl ?_
      refine j_iload_n (n := 31) dJ1_indexOf_4cfef_30 rfl rfl ?_
      refine j_iload_n (n := 32) dJ1_indexOf_4cfef_31 rfl rfl ?_
      refine j_iload_n (n := 33) dJ1_indexOf_4cfef_32 rfl rfl ?_
      refine j_cS (n := 36) dJ1_indexOf_4cfef_33 rfl sJ1_95 (s_idxC0 d G _ _ t ht) (by omega) (by decide) rfl rfl (Nat.le_of_ble_eq_true rfl) (by decide) (by decide) ?_
      exact j_rx dJ1_indexOf_4cfef_36 rfl rfl (Nat.le_refl _) (Nat.le_refl _) rfl rfl rfl
    · exact absurd h102 (by decide)
  · exact absurd h101 (by decide)
theorem s_idx20 (d : Nat) (G : zG) (M : zMem) (X : zX) (t : Nat) (ht : t < 128) : zCall G miJ0_indexOf_7cf53 (d + 2) [.ref (3 + 3), .int (nI t), .int (nI 0)] (zI (nmX 0 t) M X) M X 0 0 := by
  refine zCall.of (lv := [some (.ref (3 + 3)), some (.int (nI t)), some (.int (nI 0))]) (by decide) (Nat.le_of_ble_eq_true rfl) rfl ?_
  refine j_aload_n (n := 1) dJ0_indexOf_7cf53_0 rfl rfl ?_
  refine j_cVs (n := 4) (a := 3) dJ0_indexOf_7cf53_1 rfl uJ0_492 (by decide) (s_isLatin1 (d + 1) G _ _ 3 (by decide)) (by omega) (by decide) rfl rfl (Nat.le_of_ble_eq_true rfl) (by decide) (by decide) ?_
  refine j_if_eqN (n := 7) (tg := 23) dJ0_indexOf_7cf53_4 rfl rfl (by omega) (fun h101 => ?_) (fun h101 => ?_)
  · exact absurd h101 (by decide)
  · refine j_aload_n (n := 8) dJ0_indexOf_7cf53_7 rfl rfl ?_
    refine js_val (n := 11) (i := 3) dJ0_indexOf_7cf53_8 rfl (by decide) fs_val ?_
    refine j_iload_n (n := 12) dJ0_indexOf_7cf53_11 rfl rfl ?_
    refine j_iload_n (n := 13) dJ0_indexOf_7cf53_12 rfl rfl ?_
    refine j_aload_n (n := 14) dJ0_indexOf_7cf53_13 rfl rfl ?_
    refine j_cVs (n := 17) (a := 3) dJ0_indexOf_7cf53_14 rfl uJ0_505 (by decide) (s_length d G _ _ 3 (by decide)) (by omega) (by decide) rfl rfl (Nat.le_of_ble_eq_true rfl) (by decide) (by decide) ?_
    refine j_top (y := nI 3) rfl ?_
    refine j_cS (n := 20) dJ0_indexOf_7cf53_17 rfl sJ0_637 (s_idxL0 d G _ _ t ht) (by omega) (by decide) rfl rfl (Nat.le_of_ble_eq_true rfl) (by decide) (by decide) ?_
    refine j_goto (n := 36) dJ0_indexOf_7cf53_20 rfl ?_
    exact j_rx dJ0_indexOf_7cf53_36 rfl rfl (Nat.le_refl _) (Nat.le_refl _) rfl rfl rfl
theorem s_idx0 (d : Nat) (G : zG) (M : zMem) (X : zX) (t : Nat) (ht : t < 128) : zCall G miJ0_indexOf_0f7a4 (d + 3) [.ref (3 + 3), .int (nI t)] (zI (nmX 0 t) M X) M X 0 0 := by
  refine zCall.of (lv := [some (.ref (3 + 3)), some (.int (nI t))]) (by decide) (Nat.le_of_ble_eq_true rfl) rfl ?_
  refine j_aload_n (n := 1) dJ0_indexOf_0f7a4_0 rfl rfl ?_
  refine j_iload_n (n := 2) dJ0_indexOf_0f7a4_1 rfl rfl ?_
  refine j_iconst (n := 3) (v := nI 0) dJ0_indexOf_0f7a4_2 rfl rfl ?_
  refine j_cVs (n := 6) (a := 3) dJ0_indexOf_0f7a4_3 rfl uJ0_633 (by decide) (s_idx20 d G _ _ t ht) (by omega) (by decide) rfl rfl (Nat.le_of_ble_eq_true rfl) (by decide) (by decide) ?_
  exact j_rx dJ0_indexOf_0f7a4_6 rfl rfl (Nat.le_refl _) (Nat.le_refl _) rfl rfl rfl
theorem s_idxC1 (d : Nat) (G : zG) (M : zMem) (X : zX) (t : Nat) (ht : t < 128) : zCall G miJ1_indexOfChar_4cfef (d + 0) [.ref (9 + 4), .int (nI t), .int (nI 0), .int (nI 2)] (zI (nmX 1 t) M X) M X 0 0 := by
  refine zCall.of (lv := [some (.ref (9 + 4)), some (.int (nI t)), some (.int (nI 0)), some (.int (nI 2)), none, none]) (by decide) (Nat.le_of_ble_eq_true rfl) rfl ?_
  refine j_iload_n (n := 1) dJ1_indexOfChar_4cfef_0 rfl rfl ?_
  refine j_i2b (n := 2) dJ1_indexOfChar_4cfef_1 rfl ?_
  refine j_top (y := nI t) (i2b_id t ht) ?_
  refine j_istore (n := 4) (lv2 := [some (.ref (9 + 4)), some (.int (nI t)), some (.int (nI 0)), some (.int (nI 2)), some (.int (nI t)), none]) dJ1_indexOfChar_4cfef_2 rfl rfl (by decide) rfl ?_
  refine j_iload_n (n := 5) dJ1_indexOfChar_4cfef_4 rfl rfl ?_
  refine j_istore (n := 7) (lv2 := [some (.ref (9 + 4)), some (.int (nI t)), some (.int (nI 0)), some (.int (nI 2)), some (.int (nI t)), some (.int (nI 0))]) dJ1_indexOfChar_4cfef_5 rfl rfl (by decide) rfl ?_
  refine j_iload (n := 9) dJ1_indexOfChar_4cfef_7 rfl rfl ?_
  refine j_iload_n (n := 10) dJ1_indexOfChar_4cfef_9 rfl rfl ?_
  refine j_icmp_geT (n := 13) (tg := 31) dJ1_indexOfChar_4cfef_10 rfl rfl (i_N (by omega)) (i_N (by omega)) (fun h101 => ?_) (fun h101 => ?_)
  · exact absurd h101 (by decide)
  · refine j_aload_n (n := 14) dJ1_indexOfChar_4cfef_13 rfl rfl ?_
    refine j_iload (n := 16) dJ1_indexOfChar_4cfef_14 rfl rfl ?_
    refine js_ald (n := 17) (i := 4) (j := 0) (v := nI 101) dJ1_indexOfChar_4cfef_16 rfl (by decide) (by decide) (by decide) (by decide) ?_
    refine j_iload (n := 19) dJ1_indexOfChar_4cfef_17 rfl rfl ?_
    refine j_icmp_neT (n := 22) (tg := 25) dJ1_indexOfChar_4cfef_19 rfl rfl (i_N (by omega)) (i_N (by omega)) (fun h102 => ?_) (fun h102 => ?_)
    · refine j_iinc (n := 28) (y := nI 1) (lv2 := [some (.ref (9 + 4)), some (.int (nI t)), some (.int (nI 0)), some (.int (nI 2)), some (.int (nI t)), some (.int (nI 1))]) dJ1_indexOfChar_4cfef_25 rfl rfl (by decide) rfl (show nI 0 + nI 1 = nI 1 by rw [nI_add]; try (congr 1)) rfl ?_
      refine j_goto (n := 7) dJ1_indexOfChar_4cfef_28 rfl ?_
      refine j_iload (n := 9) dJ1_indexOfChar_4cfef_7 rfl rfl ?_
      refine j_iload_n (n := 10) dJ1_indexOfChar_4cfef_9 rfl rfl ?_
      refine j_icmp_geT (n := 13) (tg := 31) dJ1_indexOfChar_4cfef_10 rfl rfl (i_N (by omega)) (i_N (by omega)) (fun h103 => ?_) (fun h103 => ?_)
      · exact absurd h103 (by decide)
      · refine j_aload_n (n := 14) dJ1_indexOfChar_4cfef_13 rfl rfl ?_
        refine j_iload (n := 16) dJ1_indexOfChar_4cfef_14 rfl rfl ?_
        refine js_ald (n := 17) (i := 4) (j := 1) (v := nI 104) dJ1_indexOfChar_4cfef_16 rfl (by decide) (by decide) (by decide) (by decide) ?_
        refine j_iload (n := 19) dJ1_indexOfChar_4cfef_17 rfl rfl ?_
        refine j_icmp_neT (n := 22) (tg := 25) dJ1_indexOfChar_4cfef_19 rfl rfl (i_N (by omega)) (i_N (by omega)) (fun h104 => ?_) (fun h104 => ?_)
        · refine j_iinc (n := 28) (y := nI 2) (lv2 := [some (.ref (9 + 4)), some (.int (nI t)), some (.int (nI 0)), some (.int (nI 2)), some (.int (nI t)), some (.int (nI 2))]) dJ1_indexOfChar_4cfef_25 rfl rfl (by decide) rfl (show nI 1 + nI 1 = nI 2 by rw [nI_add]; try (congr 1)) rfl ?_
          refine j_goto (n := 7) dJ1_indexOfChar_4cfef_28 rfl ?_
          refine j_iload (n := 9) dJ1_indexOfChar_4cfef_7 rfl rfl ?_
          refine j_iload_n (n := 10) dJ1_indexOfChar_4cfef_9 rfl rfl ?_
          refine j_icmp_geT (n := 13) (tg := 31) dJ1_indexOfChar_4cfef_10 rfl rfl (i_N (by omega)) (i_N (by omega)) (fun h105 => ?_) (fun h105 => ?_)
          · refine j_iconst (n := 32) (v := (-1)) dJ1_indexOfChar_4cfef_31 rfl rfl ?_
            exact j_rx dJ1_indexOfChar_4cfef_32 rfl rfl (Nat.le_refl _) (Nat.le_refl _) (by rw [nmX_1]; repeat (first | rw [if_pos (by omega)] | rw [if_neg (by omega)])) rfl rfl
          · exact absurd h105 (by decide)
        · refine j_iload (n := 24) dJ1_indexOfChar_4cfef_22 rfl rfl ?_
          exact j_rx dJ1_indexOfChar_4cfef_24 rfl rfl (Nat.le_refl _) (Nat.le_refl _) (by rw [nmX_1]; repeat (first | rw [if_pos (by omega)] | rw [if_neg (by omega)])) rfl rfl
    · refine j_iload (n := 24) dJ1_indexOfChar_4cfef_22 rfl rfl ?_
      exact j_rx dJ1_indexOfChar_4cfef_24 rfl rfl (Nat.le_refl _) (Nat.le_refl _) (by rw [nmX_1]; repeat (first | rw [if_pos (by omega)] | rw [if_neg (by omega)])) rfl rfl
theorem s_idxL1 (d : Nat) (G : zG) (M : zMem) (X : zX) (t : Nat) (ht : t < 128) : zCall G miJ1_indexOf_4cfef (d + 1) [.ref (9 + 4), .int (nI t), .int (nI 0), .int (nI 2)] (zI (nmX 1 t) M X) M X 0 0 := by
  refine zCall.of (lv := [some (.ref (9 + 4)), some (.int (nI t)), some (.int (nI 0)), some (.int (nI 2))]) (by decide) (Nat.le_of_ble_eq_true rfl) rfl ?_
  refine j_iload_n (n := 1) dJ1_indexOf_4cfef_0 rfl rfl ?_
  refine j_cS (n := 4) dJ1_indexOf_4cfef_1 rfl sJ1_88 (s_canEncode d G _ _ t (by omega)) (by omega) (by decide) rfl rfl (Nat.le_of_ble_eq_true rfl) (by decide) (by decide) ?_
  refine j_if_neN (n := 7) (tg := 9) dJ1_indexOf_4cfef_4 rfl rfl (by omega) (fun h101 => ?_) (fun h101 => ?_)
  · refine j_iload_n (n := 10) dJ1_indexOf_4cfef_9 rfl rfl ?_
    refine j_iconst (n := 11) (v := nI 0) dJ1_indexOf_4cfef_10 rfl rfl ?_
    refine j_mmax (n := 14) dJ1_indexOf_4cfef_11 rfl sJ1_92 (by omega) (Nat.le_of_ble_eq_true rfl) (by decide) (by decide) ?_
    refine j_top (y := nI 0) (by decide) ?_
    refine j_istore_n (n := 15) (lv2 := [some (.ref (9 + 4)), some (.int (nI t)), some (.int (nI 0)), some (.int (nI 2))]) dJ1_indexOf_4cfef_14 rfl rfl (by decide) rfl ?_
    refine j_iload_n (n := 16) dJ1_indexOf_4cfef_15 rfl rfl ?_
    refine j_aload_n (n := 17) dJ1_indexOf_4cfef_16 rfl rfl ?_
    refine js_len (n := 18) (i := 4) dJ1_indexOf_4cfef_17 rfl (by decide) ?_
    refine j_mmin (n := 21) dJ1_indexOf_4cfef_18 rfl sJ1_38 (by omega) (Nat.le_of_ble_eq_true rfl) (by decide) (by decide) ?_
    refine j_top (y := nI 2) (by decide) ?_
    refine j_istore_n (n := 22) (lv2 := [some (.ref (9 + 4)), some (.int (nI t)), some (.int (nI 0)), some (.int (nI 2))]) dJ1_indexOf_4cfef_21 rfl rfl (by decide) rfl ?_
    refine j_iload_n (n := 23) dJ1_indexOf_4cfef_22 rfl rfl ?_
    refine j_iload_n (n := 24) dJ1_indexOf_4cfef_23 rfl rfl ?_
    refine j_icmp_ltT (n := 27) (tg := 29) dJ1_indexOf_4cfef_24 rfl rfl (i_N (by omega)) (i_N (by omega)) (fun h102 => ?_) (fun h102 => ?_)
    · refine j_aload_n (n := 30) dJ1_indexOf_4cfef_29 rfl rfl ?_
      refine j_iload_n (n := 31) dJ1_indexOf_4cfef_30 rfl rfl ?_
      refine j_iload_n (n := 32) dJ1_indexOf_4cfef_31 rfl rfl ?_
      refine j_iload_n (n := 33) dJ1_indexOf_4cfef_32 rfl rfl ?_
      refine j_cS (n := 36) dJ1_indexOf_4cfef_33 rfl sJ1_95 (s_idxC1 d G _ _ t ht) (by omega) (by decide) rfl rfl (Nat.le_of_ble_eq_true rfl) (by decide) (by decide) ?_
      exact j_rx dJ1_indexOf_4cfef_36 rfl rfl (Nat.le_refl _) (Nat.le_refl _) rfl rfl rfl
    · exact absurd h102 (by decide)
  · exact absurd h101 (by decide)
theorem s_idx21 (d : Nat) (G : zG) (M : zMem) (X : zX) (t : Nat) (ht : t < 128) : zCall G miJ0_indexOf_7cf53 (d + 2) [.ref (3 + 4), .int (nI t), .int (nI 0)] (zI (nmX 1 t) M X) M X 0 0 := by
  refine zCall.of (lv := [some (.ref (3 + 4)), some (.int (nI t)), some (.int (nI 0))]) (by decide) (Nat.le_of_ble_eq_true rfl) rfl ?_
  refine j_aload_n (n := 1) dJ0_indexOf_7cf53_0 rfl rfl ?_
  refine j_cVs (n := 4) (a := 4) dJ0_indexOf_7cf53_1 rfl uJ0_492 (by decide) (s_isLatin1 (d + 1) G _ _ 4 (by decide)) (by omega) (by decide) rfl rfl (Nat.le_of_ble_eq_true rfl) (by decide) (by decide) ?_
  refine j_if_eqN (n := 7) (tg := 23) dJ0_indexOf_7cf53_4 rfl rfl (by omega) (fun h101 => ?_) (fun h101 => ?_)
  · exact absurd h101 (by decide)
  · refine j_aload_n (n := 8) dJ0_indexOf_7cf53_7 rfl rfl ?_
    refine js_val (n := 11) (i := 4) dJ0_indexOf_7cf53_8 rfl (by decide) fs_val ?_
    refine j_iload_n (n := 12) dJ0_indexOf_7cf53_11 rfl rfl ?_
    refine j_iload_n (n := 13) dJ0_indexOf_7cf53_12 rfl rfl ?_
    refine j_aload_n (n := 14) dJ0_indexOf_7cf53_13 rfl rfl ?_
    refine j_cVs (n := 17) (a := 4) dJ0_indexOf_7cf53_14 rfl uJ0_505 (by decide) (s_length d G _ _ 4 (by decide)) (by omega) (by decide) rfl rfl (Nat.le_of_ble_eq_true rfl) (by decide) (by decide) ?_
    refine j_top (y := nI 2) rfl ?_
    refine j_cS (n := 20) dJ0_indexOf_7cf53_17 rfl sJ0_637 (s_idxL1 d G _ _ t ht) (by omega) (by decide) rfl rfl (Nat.le_of_ble_eq_true rfl) (by decide) (by decide) ?_
    refine j_goto (n := 36) dJ0_indexOf_7cf53_20 rfl ?_
    exact j_rx dJ0_indexOf_7cf53_36 rfl rfl (Nat.le_refl _) (Nat.le_refl _) rfl rfl rfl
theorem s_idx1 (d : Nat) (G : zG) (M : zMem) (X : zX) (t : Nat) (ht : t < 128) : zCall G miJ0_indexOf_0f7a4 (d + 3) [.ref (3 + 4), .int (nI t)] (zI (nmX 1 t) M X) M X 0 0 := by
  refine zCall.of (lv := [some (.ref (3 + 4)), some (.int (nI t))]) (by decide) (Nat.le_of_ble_eq_true rfl) rfl ?_
  refine j_aload_n (n := 1) dJ0_indexOf_0f7a4_0 rfl rfl ?_
  refine j_iload_n (n := 2) dJ0_indexOf_0f7a4_1 rfl rfl ?_
  refine j_iconst (n := 3) (v := nI 0) dJ0_indexOf_0f7a4_2 rfl rfl ?_
  refine j_cVs (n := 6) (a := 4) dJ0_indexOf_0f7a4_3 rfl uJ0_633 (by decide) (s_idx21 d G _ _ t ht) (by omega) (by decide) rfl rfl (Nat.le_of_ble_eq_true rfl) (by decide) (by decide) ?_
  exact j_rx dJ0_indexOf_0f7a4_6 rfl rfl (Nat.le_refl _) (Nat.le_refl _) rfl rfl rfl
theorem s_idxC2 (d : Nat) (G : zG) (M : zMem) (X : zX) (t : Nat) (ht : t < 128) : zCall G miJ1_indexOfChar_4cfef (d + 0) [.ref (9 + 5), .int (nI t), .int (nI 0), .int (nI 2)] (zI (nmX 2 t) M X) M X 0 0 := by
  refine zCall.of (lv := [some (.ref (9 + 5)), some (.int (nI t)), some (.int (nI 0)), some (.int (nI 2)), none, none]) (by decide) (Nat.le_of_ble_eq_true rfl) rfl ?_
  refine j_iload_n (n := 1) dJ1_indexOfChar_4cfef_0 rfl rfl ?_
  refine j_i2b (n := 2) dJ1_indexOfChar_4cfef_1 rfl ?_
  refine j_top (y := nI t) (i2b_id t ht) ?_
  refine j_istore (n := 4) (lv2 := [some (.ref (9 + 5)), some (.int (nI t)), some (.int (nI 0)), some (.int (nI 2)), some (.int (nI t)), none]) dJ1_indexOfChar_4cfef_2 rfl rfl (by decide) rfl ?_
  refine j_iload_n (n := 5) dJ1_indexOfChar_4cfef_4 rfl rfl ?_
  refine j_istore (n := 7) (lv2 := [some (.ref (9 + 5)), some (.int (nI t)), some (.int (nI 0)), some (.int (nI 2)), some (.int (nI t)), some (.int (nI 0))]) dJ1_indexOfChar_4cfef_5 rfl rfl (by decide) rfl ?_
  refine j_iload (n := 9) dJ1_indexOfChar_4cfef_7 rfl rfl ?_
  refine j_iload_n (n := 10) dJ1_indexOfChar_4cfef_9 rfl rfl ?_
  refine j_icmp_geT (n := 13) (tg := 31) dJ1_indexOfChar_4cfef_10 rfl rfl (i_N (by omega)) (i_N (by omega)) (fun h101 => ?_) (fun h101 => ?_)
  · exact absurd h101 (by decide)
  · refine j_aload_n (n := 14) dJ1_indexOfChar_4cfef_13 rfl rfl ?_
    refine j_iload (n := 16) dJ1_indexOfChar_4cfef_14 rfl rfl ?_
    refine js_ald (n := 17) (i := 5) (j := 0) (v := nI 114) dJ1_indexOfChar_4cfef_16 rfl (by decide) (by decide) (by decide) (by decide) ?_
    refine j_iload (n := 19) dJ1_indexOfChar_4cfef_17 rfl rfl ?_
    refine j_icmp_neT (n := 22) (tg := 25) dJ1_indexOfChar_4cfef_19 rfl rfl (i_N (by omega)) (i_N (by omega)) (fun h102 => ?_) (fun h102 => ?_)
    · refine j_iinc (n := 28) (y := nI 1) (lv2 := [some (.ref (9 + 5)), some (.int (nI t)), some (.int (nI 0)), some (.int (nI 2)), some (.int (nI t)), some (.int (nI 1))]) dJ1_indexOfChar_4cfef_25 rfl rfl (by decide) rfl (show nI 0 + nI 1 = nI 1 by rw [nI_add]; try (congr 1)) rfl ?_
      refine j_goto (n := 7) dJ1_indexOfChar_4cfef_28 rfl ?_
      refine j_iload (n := 9) dJ1_indexOfChar_4cfef_7 rfl rfl ?_
      refine j_iload_n (n := 10) dJ1_indexOfChar_4cfef_9 rfl rfl ?_
      refine j_icmp_geT (n := 13) (tg := 31) dJ1_indexOfChar_4cfef_10 rfl rfl (i_N (by omega)) (i_N (by omega)) (fun h103 => ?_) (fun h103 => ?_)
      · exact absurd h103 (by decide)
      · refine j_aload_n (n := 14) dJ1_indexOfChar_4cfef_13 rfl rfl ?_
        refine j_iload (n := 16) dJ1_indexOfChar_4cfef_14 rfl rfl ?_
        refine js_ald (n := 17) (i := 5) (j := 1) (v := nI 111) dJ1_indexOfChar_4cfef_16 rfl (by decide) (by decide) (by decide) (by decide) ?_
        refine j_iload (n := 19) dJ1_indexOfChar_4cfef_17 rfl rfl ?_
        refine j_icmp_neT (n := 22) (tg := 25) dJ1_indexOfChar_4cfef_19 rfl rfl (i_N (by omega)) (i_N (by omega)) (fun h104 => ?_) (fun h104 => ?_)
        · refine j_iinc (n := 28) (y := nI 2) (lv2 := [some (.ref (9 + 5)), some (.int (nI t)), some (.int (nI 0)), some (.int (nI 2)), some (.int (nI t)), some (.int (nI 2))]) dJ1_indexOfChar_4cfef_25 rfl rfl (by decide) rfl (show nI 1 + nI 1 = nI 2 by rw [nI_add]; try (congr 1)) rfl ?_
          refine j_goto (n := 7) dJ1_indexOfChar_4cfef_28 rfl ?_
          refine j_iload (n := 9) dJ1_indexOfChar_4cfef_7 rfl rfl ?_
          refine j_iload_n (n := 10) dJ1_indexOfChar_4cfef_9 rfl rfl ?_
          refine j_icmp_geT (n := 13) (tg := 31) dJ1_indexOfChar_4cfef_10 rfl rfl (i_N (by omega)) (i_N (by omega)) (fun h105 => ?_) (fun h105 => ?_)
          · refine j_iconst (n := 32) (v := (-1)) dJ1_indexOfChar_4cfef_31 rfl rfl ?_
            exact j_rx dJ1_indexOfChar_4cfef_32 rfl rfl (Nat.le_refl _) (Nat.le_refl _) (by rw [nmX_2]; repeat (first | rw [if_pos (by omega)] | rw [if_neg (by omega)])) rfl rfl
          · exact absurd h105 (by decide)
        · refine j_iload (n := 24) dJ1_indexOfChar_4cfef_22 rfl rfl ?_
          exact j_rx dJ1_indexOfChar_4cfef_24 rfl rfl (Nat.le_refl _) (Nat.le_refl _) (by rw [nmX_2]; repeat (first | rw [if_pos (by omega)] | rw [if_neg (by omega)])) rfl rfl
    · refine j_iload (n := 24) dJ1_indexOfChar_4cfef_22 rfl rfl ?_
      exact j_rx dJ1_indexOfChar_4cfef_24 rfl rfl (Nat.le_refl _) (Nat.le_refl _) (by rw [nmX_2]; repeat (first | rw [if_pos (by omega)] | rw [if_neg (by omega)])) rfl rfl
theorem s_idxL2 (d : Nat) (G : zG) (M : zMem) (X : zX) (t : Nat) (ht : t < 128) : zCall G miJ1_indexOf_4cfef (d + 1) [.ref (9 + 5), .int (nI t), .int (nI 0), .int (nI 2)] (zI (nmX 2 t) M X) M X 0 0 := by
  refine zCall.of (lv := [some (.ref (9 + 5)), some (.int (nI t)), some (.int (nI 0)), some (.int (nI 2))]) (by decide) (Nat.le_of_ble_eq_true rfl) rfl ?_
  refine j_iload_n (n := 1) dJ1_indexOf_4cfef_0 rfl rfl ?_
  refine j_cS (n := 4) dJ1_indexOf_4cfef_1 rfl sJ1_88 (s_canEncode d G _ _ t (by omega)) (by omega) (by decide) rfl rfl (Nat.le_of_ble_eq_true rfl) (by decide) (by decide) ?_
  refine j_if_neN (n := 7) (tg := 9) dJ1_indexOf_4cfef_4 rfl rfl (by omega) (fun h101 => ?_) (fun h101 => ?_)
  · refine j_iload_n (n := 10) dJ1_indexOf_4cfef_9 rfl rfl ?_
    refine j_iconst (n := 11) (v := nI 0) dJ1_indexOf_4cfef_10 rfl rfl ?_
    refine j_mmax (n := 14) dJ1_indexOf_4cfef_11 rfl sJ1_92 (by omega) (Nat.le_of_ble_eq_true rfl) (by decide) (by decide) ?_
    refine j_top (y := nI 0) (by decide) ?_
    refine j_istore_n (n := 15) (lv2 := [some (.ref (9 + 5)), some (.int (nI t)), some (.int (nI 0)), some (.int (nI 2))]) dJ1_indexOf_4cfef_14 rfl rfl (by decide) rfl ?_
    refine j_iload_n (n := 16) dJ1_indexOf_4cfef_15 rfl rfl ?_
    refine j_aload_n (n := 17) dJ1_indexOf_4cfef_16 rfl rfl ?_
    refine js_len (n := 18) (i := 5) dJ1_indexOf_4cfef_17 rfl (by decide) ?_
    refine j_mmin (n := 21) dJ1_indexOf_4cfef_18 rfl sJ1_38 (by omega) (Nat.le_of_ble_eq_true rfl) (by decide) (by decide) ?_
    refine j_top (y := nI 2) (by decide) ?_
    refine j_istore_n (n := 22) (lv2 := [some (.ref (9 + 5)), some (.int (nI t)), some (.int (nI 0)), some (.int (nI 2))]) dJ1_indexOf_4cfef_21 rfl rfl (by decide) rfl ?_
    refine j_iload_n (n := 23) dJ1_indexOf_4cfef_22 rfl rfl ?_
    refine j_iload_n (n := 24) dJ1_indexOf_4cfef_23 rfl rfl ?_
    refine j_icmp_ltT (n := 27) (tg := 29) dJ1_indexOf_4cfef_24 rfl rfl (i_N (by omega)) (i_N (by omega)) (fun h102 => ?_) (fun h102 => ?_)
    · refine j_aload_n (n := 30) dJ1_indexOf_4cfef_29 rfl rfl ?_
      refine j_iload_n (n := 31) dJ1_indexOf_4cfef_30 rfl rfl ?_
      refine j_iload_n (n := 32) dJ1_indexOf_4cfef_31 rfl rfl ?_
      refine j_iload_n (n := 33) dJ1_indexOf_4cfef_32 rfl rfl ?_
      refine j_cS (n := 36) dJ1_indexOf_4cfef_33 rfl sJ1_95 (s_idxC2 d G _ _ t ht) (by omega) (by decide) rfl rfl (Nat.le_of_ble_eq_true rfl) (by decide) (by decide) ?_
      exact j_rx dJ1_indexOf_4cfef_36 rfl rfl (Nat.le_refl _) (Nat.le_refl _) rfl rfl rfl
    · exact absurd h102 (by decide)
  · exact absurd h101 (by decide)
theorem s_idx22 (d : Nat) (G : zG) (M : zMem) (X : zX) (t : Nat) (ht : t < 128) : zCall G miJ0_indexOf_7cf53 (d + 2) [.ref (3 + 5), .int (nI t), .int (nI 0)] (zI (nmX 2 t) M X) M X 0 0 := by
  refine zCall.of (lv := [some (.ref (3 + 5)), some (.int (nI t)), some (.int (nI 0))]) (by decide) (Nat.le_of_ble_eq_true rfl) rfl ?_
  refine j_aload_n (n := 1) dJ0_indexOf_7cf53_0 rfl rfl ?_
  refine j_cVs (n := 4) (a := 5) dJ0_indexOf_7cf53_1 rfl uJ0_492 (by decide) (s_isLatin1 (d + 1) G _ _ 5 (by decide)) (by omega) (by decide) rfl rfl (Nat.le_of_ble_eq_true rfl) (by decide) (by decide) ?_
  refine j_if_eqN (n := 7) (tg := 23) dJ0_indexOf_7cf53_4 rfl rfl (by omega) (fun h101 => ?_) (fun h101 => ?_)
  · exact absurd h101 (by decide)
  · refine j_aload_n (n := 8) dJ0_indexOf_7cf53_7 rfl rfl ?_
    refine js_val (n := 11) (i := 5) dJ0_indexOf_7cf53_8 rfl (by decide) fs_val ?_
    refine j_iload_n (n := 12) dJ0_indexOf_7cf53_11 rfl rfl ?_
    refine j_iload_n (n := 13) dJ0_indexOf_7cf53_12 rfl rfl ?_
    refine j_aload_n (n := 14) dJ0_indexOf_7cf53_13 rfl rfl ?_
    refine j_cVs (n := 17) (a := 5) dJ0_indexOf_7cf53_14 rfl uJ0_505 (by decide) (s_length d G _ _ 5 (by decide)) (by omega) (by decide) rfl rfl (Nat.le_of_ble_eq_true rfl) (by decide) (by decide) ?_
    refine j_top (y := nI 2) rfl ?_
    refine j_cS (n := 20) dJ0_indexOf_7cf53_17 rfl sJ0_637 (s_idxL2 d G _ _ t ht) (by omega) (by decide) rfl rfl (Nat.le_of_ble_eq_true rfl) (by decide) (by decide) ?_
    refine j_goto (n := 36) dJ0_indexOf_7cf53_20 rfl ?_
    exact j_rx dJ0_indexOf_7cf53_36 rfl rfl (Nat.le_refl _) (Nat.le_refl _) rfl rfl rfl
theorem s_idx2 (d : Nat) (G : zG) (M : zMem) (X : zX) (t : Nat) (ht : t < 128) : zCall G miJ0_indexOf_0f7a4 (d + 3) [.ref (3 + 5), .int (nI t)] (zI (nmX 2 t) M X) M X 0 0 := by
  refine zCall.of (lv := [some (.ref (3 + 5)), some (.int (nI t))]) (by decide) (Nat.le_of_ble_eq_true rfl) rfl ?_
  refine j_aload_n (n := 1) dJ0_indexOf_0f7a4_0 rfl rfl ?_
  refine j_iload_n (n := 2) dJ0_indexOf_0f7a4_1 rfl rfl ?_
  refine j_iconst (n := 3) (v := nI 0) dJ0_indexOf_0f7a4_2 rfl rfl ?_
  refine j_cVs (n := 6) (a := 5) dJ0_indexOf_0f7a4_3 rfl uJ0_633 (by decide) (s_idx22 d G _ _ t ht) (by omega) (by decide) rfl rfl (Nat.le_of_ble_eq_true rfl) (by decide) (by decide) ?_
  exact j_rx dJ0_indexOf_0f7a4_6 rfl rfl (Nat.le_refl _) (Nat.le_refl _) rfl rfl rfl
