-- MODEL T: by program (wip/whole/gen/b20.py)
def rmL (lev : Nat) (F : Nat → Nat) : Nat := 3 + (5 - lev) + 6 * (8 - F 22) + (8 - F 23)
/-- the contract of a level's method, where pz answers within the fuel n -/
def cP (G : zG) (M : zMem) (X : zX) (T : Nat → Nat) (key : Nat) (mi : zM) (n lev : Nat) : Prop := ∀ (F p : Nat → Nat) (r : Bool × PSt) (c e : Nat), pz T key n lev (F, p) = some r → okP c (F, p) → rmL lev F ≤ e → zCall G mi e [.ref 160, .int (nI key)] (zI (zB (r.1 = true)) (mf M r.2.1 r.2.2) X) (mf M F p) X 0 0
/-- the same of a level's loop, at 10 -/
def lP (G : zG) (M : zMem) (X : zX) (T : Nat → Nat) (key : Nat) (mi : zM) (lv : List (Option Value)) (n lev : Nat) : Prop := ∀ (F p : Nat → Nat) (r : Bool × PSt) (c e : Nat), pz T key n lev (F, p) = some r → okP c (F, p) → rmL (lev - 10) F ≤ e → zAt G mi (zRm e 0 0) (zQ G (zI (zB (r.1 = true)) (mf M r.2.1 r.2.2) X) 0 0) 10 lv [] (mf M F p) X (0, 0)
theorem ee_either {G : zG} {M : zMem} {X : zX} (hk : kM X) {T : Nat → Nat} (hT : tpN M T) (hT2 : ∀ i, T i ≤ 255) {key : Nat} (hkey : key ≤ 2) {n : Nat} (hb : cP G M X T key miX10_both n 1) (hl : lP G M X T key miX10_either [some (.ref 160), some (.int (nI key))] n 10) : cP G M X T key miX10_either (n + 1) 0 := by
  intro F p r c e h ho hr
  obtain ⟨d, rfl⟩ : ∃ d, e = d + 3 := ⟨e - 3, by unfold rmL at hr; omega⟩
  rw [pz, if_pos (by decide)] at h
  split at h
  · rename_i s1 hc
    obtain ⟨F1, p1⟩ := s1
    obtain ⟨ho1, k22, k23, k25, k16⟩ := (pz_ok hT2 key n _ _ _ c hc ho).2 rfl
    dsimp only at k22 k23 k25 k16
    refine zCall.of (lv := [some (.ref 160), some (.int (nI key))]) (by decide) (Nat.le_of_ble_eq_true rfl) rfl ?_
    refine j_aload_n (n := 1) dX10_either_0 rfl rfl ?_
    refine j_iload_n (n := 2) dX10_either_1 rfl rfl ?_
    refine j_cV (n := 5) dX10_either_2 rfl sX10_253 (hb F p (true, F1, p1) c (d + 2) hc ho (by unfold rmL at hr ⊢; omega)) (by omega) (by decide) rfl rfl (Nat.le_of_ble_eq_true rfl) (hk).2.1 (by decide) (kM_lt hk) (by decide) (by decide) ?_
    refine j_top (y := nI 1) (zB_t rfl) ?_
    refine j_mem (M2 := mf M F1 p1) rfl ?_
    refine j_if_neN (n := 8) (tg := 10) dX10_either_5 rfl rfl (by omega) (fun h1 => ?_) (fun h1 => ?_)
    · exact hl F1 p1 r c (d + 3) h ho1 (by unfold rmL at hr ⊢; omega)
    · exact absurd h1 (by decide)
  · rename_i hne
    obtain ⟨b, F1, p1⟩ := r
    cases b
    · refine zCall.of (lv := [some (.ref 160), some (.int (nI key))]) (by decide) (Nat.le_of_ble_eq_true rfl) rfl ?_
      refine j_aload_n (n := 1) dX10_either_0 rfl rfl ?_
      refine j_iload_n (n := 2) dX10_either_1 rfl rfl ?_
      refine j_cV (n := 5) dX10_either_2 rfl sX10_253 (hb F p (false, F1, p1) c (d + 2) h ho (by unfold rmL at hr ⊢; omega)) (by omega) (by decide) rfl rfl (Nat.le_of_ble_eq_true rfl) (hk).2.1 (by decide) (kM_lt hk) (by decide) (by decide) ?_
      refine j_top (y := nI 0) (zB_f Bool.false_ne_true) ?_
      refine j_mem (M2 := mf M F1 p1) rfl ?_
      refine j_if_neN (n := 8) (tg := 10) dX10_either_5 rfl rfl (by omega) (fun h1 => ?_) (fun h1 => ?_)
      · exact absurd h1 (by decide)
      · refine j_iconst (n := 9) (v := nI 0) dX10_either_8 rfl rfl ?_
        exact j_rb dX10_either_9 rfl rfl (Nat.le_refl _) (Nat.le_refl _) (zB_f Bool.false_ne_true).symm rfl rfl
    · exact (hne _ h).elim
theorem ll_either {G : zG} {M : zMem} {X : zX} (hk : kM X) {T : Nat → Nat} (hT : tpN M T) (hT2 : ∀ i, T i ≤ 255) {key : Nat} (hkey : key ≤ 2) {n : Nat} (hb : cP G M X T key miX10_both n 1) (hl : lP G M X T key miX10_either [some (.ref 160), some (.int (nI key))] n 10) : lP G M X T key miX10_either [some (.ref 160), some (.int (nI key))] (n + 1) 10 := by
  intro F p r c e h ho hr
  obtain ⟨d, rfl⟩ : ∃ d, e = d + 3 := ⟨e - 3, by unfold rmL at hr; omega⟩
  have ho2 := ho
  obtain ⟨a1, a2, a3, a4, a5⟩ := ho2
  dsimp only at a1 a2 a3 a4 a5
  have a6 := a1
  obtain ⟨f16, f17, f18, f19, f20, f21, f0⟩ := a6
  rw [pz, if_neg (by decide), if_neg (by decide)] at h
  split at h
  · rename_i hs
    have hs2 := of_decide_eq_true hs
    dsimp only at hs2
    have hg : F 19 = 3 ∧ (F 21 = 124) := by omega
    obtain ⟨g1, g2, g3, g4, g5, g6, g7⟩ := nx_f (s := (F, p)) hT2 a1 (by dsimp only; omega)
    dsimp only at g1 g2 g3 g4 g5 g6 g7
    have hq : okP (c + 1) (nextF T F, p) := ⟨g1, by dsimp only [nx] at *; omega, by dsimp only [nx] at *; omega, by dsimp only [nx] at *; omega, by dsimp only [nx] at *; omega⟩
    dsimp only [nx] at g1 g2 g3 g4 g5 g6 g7
    split at h
    · rename_i s1 hc
      obtain ⟨F1, p1⟩ := s1
      obtain ⟨⟨o1, o2, o3, o4, o5⟩, k22, k23, k25, k16⟩ := (pz_ok hT2 key n _ _ _ (c + 1) hc hq).2 rfl
      dsimp only [nx] at o1 o2 o3 o4 o5 k22 k23 k25 k16
      have o6 := o1
      obtain ⟨q16, q17, q18, q19, q20, q21, q0⟩ := o6
      obtain ⟨b1, b2, b3, b4, b5, b6, b7, b8⟩ := stp_f (s := (F1, p1)) (w := 2) (v := F 21) o1
      dsimp only at b1 b2 b3 b4 b5 b6 b7 b8
      have hq2 : okP c (stp (F1, p1) 2 (F 21)) := ⟨b1, by omega, by omega, by omega, by omega⟩
      rw [if_neg (by decide)] at h
      have hv : F 21 = 124 := hg.2
      dsimp only at h
      rw [hv] at h hq2
      refine j_aload_n (n := 11) dX10_either_10 rfl rfl ?_
      refine j_bipush (n := 13) (v := nI 124) dX10_either_11 rfl (by decide) ?_
      refine j_cV (n := 16) dX10_either_13 rfl sX10_256 (c_isSign (d + 2) G M X hk F p f19 f21 124 (by decide)) (by omega) (by decide) rfl rfl (Nat.le_of_ble_eq_true rfl) (hk).2.1 (by decide) (kM_lt hk) (by decide) (by decide) ?_
      refine j_if_eqB (n := 19) (tg := 43) dX10_either_16 rfl rfl (fun h1 => ?_) (fun h1 => ?_)
      · exfalso; omega
      · refine j_aload_n (n := 20) dX10_either_19 rfl rfl ?_
        refine j_cVv (n := 23) dX10_either_20 rfl sX10_259 (c_nextToken d G M X hk F p T hT (by omega) hT2 (by omega) (by omega)) (by omega) (by decide) rfl rfl (Nat.le_of_ble_eq_true rfl) (hk).2.1 (by decide) (kM_lt hk) (by decide) (by decide) ?_
        refine j_aload_n (n := 24) dX10_either_23 rfl rfl ?_
        refine j_iload_n (n := 25) dX10_either_24 rfl rfl ?_
        refine j_cV (n := 28) dX10_either_25 rfl sX10_253 (hb (nextF T F) p (true, F1, p1) (c + 1) (d + 2) hc hq (by unfold rmL at hr ⊢; omega)) (by omega) (by decide) rfl rfl (Nat.le_of_ble_eq_true rfl) (hk).2.1 (by decide) (kM_lt hk) (by decide) (by decide) ?_
        refine j_top (y := nI 1) (zB_t rfl) ?_
        refine j_mem (M2 := mf M F1 p1) rfl ?_
        refine j_if_neN (n := 31) (tg := 33) dX10_either_28 rfl rfl (by omega) (fun h2 => ?_) (fun h2 => ?_)
        · refine j_aload_n (n := 34) dX10_either_33 rfl rfl ?_
          refine j_iconst (n := 35) (v := nI 2) dX10_either_34 rfl rfl ?_
          refine j_bipush (n := 37) (v := nI 124) dX10_either_35 rfl (by decide) ?_
          refine j_cVv (n := 40) dX10_either_37 rfl sX10_262 (c_step (d + 2) G M X hk F1 p1 (by omega) 2 124) (by omega) (by decide) rfl rfl (Nat.le_of_ble_eq_true rfl) (hk).2.1 (by decide) (kM_lt hk) (by decide) (by decide) ?_
          refine j_goto (n := 10) dX10_either_40 rfl ?_
          exact hl _ _ r c (d + 3) h hq2 (by unfold rmL at hr ⊢; (try dsimp only); (repeat rw [pu_ne _ _ (by decide)]); omega)
        · exact absurd h2 (by decide)
    · rename_i hne
      obtain ⟨b, F1, p1⟩ := r
      cases b
      · refine j_aload_n (n := 11) dX10_either_10 rfl rfl ?_
        refine j_bipush (n := 13) (v := nI 124) dX10_either_11 rfl (by decide) ?_
        refine j_cV (n := 16) dX10_either_13 rfl sX10_256 (c_isSign (d + 2) G M X hk F p f19 f21 124 (by decide)) (by omega) (by decide) rfl rfl (Nat.le_of_ble_eq_true rfl) (hk).2.1 (by decide) (kM_lt hk) (by decide) (by decide) ?_
        refine j_if_eqB (n := 19) (tg := 43) dX10_either_16 rfl rfl (fun h1 => ?_) (fun h1 => ?_)
        · exfalso; omega
        · refine j_aload_n (n := 20) dX10_either_19 rfl rfl ?_
          refine j_cVv (n := 23) dX10_either_20 rfl sX10_259 (c_nextToken d G M X hk F p T hT (by omega) hT2 (by omega) (by omega)) (by omega) (by decide) rfl rfl (Nat.le_of_ble_eq_true rfl) (hk).2.1 (by decide) (kM_lt hk) (by decide) (by decide) ?_
          refine j_aload_n (n := 24) dX10_either_23 rfl rfl ?_
          refine j_iload_n (n := 25) dX10_either_24 rfl rfl ?_
          refine j_cV (n := 28) dX10_either_25 rfl sX10_253 (hb (nextF T F) p (false, F1, p1) (c + 1) (d + 2) h hq (by unfold rmL at hr ⊢; omega)) (by omega) (by decide) rfl rfl (Nat.le_of_ble_eq_true rfl) (hk).2.1 (by decide) (kM_lt hk) (by decide) (by decide) ?_
          refine j_top (y := nI 0) (zB_f Bool.false_ne_true) ?_
          refine j_mem (M2 := mf M F1 p1) rfl ?_
          refine j_if_neN (n := 31) (tg := 33) dX10_either_28 rfl rfl (by omega) (fun h2 => ?_) (fun h2 => ?_)
          · exact absurd h2 (by decide)
          · refine j_iconst (n := 32) (v := nI 0) dX10_either_31 rfl rfl ?_
            exact j_rb dX10_either_32 rfl rfl (Nat.le_refl _) (Nat.le_refl _) (zB_f Bool.false_ne_true).symm rfl rfl
      · exact (hne _ h).elim
  · rename_i hs
    have hg : ¬ (F 19 = 3 ∧ (F 21 = 124)) := fun z => hs (by unfold sgL; exact decide_eq_true (by dsimp only; omega))
    cases h
    refine j_aload_n (n := 11) dX10_either_10 rfl rfl ?_
    refine j_bipush (n := 13) (v := nI 124) dX10_either_11 rfl (by decide) ?_
    refine j_cV (n := 16) dX10_either_13 rfl sX10_256 (c_isSign (d + 2) G M X hk F p f19 f21 124 (by decide)) (by omega) (by decide) rfl rfl (Nat.le_of_ble_eq_true rfl) (hk).2.1 (by decide) (kM_lt hk) (by decide) (by decide) ?_
    refine j_if_eqB (n := 19) (tg := 43) dX10_either_16 rfl rfl (fun h1 => ?_) (fun h1 => ?_)
    · refine j_iconst (n := 44) (v := nI 1) dX10_either_43 rfl rfl ?_
      exact j_rb dX10_either_44 rfl rfl (Nat.le_refl _) (Nat.le_refl _) (zB_t rfl).symm rfl rfl
    · exfalso; omega
theorem ee_both {G : zG} {M : zMem} {X : zX} (hk : kM X) {T : Nat → Nat} (hT : tpN M T) (hT2 : ∀ i, T i ≤ 255) {key : Nat} (hkey : key ≤ 2) {n : Nat} (hb : cP G M X T key miX10_test n 2) (hl : lP G M X T key miX10_both [some (.ref 160), some (.int (nI key))] n 11) : cP G M X T key miX10_both (n + 1) 1 := by
  intro F p r c e h ho hr
  obtain ⟨d, rfl⟩ : ∃ d, e = d + 3 := ⟨e - 3, by unfold rmL at hr; omega⟩
  rw [pz, if_pos (by decide)] at h
  split at h
  · rename_i s1 hc
    obtain ⟨F1, p1⟩ := s1
    obtain ⟨ho1, k22, k23, k25, k16⟩ := (pz_ok hT2 key n _ _ _ c hc ho).2 rfl
    dsimp only at k22 k23 k25 k16
    refine zCall.of (lv := [some (.ref 160), some (.int (nI key))]) (by decide) (Nat.le_of_ble_eq_true rfl) rfl ?_
    refine j_aload_n (n := 1) dX10_both_0 rfl rfl ?_
    refine j_iload_n (n := 2) dX10_both_1 rfl rfl ?_
    refine j_cV (n := 5) dX10_both_2 rfl sX10_265 (hb F p (true, F1, p1) c (d + 2) hc ho (by unfold rmL at hr ⊢; omega)) (by omega) (by decide) rfl rfl (Nat.le_of_ble_eq_true rfl) (hk).2.1 (by decide) (kM_lt hk) (by decide) (by decide) ?_
    refine j_top (y := nI 1) (zB_t rfl) ?_
    refine j_mem (M2 := mf M F1 p1) rfl ?_
    refine j_if_neN (n := 8) (tg := 10) dX10_both_5 rfl rfl (by omega) (fun h1 => ?_) (fun h1 => ?_)
    · exact hl F1 p1 r c (d + 3) h ho1 (by unfold rmL at hr ⊢; omega)
    · exact absurd h1 (by decide)
  · rename_i hne
    obtain ⟨b, F1, p1⟩ := r
    cases b
    · refine zCall.of (lv := [some (.ref 160), some (.int (nI key))]) (by decide) (Nat.le_of_ble_eq_true rfl) rfl ?_
      refine j_aload_n (n := 1) dX10_both_0 rfl rfl ?_
      refine j_iload_n (n := 2) dX10_both_1 rfl rfl ?_
      refine j_cV (n := 5) dX10_both_2 rfl sX10_265 (hb F p (false, F1, p1) c (d + 2) h ho (by unfold rmL at hr ⊢; omega)) (by omega) (by decide) rfl rfl (Nat.le_of_ble_eq_true rfl) (hk).2.1 (by decide) (kM_lt hk) (by decide) (by decide) ?_
      refine j_top (y := nI 0) (zB_f Bool.false_ne_true) ?_
      refine j_mem (M2 := mf M F1 p1) rfl ?_
      refine j_if_neN (n := 8) (tg := 10) dX10_both_5 rfl rfl (by omega) (fun h1 => ?_) (fun h1 => ?_)
      · exact absurd h1 (by decide)
      · refine j_iconst (n := 9) (v := nI 0) dX10_both_8 rfl rfl ?_
        exact j_rb dX10_both_9 rfl rfl (Nat.le_refl _) (Nat.le_refl _) (zB_f Bool.false_ne_true).symm rfl rfl
    · exact (hne _ h).elim
theorem ll_both {G : zG} {M : zMem} {X : zX} (hk : kM X) {T : Nat → Nat} (hT : tpN M T) (hT2 : ∀ i, T i ≤ 255) {key : Nat} (hkey : key ≤ 2) {n : Nat} (hb : cP G M X T key miX10_test n 2) (hl : lP G M X T key miX10_both [some (.ref 160), some (.int (nI key))] n 11) : lP G M X T key miX10_both [some (.ref 160), some (.int (nI key))] (n + 1) 11 := by
  intro F p r c e h ho hr
  obtain ⟨d, rfl⟩ : ∃ d, e = d + 3 := ⟨e - 3, by unfold rmL at hr; omega⟩
  have ho2 := ho
  obtain ⟨a1, a2, a3, a4, a5⟩ := ho2
  dsimp only at a1 a2 a3 a4 a5
  have a6 := a1
  obtain ⟨f16, f17, f18, f19, f20, f21, f0⟩ := a6
  rw [pz, if_neg (by decide), if_neg (by decide)] at h
  split at h
  · rename_i hs
    have hs2 := of_decide_eq_true hs
    dsimp only at hs2
    have hg : F 19 = 3 ∧ (F 21 = 38) := by omega
    obtain ⟨g1, g2, g3, g4, g5, g6, g7⟩ := nx_f (s := (F, p)) hT2 a1 (by dsimp only; omega)
    dsimp only at g1 g2 g3 g4 g5 g6 g7
    have hq : okP (c + 1) (nextF T F, p) := ⟨g1, by dsimp only [nx] at *; omega, by dsimp only [nx] at *; omega, by dsimp only [nx] at *; omega, by dsimp only [nx] at *; omega⟩
    dsimp only [nx] at g1 g2 g3 g4 g5 g6 g7
    split at h
    · rename_i s1 hc
      obtain ⟨F1, p1⟩ := s1
      obtain ⟨⟨o1, o2, o3, o4, o5⟩, k22, k23, k25, k16⟩ := (pz_ok hT2 key n _ _ _ (c + 1) hc hq).2 rfl
      dsimp only [nx] at o1 o2 o3 o4 o5 k22 k23 k25 k16
      have o6 := o1
      obtain ⟨q16, q17, q18, q19, q20, q21, q0⟩ := o6
      obtain ⟨b1, b2, b3, b4, b5, b6, b7, b8⟩ := stp_f (s := (F1, p1)) (w := 2) (v := F 21) o1
      dsimp only at b1 b2 b3 b4 b5 b6 b7 b8
      have hq2 : okP c (stp (F1, p1) 2 (F 21)) := ⟨b1, by omega, by omega, by omega, by omega⟩
      rw [if_neg (by decide)] at h
      have hv : F 21 = 38 := hg.2
      dsimp only at h
      rw [hv] at h hq2
      refine j_aload_n (n := 11) dX10_both_10 rfl rfl ?_
      refine j_bipush (n := 13) (v := nI 38) dX10_both_11 rfl (by decide) ?_
      refine j_cV (n := 16) dX10_both_13 rfl sX10_256 (c_isSign (d + 2) G M X hk F p f19 f21 38 (by decide)) (by omega) (by decide) rfl rfl (Nat.le_of_ble_eq_true rfl) (hk).2.1 (by decide) (kM_lt hk) (by decide) (by decide) ?_
      refine j_if_eqB (n := 19) (tg := 43) dX10_both_16 rfl rfl (fun h1 => ?_) (fun h1 => ?_)
      · exfalso; omega
      · refine j_aload_n (n := 20) dX10_both_19 rfl rfl ?_
        refine j_cVv (n := 23) dX10_both_20 rfl sX10_259 (c_nextToken d G M X hk F p T hT (by omega) hT2 (by omega) (by omega)) (by omega) (by decide) rfl rfl (Nat.le_of_ble_eq_true rfl) (hk).2.1 (by decide) (kM_lt hk) (by decide) (by decide) ?_
        refine j_aload_n (n := 24) dX10_both_23 rfl rfl ?_
        refine j_iload_n (n := 25) dX10_both_24 rfl rfl ?_
        refine j_cV (n := 28) dX10_both_25 rfl sX10_265 (hb (nextF T F) p (true, F1, p1) (c + 1) (d + 2) hc hq (by unfold rmL at hr ⊢; omega)) (by omega) (by decide) rfl rfl (Nat.le_of_ble_eq_true rfl) (hk).2.1 (by decide) (kM_lt hk) (by decide) (by decide) ?_
        refine j_top (y := nI 1) (zB_t rfl) ?_
        refine j_mem (M2 := mf M F1 p1) rfl ?_
        refine j_if_neN (n := 31) (tg := 33) dX10_both_28 rfl rfl (by omega) (fun h2 => ?_) (fun h2 => ?_)
        · refine j_aload_n (n := 34) dX10_both_33 rfl rfl ?_
          refine j_iconst (n := 35) (v := nI 2) dX10_both_34 rfl rfl ?_
          refine j_bipush (n := 37) (v := nI 38) dX10_both_35 rfl (by decide) ?_
          refine j_cVv (n := 40) dX10_both_37 rfl sX10_262 (c_step (d + 2) G M X hk F1 p1 (by omega) 2 38) (by omega) (by decide) rfl rfl (Nat.le_of_ble_eq_true rfl) (hk).2.1 (by decide) (kM_lt hk) (by decide) (by decide) ?_
          refine j_goto (n := 10) dX10_both_40 rfl ?_
          exact hl _ _ r c (d + 3) h hq2 (by unfold rmL at hr ⊢; (try dsimp only); (repeat rw [pu_ne _ _ (by decide)]); omega)
        · exact absurd h2 (by decide)
    · rename_i hne
      obtain ⟨b, F1, p1⟩ := r
      cases b
      · refine j_aload_n (n := 11) dX10_both_10 rfl rfl ?_
        refine j_bipush (n := 13) (v := nI 38) dX10_both_11 rfl (by decide) ?_
        refine j_cV (n := 16) dX10_both_13 rfl sX10_256 (c_isSign (d + 2) G M X hk F p f19 f21 38 (by decide)) (by omega) (by decide) rfl rfl (Nat.le_of_ble_eq_true rfl) (hk).2.1 (by decide) (kM_lt hk) (by decide) (by decide) ?_
        refine j_if_eqB (n := 19) (tg := 43) dX10_both_16 rfl rfl (fun h1 => ?_) (fun h1 => ?_)
        · exfalso; omega
        · refine j_aload_n (n := 20) dX10_both_19 rfl rfl ?_
          refine j_cVv (n := 23) dX10_both_20 rfl sX10_259 (c_nextToken d G M X hk F p T hT (by omega) hT2 (by omega) (by omega)) (by omega) (by decide) rfl rfl (Nat.le_of_ble_eq_true rfl) (hk).2.1 (by decide) (kM_lt hk) (by decide) (by decide) ?_
          refine j_aload_n (n := 24) dX10_both_23 rfl rfl ?_
          refine j_iload_n (n := 25) dX10_both_24 rfl rfl ?_
          refine j_cV (n := 28) dX10_both_25 rfl sX10_265 (hb (nextF T F) p (false, F1, p1) (c + 1) (d + 2) h hq (by unfold rmL at hr ⊢; omega)) (by omega) (by decide) rfl rfl (Nat.le_of_ble_eq_true rfl) (hk).2.1 (by decide) (kM_lt hk) (by decide) (by decide) ?_
          refine j_top (y := nI 0) (zB_f Bool.false_ne_true) ?_
          refine j_mem (M2 := mf M F1 p1) rfl ?_
          refine j_if_neN (n := 31) (tg := 33) dX10_both_28 rfl rfl (by omega) (fun h2 => ?_) (fun h2 => ?_)
          · exact absurd h2 (by decide)
          · refine j_iconst (n := 32) (v := nI 0) dX10_both_31 rfl rfl ?_
            exact j_rb dX10_both_32 rfl rfl (Nat.le_refl _) (Nat.le_refl _) (zB_f Bool.false_ne_true).symm rfl rfl
      · exact (hne _ h).elim
  · rename_i hs
    have hg : ¬ (F 19 = 3 ∧ (F 21 = 38)) := fun z => hs (by unfold sgL; exact decide_eq_true (by dsimp only; omega))
    cases h
    refine j_aload_n (n := 11) dX10_both_10 rfl rfl ?_
    refine j_bipush (n := 13) (v := nI 38) dX10_both_11 rfl (by decide) ?_
    refine j_cV (n := 16) dX10_both_13 rfl sX10_256 (c_isSign (d + 2) G M X hk F p f19 f21 38 (by decide)) (by omega) (by decide) rfl rfl (Nat.le_of_ble_eq_true rfl) (hk).2.1 (by decide) (kM_lt hk) (by decide) (by decide) ?_
    refine j_if_eqB (n := 19) (tg := 43) dX10_both_16 rfl rfl (fun h1 => ?_) (fun h1 => ?_)
    · refine j_iconst (n := 44) (v := nI 1) dX10_both_43 rfl rfl ?_
      exact j_rb dX10_both_44 rfl rfl (Nat.le_refl _) (Nat.le_refl _) (zB_t rfl).symm rfl rfl
    · exfalso; omega
theorem ee_test {G : zG} {M : zMem} {X : zX} (hk : kM X) {T : Nat → Nat} (hT : tpN M T) (hT2 : ∀ i, T i ≤ 255) {key : Nat} (hkey : key ≤ 2) {n : Nat} (hb : cP G M X T key miX10_sum n 3) (hl : lP G M X T key miX10_test [some (.ref 160), some (.int (nI key)), none] n 12) : cP G M X T key miX10_test (n + 1) 2 := by
  intro F p r c e h ho hr
  obtain ⟨d, rfl⟩ : ∃ d, e = d + 3 := ⟨e - 3, by unfold rmL at hr; omega⟩
  rw [pz, if_pos (by decide)] at h
  split at h
  · rename_i s1 hc
    obtain ⟨F1, p1⟩ := s1
    obtain ⟨ho1, k22, k23, k25, k16⟩ := (pz_ok hT2 key n _ _ _ c hc ho).2 rfl
    dsimp only at k22 k23 k25 k16
    refine zCall.of (lv := [some (.ref 160), some (.int (nI key)), none]) (by decide) (Nat.le_of_ble_eq_true rfl) rfl ?_
    refine j_aload_n (n := 1) dX10_test_0 rfl rfl ?_
    refine j_iload_n (n := 2) dX10_test_1 rfl rfl ?_
    refine j_cV (n := 5) dX10_test_2 rfl sX10_268 (hb F p (true, F1, p1) c (d + 2) hc ho (by unfold rmL at hr ⊢; omega)) (by omega) (by decide) rfl rfl (Nat.le_of_ble_eq_true rfl) (hk).2.1 (by decide) (kM_lt hk) (by decide) (by decide) ?_
    refine j_top (y := nI 1) (zB_t rfl) ?_
    refine j_mem (M2 := mf M F1 p1) rfl ?_
    refine j_if_neN (n := 8) (tg := 10) dX10_test_5 rfl rfl (by omega) (fun h1 => ?_) (fun h1 => ?_)
    · exact hl F1 p1 r c (d + 3) h ho1 (by unfold rmL at hr ⊢; omega)
    · exact absurd h1 (by decide)
  · rename_i hne
    obtain ⟨b, F1, p1⟩ := r
    cases b
    · refine zCall.of (lv := [some (.ref 160), some (.int (nI key)), none]) (by decide) (Nat.le_of_ble_eq_true rfl) rfl ?_
      refine j_aload_n (n := 1) dX10_test_0 rfl rfl ?_
      refine j_iload_n (n := 2) dX10_test_1 rfl rfl ?_
      refine j_cV (n := 5) dX10_test_2 rfl sX10_268 (hb F p (false, F1, p1) c (d + 2) h ho (by unfold rmL at hr ⊢; omega)) (by omega) (by decide) rfl rfl (Nat.le_of_ble_eq_true rfl) (hk).2.1 (by decide) (kM_lt hk) (by decide) (by decide) ?_
      refine j_top (y := nI 0) (zB_f Bool.false_ne_true) ?_
      refine j_mem (M2 := mf M F1 p1) rfl ?_
      refine j_if_neN (n := 8) (tg := 10) dX10_test_5 rfl rfl (by omega) (fun h1 => ?_) (fun h1 => ?_)
      · exact absurd h1 (by decide)
      · refine j_iconst (n := 9) (v := nI 0) dX10_test_8 rfl rfl ?_
        exact j_rb dX10_test_9 rfl rfl (Nat.le_refl _) (Nat.le_refl _) (zB_f Bool.false_ne_true).symm rfl rfl
    · exact (hne _ h).elim
theorem ll_test {G : zG} {M : zMem} {X : zX} (hk : kM X) {T : Nat → Nat} (hT : tpN M T) (hT2 : ∀ i, T i ≤ 255) {key : Nat} (hkey : key ≤ 2) {n : Nat} (hb : cP G M X T key miX10_sum n 3) (hl : lP G M X T key miX10_test [some (.ref 160), some (.int (nI key)), none] n 12) : lP G M X T key miX10_test [some (.ref 160), some (.int (nI key)), none] (n + 1) 12 := by
  intro F p r c e h ho hr
  obtain ⟨d, rfl⟩ : ∃ d, e = d + 3 := ⟨e - 3, by unfold rmL at hr; omega⟩
  have ho2 := ho
  obtain ⟨a1, a2, a3, a4, a5⟩ := ho2
  dsimp only at a1 a2 a3 a4 a5
  have a6 := a1
  obtain ⟨f16, f17, f18, f19, f20, f21, f0⟩ := a6
  rw [pz, if_neg (by decide), if_neg (by decide)] at h
  split at h
  · rename_i hs
    have hs2 := of_decide_eq_true hs
    dsimp only at hs2
    have hg : F 19 = 3 ∧ (F 21 = 60 ∨ F 21 = 61 ∨ F 21 = 62) := by omega
    obtain ⟨g1, g2, g3, g4, g5, g6, g7⟩ := nx_f (s := (F, p)) hT2 a1 (by dsimp only; omega)
    dsimp only at g1 g2 g3 g4 g5 g6 g7
    have hq : okP (c + 1) (nextF T F, p) := ⟨g1, by dsimp only [nx] at *; omega, by dsimp only [nx] at *; omega, by dsimp only [nx] at *; omega, by dsimp only [nx] at *; omega⟩
    dsimp only [nx] at g1 g2 g3 g4 g5 g6 g7
    split at h
    · rename_i s1 hc
      obtain ⟨F1, p1⟩ := s1
      obtain ⟨⟨o1, o2, o3, o4, o5⟩, k22, k23, k25, k16⟩ := (pz_ok hT2 key n _ _ _ (c + 1) hc hq).2 rfl
      dsimp only [nx] at o1 o2 o3 o4 o5 k22 k23 k25 k16
      have o6 := o1
      obtain ⟨q16, q17, q18, q19, q20, q21, q0⟩ := o6
      obtain ⟨b1, b2, b3, b4, b5, b6, b7, b8⟩ := stp_f (s := (F1, p1)) (w := 2) (v := F 21) o1
      dsimp only at b1 b2 b3 b4 b5 b6 b7 b8
      have hq2 : okP c (stp (F1, p1) 2 (F 21)) := ⟨b1, by omega, by omega, by omega, by omega⟩
      rw [if_pos rfl] at h
      cases h
      refine j_aload_n (n := 11) dX10_test_10 rfl rfl ?_
      refine j_bipush (n := 13) (v := nI 60) dX10_test_11 rfl (by decide) ?_
      refine j_cV (n := 16) dX10_test_13 rfl sX10_256 (c_isSign (d + 2) G M X hk F p f19 f21 60 (by decide)) (by omega) (by decide) rfl rfl (Nat.le_of_ble_eq_true rfl) (hk).2.1 (by decide) (kM_lt hk) (by decide) (by decide) ?_
      refine j_if_neB (n := 19) (tg := 37) dX10_test_16 rfl rfl (fun h1 => ?_) (fun h1 => ?_)
      · refine j_aload_n (n := 38) dX10_test_37 rfl rfl ?_
        refine jm_geti (n := 41) (k := 21) (v := nI (F 21)) dX10_test_38 rfl fX10_235 hk (mf_f _ _ _ 21) ?_
        refine j_istore_n (n := 42) (lv2 := [some (.ref 160), some (.int (nI key)), some (.int (nI (F 21)))]) dX10_test_41 rfl rfl (by decide) rfl ?_
        refine j_aload_n (n := 43) dX10_test_42 rfl rfl ?_
        refine j_cVv (n := 46) dX10_test_43 rfl sX10_259 (c_nextToken d G M X hk F p T hT (by omega) hT2 (by omega) (by omega)) (by omega) (by decide) rfl rfl (Nat.le_of_ble_eq_true rfl) (hk).2.1 (by decide) (kM_lt hk) (by decide) (by decide) ?_
        refine j_aload_n (n := 47) dX10_test_46 rfl rfl ?_
        refine j_iload_n (n := 48) dX10_test_47 rfl rfl ?_
        refine j_cV (n := 51) dX10_test_48 rfl sX10_268 (hb (nextF T F) p (true, F1, p1) (c + 1) (d + 2) hc hq (by unfold rmL at hr ⊢; omega)) (by omega) (by decide) rfl rfl (Nat.le_of_ble_eq_true rfl) (hk).2.1 (by decide) (kM_lt hk) (by decide) (by decide) ?_
        refine j_top (y := nI 1) (zB_t rfl) ?_
        refine j_mem (M2 := mf M F1 p1) rfl ?_
        refine j_if_neN (n := 54) (tg := 56) dX10_test_51 rfl rfl (by omega) (fun h2 => ?_) (fun h2 => ?_)
        · refine j_aload_n (n := 57) dX10_test_56 rfl rfl ?_
          refine j_iconst (n := 58) (v := nI 2) dX10_test_57 rfl rfl ?_
          refine j_iload_n (n := 59) dX10_test_58 rfl rfl ?_
          refine j_cVv (n := 62) dX10_test_59 rfl sX10_262 (c_step (d + 2) G M X hk F1 p1 (by omega) 2 (F 21)) (by omega) (by decide) rfl rfl (Nat.le_of_ble_eq_true rfl) (hk).2.1 (by decide) (kM_lt hk) (by decide) (by decide) ?_
          refine j_iconst (n := 63) (v := nI 1) dX10_test_62 rfl rfl ?_
          exact j_rb dX10_test_63 rfl rfl (Nat.le_refl _) (Nat.le_refl _) (zB_t rfl).symm rfl rfl
        · exact absurd h2 (by decide)
      · refine j_aload_n (n := 20) dX10_test_19 rfl rfl ?_
        refine j_bipush (n := 22) (v := nI 61) dX10_test_20 rfl (by decide) ?_
        refine j_cV (n := 25) dX10_test_22 rfl sX10_256 (c_isSign (d + 2) G M X hk F p f19 f21 61 (by decide)) (by omega) (by decide) rfl rfl (Nat.le_of_ble_eq_true rfl) (hk).2.1 (by decide) (kM_lt hk) (by decide) (by decide) ?_
        refine j_if_neB (n := 28) (tg := 37) dX10_test_25 rfl rfl (fun h3 => ?_) (fun h3 => ?_)
        · refine j_aload_n (n := 38) dX10_test_37 rfl rfl ?_
          refine jm_geti (n := 41) (k := 21) (v := nI (F 21)) dX10_test_38 rfl fX10_235 hk (mf_f _ _ _ 21) ?_
          refine j_istore_n (n := 42) (lv2 := [some (.ref 160), some (.int (nI key)), some (.int (nI (F 21)))]) dX10_test_41 rfl rfl (by decide) rfl ?_
          refine j_aload_n (n := 43) dX10_test_42 rfl rfl ?_
          refine j_cVv (n := 46) dX10_test_43 rfl sX10_259 (c_nextToken d G M X hk F p T hT (by omega) hT2 (by omega) (by omega)) (by omega) (by decide) rfl rfl (Nat.le_of_ble_eq_true rfl) (hk).2.1 (by decide) (kM_lt hk) (by decide) (by decide) ?_
          refine j_aload_n (n := 47) dX10_test_46 rfl rfl ?_
          refine j_iload_n (n := 48) dX10_test_47 rfl rfl ?_
          refine j_cV (n := 51) dX10_test_48 rfl sX10_268 (hb (nextF T F) p (true, F1, p1) (c + 1) (d + 2) hc hq (by unfold rmL at hr ⊢; omega)) (by omega) (by decide) rfl rfl (Nat.le_of_ble_eq_true rfl) (hk).2.1 (by decide) (kM_lt hk) (by decide) (by decide) ?_
          refine j_top (y := nI 1) (zB_t rfl) ?_
          refine j_mem (M2 := mf M F1 p1) rfl ?_
          refine j_if_neN (n := 54) (tg := 56) dX10_test_51 rfl rfl (by omega) (fun h4 => ?_) (fun h4 => ?_)
          · refine j_aload_n (n := 57) dX10_test_56 rfl rfl ?_
            refine j_iconst (n := 58) (v := nI 2) dX10_test_57 rfl rfl ?_
            refine j_iload_n (n := 59) dX10_test_58 rfl rfl ?_
            refine j_cVv (n := 62) dX10_test_59 rfl sX10_262 (c_step (d + 2) G M X hk F1 p1 (by omega) 2 (F 21)) (by omega) (by decide) rfl rfl (Nat.le_of_ble_eq_true rfl) (hk).2.1 (by decide) (kM_lt hk) (by decide) (by decide) ?_
            refine j_iconst (n := 63) (v := nI 1) dX10_test_62 rfl rfl ?_
            exact j_rb dX10_test_63 rfl rfl (Nat.le_refl _) (Nat.le_refl _) (zB_t rfl).symm rfl rfl
          · exact absurd h4 (by decide)
        · refine j_aload_n (n := 29) dX10_test_28 rfl rfl ?_
          refine j_bipush (n := 31) (v := nI 62) dX10_test_29 rfl (by decide) ?_
          refine j_cV (n := 34) dX10_test_31 rfl sX10_256 (c_isSign (d + 2) G M X hk F p f19 f21 62 (by decide)) (by omega) (by decide) rfl rfl (Nat.le_of_ble_eq_true rfl) (hk).2.1 (by decide) (kM_lt hk) (by decide) (by decide) ?_
          refine j_if_eqB (n := 37) (tg := 62) dX10_test_34 rfl rfl (fun h5 => ?_) (fun h5 => ?_)
          · exfalso; omega
          · refine j_aload_n (n := 38) dX10_test_37 rfl rfl ?_
            refine jm_geti (n := 41) (k := 21) (v := nI (F 21)) dX10_test_38 rfl fX10_235 hk (mf_f _ _ _ 21) ?_
            refine j_istore_n (n := 42) (lv2 := [some (.ref 160), some (.int (nI key)), some (.int (nI (F 21)))]) dX10_test_41 rfl rfl (by decide) rfl ?_
            refine j_aload_n (n := 43) dX10_test_42 rfl rfl ?_
            refine j_cVv (n := 46) dX10_test_43 rfl sX10_259 (c_nextToken d G M X hk F p T hT (by omega) hT2 (by omega) (by omega)) (by omega) (by decide) rfl rfl (Nat.le_of_ble_eq_true rfl) (hk).2.1 (by decide) (kM_lt hk) (by decide) (by decide) ?_
            refine j_aload_n (n := 47) dX10_test_46 rfl rfl ?_
            refine j_iload_n (n := 48) dX10_test_47 rfl rfl ?_
            refine j_cV (n := 51) dX10_test_48 rfl sX10_268 (hb (nextF T F) p (true, F1, p1) (c + 1) (d + 2) hc hq (by unfold rmL at hr ⊢; omega)) (by omega) (by decide) rfl rfl (Nat.le_of_ble_eq_true rfl) (hk).2.1 (by decide) (kM_lt hk) (by decide) (by decide) ?_
            refine j_top (y := nI 1) (zB_t rfl) ?_
            refine j_mem (M2 := mf M F1 p1) rfl ?_
            refine j_if_neN (n := 54) (tg := 56) dX10_test_51 rfl rfl (by omega) (fun h6 => ?_) (fun h6 => ?_)
            · refine j_aload_n (n := 57) dX10_test_56 rfl rfl ?_
              refine j_iconst (n := 58) (v := nI 2) dX10_test_57 rfl rfl ?_
              refine j_iload_n (n := 59) dX10_test_58 rfl rfl ?_
              refine j_cVv (n := 62) dX10_test_59 rfl sX10_262 (c_step (d + 2) G M X hk F1 p1 (by omega) 2 (F 21)) (by omega) (by decide) rfl rfl (Nat.le_of_ble_eq_true rfl) (hk).2.1 (by decide) (kM_lt hk) (by decide) (by decide) ?_
              refine j_iconst (n := 63) (v := nI 1) dX10_test_62 rfl rfl ?_
              exact j_rb dX10_test_63 rfl rfl (Nat.le_refl _) (Nat.le_refl _) (zB_t rfl).symm rfl rfl
            · exact absurd h6 (by decide)
    · rename_i hne
      obtain ⟨b, F1, p1⟩ := r
      cases b
      · refine j_aload_n (n := 11) dX10_test_10 rfl rfl ?_
        refine j_bipush (n := 13) (v := nI 60) dX10_test_11 rfl (by decide) ?_
        refine j_cV (n := 16) dX10_test_13 rfl sX10_256 (c_isSign (d + 2) G M X hk F p f19 f21 60 (by decide)) (by omega) (by decide) rfl rfl (Nat.le_of_ble_eq_true rfl) (hk).2.1 (by decide) (kM_lt hk) (by decide) (by decide) ?_
        refine j_if_neB (n := 19) (tg := 37) dX10_test_16 rfl rfl (fun h1 => ?_) (fun h1 => ?_)
        · refine j_aload_n (n := 38) dX10_test_37 rfl rfl ?_
          refine jm_geti (n := 41) (k := 21) (v := nI (F 21)) dX10_test_38 rfl fX10_235 hk (mf_f _ _ _ 21) ?_
          refine j_istore_n (n := 42) (lv2 := [some (.ref 160), some (.int (nI key)), some (.int (nI (F 21)))]) dX10_test_41 rfl rfl (by decide) rfl ?_
          refine j_aload_n (n := 43) dX10_test_42 rfl rfl ?_
          refine j_cVv (n := 46) dX10_test_43 rfl sX10_259 (c_nextToken d G M X hk F p T hT (by omega) hT2 (by omega) (by omega)) (by omega) (by decide) rfl rfl (Nat.le_of_ble_eq_true rfl) (hk).2.1 (by decide) (kM_lt hk) (by decide) (by decide) ?_
          refine j_aload_n (n := 47) dX10_test_46 rfl rfl ?_
          refine j_iload_n (n := 48) dX10_test_47 rfl rfl ?_
          refine j_cV (n := 51) dX10_test_48 rfl sX10_268 (hb (nextF T F) p (false, F1, p1) (c + 1) (d + 2) h hq (by unfold rmL at hr ⊢; omega)) (by omega) (by decide) rfl rfl (Nat.le_of_ble_eq_true rfl) (hk).2.1 (by decide) (kM_lt hk) (by decide) (by decide) ?_
          refine j_top (y := nI 0) (zB_f Bool.false_ne_true) ?_
          refine j_mem (M2 := mf M F1 p1) rfl ?_
          refine j_if_neN (n := 54) (tg := 56) dX10_test_51 rfl rfl (by omega) (fun h2 => ?_) (fun h2 => ?_)
          · exact absurd h2 (by decide)
          · refine j_iconst (n := 55) (v := nI 0) dX10_test_54 rfl rfl ?_
            exact j_rb dX10_test_55 rfl rfl (Nat.le_refl _) (Nat.le_refl _) (zB_f Bool.false_ne_true).symm rfl rfl
        · refine j_aload_n (n := 20) dX10_test_19 rfl rfl ?_
          refine j_bipush (n := 22) (v := nI 61) dX10_test_20 rfl (by decide) ?_
          refine j_cV (n := 25) dX10_test_22 rfl sX10_256 (c_isSign (d + 2) G M X hk F p f19 f21 61 (by decide)) (by omega) (by decide) rfl rfl (Nat.le_of_ble_eq_true rfl) (hk).2.1 (by decide) (kM_lt hk) (by decide) (by decide) ?_
          refine j_if_neB (n := 28) (tg := 37) dX10_test_25 rfl rfl (fun h3 => ?_) (fun h3 => ?_)
          · refine j_aload_n (n := 38) dX10_test_37 rfl rfl ?_
            refine jm_geti (n := 41) (k := 21) (v := nI (F 21)) dX10_test_38 rfl fX10_235 hk (mf_f _ _ _ 21) ?_
            refine j_istore_n (n := 42) (lv2 := [some (.ref 160), some (.int (nI key)), some (.int (nI (F 21)))]) dX10_test_41 rfl rfl (by decide) rfl ?_
            refine j_aload_n (n := 43) dX10_test_42 rfl rfl ?_
            refine j_cVv (n := 46) dX10_test_43 rfl sX10_259 (c_nextToken d G M X hk F p T hT (by omega) hT2 (by omega) (by omega)) (by omega) (by decide) rfl rfl (Nat.le_of_ble_eq_true rfl) (hk).2.1 (by decide) (kM_lt hk) (by decide) (by decide) ?_
            refine j_aload_n (n := 47) dX10_test_46 rfl rfl ?_
            refine j_iload_n (n := 48) dX10_test_47 rfl rfl ?_
            refine j_cV (n := 51) dX10_test_48 rfl sX10_268 (hb (nextF T F) p (false, F1, p1) (c + 1) (d + 2) h hq (by unfold rmL at hr ⊢; omega)) (by omega) (by decide) rfl rfl (Nat.le_of_ble_eq_true rfl) (hk).2.1 (by decide) (kM_lt hk) (by decide) (by decide) ?_
            refine j_top (y := nI 0) (zB_f Bool.false_ne_true) ?_
            refine j_mem (M2 := mf M F1 p1) rfl ?_
            refine j_if_neN (n := 54) (tg := 56) dX10_test_51 rfl rfl (by omega) (fun h4 => ?_) (fun h4 => ?_)
            · exact absurd h4 (by decide)
            · refine j_iconst (n := 55) (v := nI 0) dX10_test_54 rfl rfl ?_
              exact j_rb dX10_test_55 rfl rfl (Nat.le_refl _) (Nat.le_refl _) (zB_f Bool.false_ne_true).symm rfl rfl
          · refine j_aload_n (n := 29) dX10_test_28 rfl rfl ?_
            refine j_bipush (n := 31) (v := nI 62) dX10_test_29 rfl (by decide) ?_
            refine j_cV (n := 34) dX10_test_31 rfl sX10_256 (c_isSign (d + 2) G M X hk F p f19 f21 62 (by decide)) (by omega) (by decide) rfl rfl (Nat.le_of_ble_eq_true rfl) (hk).2.1 (by decide) (kM_lt hk) (by decide) (by decide) ?_
            refine j_if_eqB (n := 37) (tg := 62) dX10_test_34 rfl rfl (fun h5 => ?_) (fun h5 => ?_)
            · exfalso; omega
            · refine j_aload_n (n := 38) dX10_test_37 rfl rfl ?_
              refine jm_geti (n := 41) (k := 21) (v := nI (F 21)) dX10_test_38 rfl fX10_235 hk (mf_f _ _ _ 21) ?_
              refine j_istore_n (n := 42) (lv2 := [some (.ref 160), some (.int (nI key)), some (.int (nI (F 21)))]) dX10_test_41 rfl rfl (by decide) rfl ?_
              refine j_aload_n (n := 43) dX10_test_42 rfl rfl ?_
              refine j_cVv (n := 46) dX10_test_43 rfl sX10_259 (c_nextToken d G M X hk F p T hT (by omega) hT2 (by omega) (by omega)) (by omega) (by decide) rfl rfl (Nat.le_of_ble_eq_true rfl) (hk).2.1 (by decide) (kM_lt hk) (by decide) (by decide) ?_
              refine j_aload_n (n := 47) dX10_test_46 rfl rfl ?_
              refine j_iload_n (n := 48) dX10_test_47 rfl rfl ?_
              refine j_cV (n := 51) dX10_test_48 rfl sX10_268 (hb (nextF T F) p (false, F1, p1) (c + 1) (d + 2) h hq (by unfold rmL at hr ⊢; omega)) (by omega) (by decide) rfl rfl (Nat.le_of_ble_eq_true rfl) (hk).2.1 (by decide) (kM_lt hk) (by decide) (by decide) ?_
              refine j_top (y := nI 0) (zB_f Bool.false_ne_true) ?_
              refine j_mem (M2 := mf M F1 p1) rfl ?_
              refine j_if_neN (n := 54) (tg := 56) dX10_test_51 rfl rfl (by omega) (fun h6 => ?_) (fun h6 => ?_)
              · exact absurd h6 (by decide)
              · refine j_iconst (n := 55) (v := nI 0) dX10_test_54 rfl rfl ?_
                exact j_rb dX10_test_55 rfl rfl (Nat.le_refl _) (Nat.le_refl _) (zB_f Bool.false_ne_true).symm rfl rfl
      · exact (hne _ h).elim
  · rename_i hs
    have hg : ¬ (F 19 = 3 ∧ (F 21 = 60 ∨ F 21 = 61 ∨ F 21 = 62)) := fun z => hs (by unfold sgL; exact decide_eq_true (by dsimp only; omega))
    cases h
    refine j_aload_n (n := 11) dX10_test_10 rfl rfl ?_
    refine j_bipush (n := 13) (v := nI 60) dX10_test_11 rfl (by decide) ?_
    refine j_cV (n := 16) dX10_test_13 rfl sX10_256 (c_isSign (d + 2) G M X hk F p f19 f21 60 (by decide)) (by omega) (by decide) rfl rfl (Nat.le_of_ble_eq_true rfl) (hk).2.1 (by decide) (kM_lt hk) (by decide) (by decide) ?_
    refine j_if_neB (n := 19) (tg := 37) dX10_test_16 rfl rfl (fun h1 => ?_) (fun h1 => ?_)
    · exfalso; omega
    · refine j_aload_n (n := 20) dX10_test_19 rfl rfl ?_
      refine j_bipush (n := 22) (v := nI 61) dX10_test_20 rfl (by decide) ?_
      refine j_cV (n := 25) dX10_test_22 rfl sX10_256 (c_isSign (d + 2) G M X hk F p f19 f21 61 (by decide)) (by omega) (by decide) rfl rfl (Nat.le_of_ble_eq_true rfl) (hk).2.1 (by decide) (kM_lt hk) (by decide) (by decide) ?_
      refine j_if_neB (n := 28) (tg := 37) dX10_test_25 rfl rfl (fun h2 => ?_) (fun h2 => ?_)
      · exfalso; omega
      · refine j_aload_n (n := 29) dX10_test_28 rfl rfl ?_
        refine j_bipush (n := 31) (v := nI 62) dX10_test_29 rfl (by decide) ?_
        refine j_cV (n := 34) dX10_test_31 rfl sX10_256 (c_isSign (d + 2) G M X hk F p f19 f21 62 (by decide)) (by omega) (by decide) rfl rfl (Nat.le_of_ble_eq_true rfl) (hk).2.1 (by decide) (kM_lt hk) (by decide) (by decide) ?_
        refine j_if_eqB (n := 37) (tg := 62) dX10_test_34 rfl rfl (fun h3 => ?_) (fun h3 => ?_)
        · refine j_iconst (n := 63) (v := nI 1) dX10_test_62 rfl rfl ?_
          exact j_rb dX10_test_63 rfl rfl (Nat.le_refl _) (Nat.le_refl _) (zB_t rfl).symm rfl rfl
        · exfalso; omega
theorem ee_sum {G : zG} {M : zMem} {X : zX} (hk : kM X) {T : Nat → Nat} (hT : tpN M T) (hT2 : ∀ i, T i ≤ 255) {key : Nat} (hkey : key ≤ 2) {n : Nat} (hb : cP G M X T key miX10_term n 4) (hl : lP G M X T key miX10_sum [some (.ref 160), some (.int (nI key)), none] n 13) : cP G M X T key miX10_sum (n + 1) 3 := by
  intro F p r c e h ho hr
  obtain ⟨d, rfl⟩ : ∃ d, e = d + 3 := ⟨e - 3, by unfold rmL at hr; omega⟩
  rw [pz, if_pos (by decide)] at h
  split at h
  · rename_i s1 hc
    obtain ⟨F1, p1⟩ := s1
    obtain ⟨ho1, k22, k23, k25, k16⟩ := (pz_ok hT2 key n _ _ _ c hc ho).2 rfl
    dsimp only at k22 k23 k25 k16
    refine zCall.of (lv := [some (.ref 160), some (.int (nI key)), none]) (by decide) (Nat.le_of_ble_eq_true rfl) rfl ?_
    refine j_aload_n (n := 1) dX10_sum_0 rfl rfl ?_
    refine j_iload_n (n := 2) dX10_sum_1 rfl rfl ?_
    refine j_cV (n := 5) dX10_sum_2 rfl sX10_271 (hb F p (true, F1, p1) c (d + 2) hc ho (by unfold rmL at hr ⊢; omega)) (by omega) (by decide) rfl rfl (Nat.le_of_ble_eq_true rfl) (hk).2.1 (by decide) (kM_lt hk) (by decide) (by decide) ?_
    refine j_top (y := nI 1) (zB_t rfl) ?_
    refine j_mem (M2 := mf M F1 p1) rfl ?_
    refine j_if_neN (n := 8) (tg := 10) dX10_sum_5 rfl rfl (by omega) (fun h1 => ?_) (fun h1 => ?_)
    · exact hl F1 p1 r c (d + 3) h ho1 (by unfold rmL at hr ⊢; omega)
    · exact absurd h1 (by decide)
  · rename_i hne
    obtain ⟨b, F1, p1⟩ := r
    cases b
    · refine zCall.of (lv := [some (.ref 160), some (.int (nI key)), none]) (by decide) (Nat.le_of_ble_eq_true rfl) rfl ?_
      refine j_aload_n (n := 1) dX10_sum_0 rfl rfl ?_
      refine j_iload_n (n := 2) dX10_sum_1 rfl rfl ?_
      refine j_cV (n := 5) dX10_sum_2 rfl sX10_271 (hb F p (false, F1, p1) c (d + 2) h ho (by unfold rmL at hr ⊢; omega)) (by omega) (by decide) rfl rfl (Nat.le_of_ble_eq_true rfl) (hk).2.1 (by decide) (kM_lt hk) (by decide) (by decide) ?_
      refine j_top (y := nI 0) (zB_f Bool.false_ne_true) ?_
      refine j_mem (M2 := mf M F1 p1) rfl ?_
      refine j_if_neN (n := 8) (tg := 10) dX10_sum_5 rfl rfl (by omega) (fun h1 => ?_) (fun h1 => ?_)
      · exact absurd h1 (by decide)
      · refine j_iconst (n := 9) (v := nI 0) dX10_sum_8 rfl rfl ?_
        exact j_rb dX10_sum_9 rfl rfl (Nat.le_refl _) (Nat.le_refl _) (zB_f Bool.false_ne_true).symm rfl rfl
    · exact (hne _ h).elim
theorem ll_sum {G : zG} {M : zMem} {X : zX} (hk : kM X) {T : Nat → Nat} (hT : tpN M T) (hT2 : ∀ i, T i ≤ 255) {key : Nat} (hkey : key ≤ 2) {n : Nat} (hb : cP G M X T key miX10_term n 4) (hl : lP G M X T key miX10_sum [some (.ref 160), some (.int (nI key)), none] n 13) : lP G M X T key miX10_sum [some (.ref 160), some (.int (nI key)), none] (n + 1) 13 := by
  intro F p r c e h ho hr
  obtain ⟨d, rfl⟩ : ∃ d, e = d + 3 := ⟨e - 3, by unfold rmL at hr; omega⟩
  have ho2 := ho
  obtain ⟨a1, a2, a3, a4, a5⟩ := ho2
  dsimp only at a1 a2 a3 a4 a5
  have a6 := a1
  obtain ⟨f16, f17, f18, f19, f20, f21, f0⟩ := a6
  rw [pz, if_neg (by decide), if_neg (by decide)] at h
  split at h
  · rename_i hs
    have hs2 := of_decide_eq_true hs
    dsimp only at hs2
    have hg : F 19 = 3 ∧ (F 21 = 43 ∨ F 21 = 45) := by omega
    obtain ⟨g1, g2, g3, g4, g5, g6, g7⟩ := nx_f (s := (F, p)) hT2 a1 (by dsimp only; omega)
    dsimp only at g1 g2 g3 g4 g5 g6 g7
    have hq : okP (c + 1) (nextF T F, p) := ⟨g1, by dsimp only [nx] at *; omega, by dsimp only [nx] at *; omega, by dsimp only [nx] at *; omega, by dsimp only [nx] at *; omega⟩
    dsimp only [nx] at g1 g2 g3 g4 g5 g6 g7
    split at h
    · rename_i s1 hc
      obtain ⟨F1, p1⟩ := s1
      obtain ⟨⟨o1, o2, o3, o4, o5⟩, k22, k23, k25, k16⟩ := (pz_ok hT2 key n _ _ _ (c + 1) hc hq).2 rfl
      dsimp only [nx] at o1 o2 o3 o4 o5 k22 k23 k25 k16
      have o6 := o1
      obtain ⟨q16, q17, q18, q19, q20, q21, q0⟩ := o6
      obtain ⟨b1, b2, b3, b4, b5, b6, b7, b8⟩ := stp_f (s := (F1, p1)) (w := 2) (v := F 21) o1
      dsimp only at b1 b2 b3 b4 b5 b6 b7 b8
      have hq2 : okP c (stp (F1, p1) 2 (F 21)) := ⟨b1, by omega, by omega, by omega, by omega⟩
      rw [if_neg (by decide)] at h
      refine j_aload_n (n := 11) dX10_sum_10 rfl rfl ?_
      refine j_bipush (n := 13) (v := nI 43) dX10_sum_11 rfl (by decide) ?_
      refine j_cV (n := 16) dX10_sum_13 rfl sX10_256 (c_isSign (d + 2) G M X hk F p f19 f21 43 (by decide)) (by omega) (by decide) rfl rfl (Nat.le_of_ble_eq_true rfl) (hk).2.1 (by decide) (kM_lt hk) (by decide) (by decide) ?_
      refine j_if_neB (n := 19) (tg := 28) dX10_sum_16 rfl rfl (fun h1 => ?_) (fun h1 => ?_)
      · refine j_aload_n (n := 29) dX10_sum_28 rfl rfl ?_
        refine jm_geti (n := 32) (k := 21) (v := nI (F 21)) dX10_sum_29 rfl fX10_235 hk (mf_f _ _ _ 21) ?_
        refine j_istore_n (n := 33) (lv2 := [some (.ref 160), some (.int (nI key)), some (.int (nI (F 21)))]) dX10_sum_32 rfl rfl (by decide) rfl ?_
        refine j_aload_n (n := 34) dX10_sum_33 rfl rfl ?_
        refine j_cVv (n := 37) dX10_sum_34 rfl sX10_259 (c_nextToken d G M X hk F p T hT (by omega) hT2 (by omega) (by omega)) (by omega) (by decide) rfl rfl (Nat.le_of_ble_eq_true rfl) (hk).2.1 (by decide) (kM_lt hk) (by decide) (by decide) ?_
        refine j_aload_n (n := 38) dX10_sum_37 rfl rfl ?_
        refine j_iload_n (n := 39) dX10_sum_38 rfl rfl ?_
        refine j_cV (n := 42) dX10_sum_39 rfl sX10_271 (hb (nextF T F) p (true, F1, p1) (c + 1) (d + 2) hc hq (by unfold rmL at hr ⊢; omega)) (by omega) (by decide) rfl rfl (Nat.le_of_ble_eq_true rfl) (hk).2.1 (by decide) (kM_lt hk) (by decide) (by decide) ?_
        refine j_top (y := nI 1) (zB_t rfl) ?_
        refine j_mem (M2 := mf M F1 p1) rfl ?_
        refine j_if_neN (n := 45) (tg := 47) dX10_sum_42 rfl rfl (by omega) (fun h2 => ?_) (fun h2 => ?_)
        · refine j_aload_n (n := 48) dX10_sum_47 rfl rfl ?_
          refine j_iconst (n := 49) (v := nI 2) dX10_sum_48 rfl rfl ?_
          refine j_iload_n (n := 50) dX10_sum_49 rfl rfl ?_
          refine j_cVv (n := 53) dX10_sum_50 rfl sX10_262 (c_step (d + 2) G M X hk F1 p1 (by omega) 2 (F 21)) (by omega) (by decide) rfl rfl (Nat.le_of_ble_eq_true rfl) (hk).2.1 (by decide) (kM_lt hk) (by decide) (by decide) ?_
          refine j_goto (n := 10) dX10_sum_53 rfl ?_
          refine j_wk (lv2 := [some (.ref 160), some (.int (nI key)), none]) ⟨rfl, rfl, trivial⟩ ?_
          exact hl _ _ r c (d + 3) h hq2 (by unfold rmL at hr ⊢; (try dsimp only); (repeat rw [pu_ne _ _ (by decide)]); omega)
        · exact absurd h2 (by decide)
      · refine j_aload_n (n := 20) dX10_sum_19 rfl rfl ?_
        refine j_bipush (n := 22) (v := nI 45) dX10_sum_20 rfl (by decide) ?_
        refine j_cV (n := 25) dX10_sum_22 rfl sX10_256 (c_isSign (d + 2) G M X hk F p f19 f21 45 (by decide)) (by omega) (by decide) rfl rfl (Nat.le_of_ble_eq_true rfl) (hk).2.1 (by decide) (kM_lt hk) (by decide) (by decide) ?_
        refine j_if_eqB (n := 28) (tg := 56) dX10_sum_25 rfl rfl (fun h3 => ?_) (fun h3 => ?_)
        · exfalso; omega
        · refine j_aload_n (n := 29) dX10_sum_28 rfl rfl ?_
          refine jm_geti (n := 32) (k := 21) (v := nI (F 21)) dX10_sum_29 rfl fX10_235 hk (mf_f _ _ _ 21) ?_
          refine j_istore_n (n := 33) (lv2 := [some (.ref 160), some (.int (nI key)), some (.int (nI (F 21)))]) dX10_sum_32 rfl rfl (by decide) rfl ?_
          refine j_aload_n (n := 34) dX10_sum_33 rfl rfl ?_
          refine j_cVv (n := 37) dX10_sum_34 rfl sX10_259 (c_nextToken d G M X hk F p T hT (by omega) hT2 (by omega) (by omega)) (by omega) (by decide) rfl rfl (Nat.le_of_ble_eq_true rfl) (hk).2.1 (by decide) (kM_lt hk) (by decide) (by decide) ?_
          refine j_aload_n (n := 38) dX10_sum_37 rfl rfl ?_
          refine j_iload_n (n := 39) dX10_sum_38 rfl rfl ?_
          refine j_cV (n := 42) dX10_sum_39 rfl sX10_271 (hb (nextF T F) p (true, F1, p1) (c + 1) (d + 2) hc hq (by unfold rmL at hr ⊢; omega)) (by omega) (by decide) rfl rfl (Nat.le_of_ble_eq_true rfl) (hk).2.1 (by decide) (kM_lt hk) (by decide) (by decide) ?_
          refine j_top (y := nI 1) (zB_t rfl) ?_
          refine j_mem (M2 := mf M F1 p1) rfl ?_
          refine j_if_neN (n := 45) (tg := 47) dX10_sum_42 rfl rfl (by omega) (fun h4 => ?_) (fun h4 => ?_)
          · refine j_aload_n (n := 48) dX10_sum_47 rfl rfl ?_
            refine j_iconst (n := 49) (v := nI 2) dX10_sum_48 rfl rfl ?_
            refine j_iload_n (n := 50) dX10_sum_49 rfl rfl ?_
            refine j_cVv (n := 53) dX10_sum_50 rfl sX10_262 (c_step (d + 2) G M X hk F1 p1 (by omega) 2 (F 21)) (by omega) (by decide) rfl rfl (Nat.le_of_ble_eq_true rfl) (hk).2.1 (by decide) (kM_lt hk) (by decide) (by decide) ?_
            refine j_goto (n := 10) dX10_sum_53 rfl ?_
            refine j_wk (lv2 := [some (.ref 160), some (.int (nI key)), none]) ⟨rfl, rfl, trivial⟩ ?_
            exact hl _ _ r c (d + 3) h hq2 (by unfold rmL at hr ⊢; (try dsimp only); (repeat rw [pu_ne _ _ (by decide)]); omega)
          · exact absurd h4 (by decide)
    · rename_i hne
      obtain ⟨b, F1, p1⟩ := r
      cases b
      · refine j_aload_n (n := 11) dX10_sum_10 rfl rfl ?_
        refine j_bipush (n := 13) (v := nI 43) dX10_sum_11 rfl (by decide) ?_
        refine j_cV (n := 16) dX10_sum_13 rfl sX10_256 (c_isSign (d + 2) G M X hk F p f19 f21 43 (by decide)) (by omega) (by decide) rfl rfl (Nat.le_of_ble_eq_true rfl) (hk).2.1 (by decide) (kM_lt hk) (by decide) (by decide) ?_
        refine j_if_neB (n := 19) (tg := 28) dX10_sum_16 rfl rfl (fun h1 => ?_) (fun h1 => ?_)
        · refine j_aload_n (n := 29) dX10_sum_28 rfl rfl ?_
          refine jm_geti (n := 32) (k := 21) (v := nI (F 21)) dX10_sum_29 rfl fX10_235 hk (mf_f _ _ _ 21) ?_
          refine j_istore_n (n := 33) (lv2 := [some (.ref 160), some (.int (nI key)), some (.int (nI (F 21)))]) dX10_sum_32 rfl rfl (by decide) rfl ?_
          refine j_aload_n (n := 34) dX10_sum_33 rfl rfl ?_
          refine j_cVv (n := 37) dX10_sum_34 rfl sX10_259 (c_nextToken d G M X hk F p T hT (by omega) hT2 (by omega) (by omega)) (by omega) (by decide) rfl rfl (Nat.le_of_ble_eq_true rfl) (hk).2.1 (by decide) (kM_lt hk) (by decide) (by decide) ?_
          refine j_aload_n (n := 38) dX10_sum_37 rfl rfl ?_
          refine j_iload_n (n := 39) dX10_sum_38 rfl rfl ?_
          refine j_cV (n := 42) dX10_sum_39 rfl sX10_271 (hb (nextF T F) p (false, F1, p1) (c + 1) (d + 2) h hq (by unfold rmL at hr ⊢; omega)) (by omega) (by decide) rfl rfl (Nat.le_of_ble_eq_true rfl) (hk).2.1 (by decide) (kM_lt hk) (by decide) (by decide) ?_
          refine j_top (y := nI 0) (zB_f Bool.false_ne_true) ?_
          refine j_mem (M2 := mf M F1 p1) rfl ?_
          refine j_if_neN (n := 45) (tg := 47) dX10_sum_42 rfl rfl (by omega) (fun h2 => ?_) (fun h2 => ?_)
          · exact absurd h2 (by decide)
          · refine j_iconst (n := 46) (v := nI 0) dX10_sum_45 rfl rfl ?_
            exact j_rb dX10_sum_46 rfl rfl (Nat.le_refl _) (Nat.le_refl _) (zB_f Bool.false_ne_true).symm rfl rfl
        · refine j_aload_n (n := 20) dX10_sum_19 rfl rfl ?_
          refine j_bipush (n := 22) (v := nI 45) dX10_sum_20 rfl (by decide) ?_
          refine j_cV (n := 25) dX10_sum_22 rfl sX10_256 (c_isSign (d + 2) G M X hk F p f19 f21 45 (by decide)) (by omega) (by decide) rfl rfl (Nat.le_of_ble_eq_true rfl) (hk).2.1 (by decide) (kM_lt hk) (by decide) (by decide) ?_
          refine j_if_eqB (n := 28) (tg := 56) dX10_sum_25 rfl rfl (fun h3 => ?_) (fun h3 => ?_)
          · exfalso; omega
          · refine j_aload_n (n := 29) dX10_sum_28 rfl rfl ?_
            refine jm_geti (n := 32) (k := 21) (v := nI (F 21)) dX10_sum_29 rfl fX10_235 hk (mf_f _ _ _ 21) ?_
            refine j_istore_n (n := 33) (lv2 := [some (.ref 160), some (.int (nI key)), some (.int (nI (F 21)))]) dX10_sum_32 rfl rfl (by decide) rfl ?_
            refine j_aload_n (n := 34) dX10_sum_33 rfl rfl ?_
            refine j_cVv (n := 37) dX10_sum_34 rfl sX10_259 (c_nextToken d G M X hk F p T hT (by omega) hT2 (by omega) (by omega)) (by omega) (by decide) rfl rfl (Nat.le_of_ble_eq_true rfl) (hk).2.1 (by decide) (kM_lt hk) (by decide) (by decide) ?_
            refine j_aload_n (n := 38) dX10_sum_37 rfl rfl ?_
            refine j_iload_n (n := 39) dX10_sum_38 rfl rfl ?_
            refine j_cV (n := 42) dX10_sum_39 rfl sX10_271 (hb (nextF T F) p (false, F1, p1) (c + 1) (d + 2) h hq (by unfold rmL at hr ⊢; omega)) (by omega) (by decide) rfl rfl (Nat.le_of_ble_eq_true rfl) (hk).2.1 (by decide) (kM_lt hk) (by decide) (by decide) ?_
            refine j_top (y := nI 0) (zB_f Bool.false_ne_true) ?_
            refine j_mem (M2 := mf M F1 p1) rfl ?_
            refine j_if_neN (n := 45) (tg := 47) dX10_sum_42 rfl rfl (by omega) (fun h4 => ?_) (fun h4 => ?_)
            · exact absurd h4 (by decide)
            · refine j_iconst (n := 46) (v := nI 0) dX10_sum_45 rfl rfl ?_
              exact j_rb dX10_sum_46 rfl rfl (Nat.le_refl _) (Nat.le_refl _) (zB_f Bool.false_ne_true).symm rfl rfl
      · exact (hne _ h).elim
  · rename_i hs
    have hg : ¬ (F 19 = 3 ∧ (F 21 = 43 ∨ F 21 = 45)) := fun z => hs (by unfold sgL; exact decide_eq_true (by dsimp only; omega))
    cases h
    refine j_aload_n (n := 11) dX10_sum_10 rfl rfl ?_
    refine j_bipush (n := 13) (v := nI 43) dX10_sum_11 rfl (by decide) ?_
    refine j_cV (n := 16) dX10_sum_13 rfl sX10_256 (c_isSign (d + 2) G M X hk F p f19 f21 43 (by decide)) (by omega) (by decide) rfl rfl (Nat.le_of_ble_eq_true rfl) (hk).2.1 (by decide) (kM_lt hk) (by decide) (by decide) ?_
    refine j_if_neB (n := 19) (tg := 28) dX10_sum_16 rfl rfl (fun h1 => ?_) (fun h1 => ?_)
    · exfalso; omega
    · refine j_aload_n (n := 20) dX10_sum_19 rfl rfl ?_
      refine j_bipush (n := 22) (v := nI 45) dX10_sum_20 rfl (by decide) ?_
      refine j_cV (n := 25) dX10_sum_22 rfl sX10_256 (c_isSign (d + 2) G M X hk F p f19 f21 45 (by decide)) (by omega) (by decide) rfl rfl (Nat.le_of_ble_eq_true rfl) (hk).2.1 (by decide) (kM_lt hk) (by decide) (by decide) ?_
      refine j_if_eqB (n := 28) (tg := 56) dX10_sum_25 rfl rfl (fun h2 => ?_) (fun h2 => ?_)
      · refine j_iconst (n := 57) (v := nI 1) dX10_sum_56 rfl rfl ?_
        exact j_rb dX10_sum_57 rfl rfl (Nat.le_refl _) (Nat.le_refl _) (zB_t rfl).symm rfl rfl
      · exfalso; omega
theorem ee_term {G : zG} {M : zMem} {X : zX} (hk : kM X) {T : Nat → Nat} (hT : tpN M T) (hT2 : ∀ i, T i ≤ 255) {key : Nat} (hkey : key ≤ 2) {n : Nat} (hb : cP G M X T key miX10_part0 n 5) (hl : lP G M X T key miX10_term [some (.ref 160), some (.int (nI key)), none] n 14) : cP G M X T key miX10_term (n + 1) 4 := by
  intro F p r c e h ho hr
  obtain ⟨d, rfl⟩ : ∃ d, e = d + 3 := ⟨e - 3, by unfold rmL at hr; omega⟩
  rw [pz, if_pos (by decide)] at h
  split at h
  · rename_i s1 hc
    obtain ⟨F1, p1⟩ := s1
    obtain ⟨ho1, k22, k23, k25, k16⟩ := (pz_ok hT2 key n _ _ _ c hc ho).2 rfl
    dsimp only at k22 k23 k25 k16
    refine zCall.of (lv := [some (.ref 160), some (.int (nI key)), none]) (by decide) (Nat.le_of_ble_eq_true rfl) rfl ?_
    refine j_aload_n (n := 1) dX10_term_0 rfl rfl ?_
    refine j_iload_n (n := 2) dX10_term_1 rfl rfl ?_
    refine j_cV (n := 5) dX10_term_2 rfl sX10_274 (hb F p (true, F1, p1) c (d + 2) hc ho (by unfold rmL at hr ⊢; omega)) (by omega) (by decide) rfl rfl (Nat.le_of_ble_eq_true rfl) (hk).2.1 (by decide) (kM_lt hk) (by decide) (by decide) ?_
    refine j_top (y := nI 1) (zB_t rfl) ?_
    refine j_mem (M2 := mf M F1 p1) rfl ?_
    refine j_if_neN (n := 8) (tg := 10) dX10_term_5 rfl rfl (by omega) (fun h1 => ?_) (fun h1 => ?_)
    · exact hl F1 p1 r c (d + 3) h ho1 (by unfold rmL at hr ⊢; omega)
    · exact absurd h1 (by decide)
  · rename_i hne
    obtain ⟨b, F1, p1⟩ := r
    cases b
    · refine zCall.of (lv := [some (.ref 160), some (.int (nI key)), none]) (by decide) (Nat.le_of_ble_eq_true rfl) rfl ?_
      refine j_aload_n (n := 1) dX10_term_0 rfl rfl ?_
      refine j_iload_n (n := 2) dX10_term_1 rfl rfl ?_
      refine j_cV (n := 5) dX10_term_2 rfl sX10_274 (hb F p (false, F1, p1) c (d + 2) h ho (by unfold rmL at hr ⊢; omega)) (by omega) (by decide) rfl rfl (Nat.le_of_ble_eq_true rfl) (hk).2.1 (by decide) (kM_lt hk) (by decide) (by decide) ?_
      refine j_top (y := nI 0) (zB_f Bool.false_ne_true) ?_
      refine j_mem (M2 := mf M F1 p1) rfl ?_
      refine j_if_neN (n := 8) (tg := 10) dX10_term_5 rfl rfl (by omega) (fun h1 => ?_) (fun h1 => ?_)
      · exact absurd h1 (by decide)
      · refine j_iconst (n := 9) (v := nI 0) dX10_term_8 rfl rfl ?_
        exact j_rb dX10_term_9 rfl rfl (Nat.le_refl _) (Nat.le_refl _) (zB_f Bool.false_ne_true).symm rfl rfl
    · exact (hne _ h).elim
theorem ll_term {G : zG} {M : zMem} {X : zX} (hk : kM X) {T : Nat → Nat} (hT : tpN M T) (hT2 : ∀ i, T i ≤ 255) {key : Nat} (hkey : key ≤ 2) {n : Nat} (hb : cP G M X T key miX10_part0 n 5) (hl : lP G M X T key miX10_term [some (.ref 160), some (.int (nI key)), none] n 14) : lP G M X T key miX10_term [some (.ref 160), some (.int (nI key)), none] (n + 1) 14 := by
  intro F p r c e h ho hr
  obtain ⟨d, rfl⟩ : ∃ d, e = d + 3 := ⟨e - 3, by unfold rmL at hr; omega⟩
  have ho2 := ho
  obtain ⟨a1, a2, a3, a4, a5⟩ := ho2
  dsimp only at a1 a2 a3 a4 a5
  have a6 := a1
  obtain ⟨f16, f17, f18, f19, f20, f21, f0⟩ := a6
  rw [pz, if_neg (by decide), if_neg (by decide)] at h
  split at h
  · rename_i hs
    have hs2 := of_decide_eq_true hs
    dsimp only at hs2
    have hg : F 19 = 3 ∧ (F 21 = 42 ∨ F 21 = 47) := by omega
    obtain ⟨g1, g2, g3, g4, g5, g6, g7⟩ := nx_f (s := (F, p)) hT2 a1 (by dsimp only; omega)
    dsimp only at g1 g2 g3 g4 g5 g6 g7
    have hq : okP (c + 1) (nextF T F, p) := ⟨g1, by dsimp only [nx] at *; omega, by dsimp only [nx] at *; omega, by dsimp only [nx] at *; omega, by dsimp only [nx] at *; omega⟩
    dsimp only [nx] at g1 g2 g3 g4 g5 g6 g7
    split at h
    · rename_i s1 hc
      obtain ⟨F1, p1⟩ := s1
      obtain ⟨⟨o1, o2, o3, o4, o5⟩, k22, k23, k25, k16⟩ := (pz_ok hT2 key n _ _ _ (c + 1) hc hq).2 rfl
      dsimp only [nx] at o1 o2 o3 o4 o5 k22 k23 k25 k16
      have o6 := o1
      obtain ⟨q16, q17, q18, q19, q20, q21, q0⟩ := o6
      obtain ⟨b1, b2, b3, b4, b5, b6, b7, b8⟩ := stp_f (s := (F1, p1)) (w := 2) (v := F 21) o1
      dsimp only at b1 b2 b3 b4 b5 b6 b7 b8
      have hq2 : okP c (stp (F1, p1) 2 (F 21)) := ⟨b1, by omega, by omega, by omega, by omega⟩
      rw [if_neg (by decide)] at h
      refine j_aload_n (n := 11) dX10_term_10 rfl rfl ?_
      refine j_bipush (n := 13) (v := nI 42) dX10_term_11 rfl (by decide) ?_
      refine j_cV (n := 16) dX10_term_13 rfl sX10_256 (c_isSign (d + 2) G M X hk F p f19 f21 42 (by decide)) (by omega) (by decide) rfl rfl (Nat.le_of_ble_eq_true rfl) (hk).2.1 (by decide) (kM_lt hk) (by decide) (by decide) ?_
      refine j_if_neB (n := 19) (tg := 28) dX10_term_16 rfl rfl (fun h1 => ?_) (fun h1 => ?_)
      · refine j_aload_n (n := 29) dX10_term_28 rfl rfl ?_
        refine jm_geti (n := 32) (k := 21) (v := nI (F 21)) dX10_term_29 rfl fX10_235 hk (mf_f _ _ _ 21) ?_
        refine j_istore_n (n := 33) (lv2 := [some (.ref 160), some (.int (nI key)), some (.int (nI (F 21)))]) dX10_term_32 rfl rfl (by decide) rfl ?_
        refine j_aload_n (n := 34) dX10_term_33 rfl rfl ?_
        refine j_cVv (n := 37) dX10_term_34 rfl sX10_259 (c_nextToken d G M X hk F p T hT (by omega) hT2 (by omega) (by omega)) (by omega) (by decide) rfl rfl (Nat.le_of_ble_eq_true rfl) (hk).2.1 (by decide) (kM_lt hk) (by decide) (by decide) ?_
        refine j_aload_n (n := 38) dX10_term_37 rfl rfl ?_
        refine j_iload_n (n := 39) dX10_term_38 rfl rfl ?_
        refine j_cV (n := 42) dX10_term_39 rfl sX10_274 (hb (nextF T F) p (true, F1, p1) (c + 1) (d + 2) hc hq (by unfold rmL at hr ⊢; omega)) (by omega) (by decide) rfl rfl (Nat.le_of_ble_eq_true rfl) (hk).2.1 (by decide) (kM_lt hk) (by decide) (by decide) ?_
        refine j_top (y := nI 1) (zB_t rfl) ?_
        refine j_mem (M2 := mf M F1 p1) rfl ?_
        refine j_if_neN (n := 45) (tg := 47) dX10_term_42 rfl rfl (by omega) (fun h2 => ?_) (fun h2 => ?_)
        · refine j_aload_n (n := 48) dX10_term_47 rfl rfl ?_
          refine j_iconst (n := 49) (v := nI 2) dX10_term_48 rfl rfl ?_
          refine j_iload_n (n := 50) dX10_term_49 rfl rfl ?_
          refine j_cVv (n := 53) dX10_term_50 rfl sX10_262 (c_step (d + 2) G M X hk F1 p1 (by omega) 2 (F 21)) (by omega) (by decide) rfl rfl (Nat.le_of_ble_eq_true rfl) (hk).2.1 (by decide) (kM_lt hk) (by decide) (by decide) ?_
          refine j_goto (n := 10) dX10_term_53 rfl ?_
          refine j_wk (lv2 := [some (.ref 160), some (.int (nI key)), none]) ⟨rfl, rfl, trivial⟩ ?_
          exact hl _ _ r c (d + 3) h hq2 (by unfold rmL at hr ⊢; (try dsimp only); (repeat rw [pu_ne _ _ (by decide)]); omega)
        · exact absurd h2 (by decide)
      · refine j_aload_n (n := 20) dX10_term_19 rfl rfl ?_
        refine j_bipush (n := 22) (v := nI 47) dX10_term_20 rfl (by decide) ?_
        refine j_cV (n := 25) dX10_term_22 rfl sX10_256 (c_isSign (d + 2) G M X hk F p f19 f21 47 (by decide)) (by omega) (by decide) rfl rfl (Nat.le_of_ble_eq_true rfl) (hk).2.1 (by decide) (kM_lt hk) (by decide) (by decide) ?_
        refine j_if_eqB (n := 28) (tg := 56) dX10_term_25 rfl rfl (fun h3 => ?_) (fun h3 => ?_)
        · exfalso; omega
        · refine j_aload_n (n := 29) dX10_term_28 rfl rfl ?_
          refine jm_geti (n := 32) (k := 21) (v := nI (F 21)) dX10_term_29 rfl fX10_235 hk (mf_f _ _ _ 21) ?_
          refine j_istore_n (n := 33) (lv2 := [some (.ref 160), some (.int (nI key)), some (.int (nI (F 21)))]) dX10_term_32 rfl rfl (by decide) rfl ?_
          refine j_aload_n (n := 34) dX10_term_33 rfl rfl ?_
          refine j_cVv (n := 37) dX10_term_34 rfl sX10_259 (c_nextToken d G M X hk F p T hT (by omega) hT2 (by omega) (by omega)) (by omega) (by decide) rfl rfl (Nat.le_of_ble_eq_true rfl) (hk).2.1 (by decide) (kM_lt hk) (by decide) (by decide) ?_
          refine j_aload_n (n := 38) dX10_term_37 rfl rfl ?_
          refine j_iload_n (n := 39) dX10_term_38 rfl rfl ?_
          refine j_cV (n := 42) dX10_term_39 rfl sX10_274 (hb (nextF T F) p (true, F1, p1) (c + 1) (d + 2) hc hq (by unfold rmL at hr ⊢; omega)) (by omega) (by decide) rfl rfl (Nat.le_of_ble_eq_true rfl) (hk).2.1 (by decide) (kM_lt hk) (by decide) (by decide) ?_
          refine j_top (y := nI 1) (zB_t rfl) ?_
          refine j_mem (M2 := mf M F1 p1) rfl ?_
          refine j_if_neN (n := 45) (tg := 47) dX10_term_42 rfl rfl (by omega) (fun h4 => ?_) (fun h4 => ?_)
          · refine j_aload_n (n := 48) dX10_term_47 rfl rfl ?_
            refine j_iconst (n := 49) (v := nI 2) dX10_term_48 rfl rfl ?_
            refine j_iload_n (n := 50) dX10_term_49 rfl rfl ?_
            refine j_cVv (n := 53) dX10_term_50 rfl sX10_262 (c_step (d + 2) G M X hk F1 p1 (by omega) 2 (F 21)) (by omega) (by decide) rfl rfl (Nat.le_of_ble_eq_true rfl) (hk).2.1 (by decide) (kM_lt hk) (by decide) (by decide) ?_
            refine j_goto (n := 10) dX10_term_53 rfl ?_
            refine j_wk (lv2 := [some (.ref 160), some (.int (nI key)), none]) ⟨rfl, rfl, trivial⟩ ?_
            exact hl _ _ r c (d + 3) h hq2 (by unfold rmL at hr ⊢; (try dsimp only); (repeat rw [pu_ne _ _ (by decide)]); omega)
          · exact absurd h4 (by decide)
    · rename_i hne
      obtain ⟨b, F1, p1⟩ := r
      cases b
      · refine j_aload_n (n := 11) dX10_term_10 rfl rfl ?_
        refine j_bipush (n := 13) (v := nI 42) dX10_term_11 rfl (by decide) ?_
        refine j_cV (n := 16) dX10_term_13 rfl sX10_256 (c_isSign (d + 2) G M X hk F p f19 f21 42 (by decide)) (by omega) (by decide) rfl rfl (Nat.le_of_ble_eq_true rfl) (hk).2.1 (by decide) (kM_lt hk) (by decide) (by decide) ?_
        refine j_if_neB (n := 19) (tg := 28) dX10_term_16 rfl rfl (fun h1 => ?_) (fun h1 => ?_)
        · refine j_aload_n (n := 29) dX10_term_28 rfl rfl ?_
          refine jm_geti (n := 32) (k := 21) (v := nI (F 21)) dX10_term_29 rfl fX10_235 hk (mf_f _ _ _ 21) ?_
          refine j_istore_n (n := 33) (lv2 := [some (.ref 160), some (.int (nI key)), some (.int (nI (F 21)))]) dX10_term_32 rfl rfl (by decide) rfl ?_
          refine j_aload_n (n := 34) dX10_term_33 rfl rfl ?_
          refine j_cVv (n := 37) dX10_term_34 rfl sX10_259 (c_nextToken d G M X hk F p T hT (by omega) hT2 (by omega) (by omega)) (by omega) (by decide) rfl rfl (Nat.le_of_ble_eq_true rfl) (hk).2.1 (by decide) (kM_lt hk) (by decide) (by decide) ?_
          refine j_aload_n (n := 38) dX10_term_37 rfl rfl ?_
          refine j_iload_n (n := 39) dX10_term_38 rfl rfl ?_
          refine j_cV (n := 42) dX10_term_39 rfl sX10_274 (hb (nextF T F) p (false, F1, p1) (c + 1) (d + 2) h hq (by unfold rmL at hr ⊢; omega)) (by omega) (by decide) rfl rfl (Nat.le_of_ble_eq_true rfl) (hk).2.1 (by decide) (kM_lt hk) (by decide) (by decide) ?_
          refine j_top (y := nI 0) (zB_f Bool.false_ne_true) ?_
          refine j_mem (M2 := mf M F1 p1) rfl ?_
          refine j_if_neN (n := 45) (tg := 47) dX10_term_42 rfl rfl (by omega) (fun h2 => ?_) (fun h2 => ?_)
          · exact absurd h2 (by decide)
          · refine j_iconst (n := 46) (v := nI 0) dX10_term_45 rfl rfl ?_
            exact j_rb dX10_term_46 rfl rfl (Nat.le_refl _) (Nat.le_refl _) (zB_f Bool.false_ne_true).symm rfl rfl
        · refine j_aload_n (n := 20) dX10_term_19 rfl rfl ?_
          refine j_bipush (n := 22) (v := nI 47) dX10_term_20 rfl (by decide) ?_
          refine j_cV (n := 25) dX10_term_22 rfl sX10_256 (c_isSign (d + 2) G M X hk F p f19 f21 47 (by decide)) (by omega) (by decide) rfl rfl (Nat.le_of_ble_eq_true rfl) (hk).2.1 (by decide) (kM_lt hk) (by decide) (by decide) ?_
          refine j_if_eqB (n := 28) (tg := 56) dX10_term_25 rfl rfl (fun h3 => ?_) (fun h3 => ?_)
          · exfalso; omega
          · refine j_aload_n (n := 29) dX10_term_28 rfl rfl ?_
            refine jm_geti (n := 32) (k := 21) (v := nI (F 21)) dX10_term_29 rfl fX10_235 hk (mf_f _ _ _ 21) ?_
            refine j_istore_n (n := 33) (lv2 := [some (.ref 160), some (.int (nI key)), some (.int (nI (F 21)))]) dX10_term_32 rfl rfl (by decide) rfl ?_
            refine j_aload_n (n := 34) dX10_term_33 rfl rfl ?_
            refine j_cVv (n := 37) dX10_term_34 rfl sX10_259 (c_nextToken d G M X hk F p T hT (by omega) hT2 (by omega) (by omega)) (by omega) (by decide) rfl rfl (Nat.le_of_ble_eq_true rfl) (hk).2.1 (by decide) (kM_lt hk) (by decide) (by decide) ?_
            refine j_aload_n (n := 38) dX10_term_37 rfl rfl ?_
            refine j_iload_n (n := 39) dX10_term_38 rfl rfl ?_
            refine j_cV (n := 42) dX10_term_39 rfl sX10_274 (hb (nextF T F) p (false, F1, p1) (c + 1) (d + 2) h hq (by unfold rmL at hr ⊢; omega)) (by omega) (by decide) rfl rfl (Nat.le_of_ble_eq_true rfl) (hk).2.1 (by decide) (kM_lt hk) (by decide) (by decide) ?_
            refine j_top (y := nI 0) (zB_f Bool.false_ne_true) ?_
            refine j_mem (M2 := mf M F1 p1) rfl ?_
            refine j_if_neN (n := 45) (tg := 47) dX10_term_42 rfl rfl (by omega) (fun h4 => ?_) (fun h4 => ?_)
            · exact absurd h4 (by decide)
            · refine j_iconst (n := 46) (v := nI 0) dX10_term_45 rfl rfl ?_
              exact j_rb dX10_term_46 rfl rfl (Nat.le_refl _) (Nat.le_refl _) (zB_f Bool.false_ne_true).symm rfl rfl
      · exact (hne _ h).elim
  · rename_i hs
    have hg : ¬ (F 19 = 3 ∧ (F 21 = 42 ∨ F 21 = 47)) := fun z => hs (by unfold sgL; exact decide_eq_true (by dsimp only; omega))
    cases h
    refine j_aload_n (n := 11) dX10_term_10 rfl rfl ?_
    refine j_bipush (n := 13) (v := nI 42) dX10_term_11 rfl (by decide) ?_
    refine j_cV (n := 16) dX10_term_13 rfl sX10_256 (c_isSign (d + 2) G M X hk F p f19 f21 42 (by decide)) (by omega) (by decide) rfl rfl (Nat.le_of_ble_eq_true rfl) (hk).2.1 (by decide) (kM_lt hk) (by decide) (by decide) ?_
    refine j_if_neB (n := 19) (tg := 28) dX10_term_16 rfl rfl (fun h1 => ?_) (fun h1 => ?_)
    · exfalso; omega
    · refine j_aload_n (n := 20) dX10_term_19 rfl rfl ?_
      refine j_bipush (n := 22) (v := nI 47) dX10_term_20 rfl (by decide) ?_
      refine j_cV (n := 25) dX10_term_22 rfl sX10_256 (c_isSign (d + 2) G M X hk F p f19 f21 47 (by decide)) (by omega) (by decide) rfl rfl (Nat.le_of_ble_eq_true rfl) (hk).2.1 (by decide) (kM_lt hk) (by decide) (by decide) ?_
      refine j_if_eqB (n := 28) (tg := 56) dX10_term_25 rfl rfl (fun h2 => ?_) (fun h2 => ?_)
      · refine j_iconst (n := 57) (v := nI 1) dX10_term_56 rfl rfl ?_
        exact j_rb dX10_term_57 rfl rfl (Nat.le_refl _) (Nat.le_refl _) (zB_t rfl).symm rfl rfl
      · exfalso; omega
