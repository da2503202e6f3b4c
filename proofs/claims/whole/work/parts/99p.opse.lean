-- OPS E: check, keep, back
section OPE
variable {G : zG} {mx mr : zM} {as : List Value} {M N : zMem} {X : zX} {p c f p1 c1 : Nat → Nat} {b b1 d1 d2 : Nat} {r r1 r2 : Int32}
theorem cnt_agree {e : Nat → Nat} {key : Nat} : ∀ n, (∀ t, t < n → e (100 + 200 * t) = c (100 + 200 * t)) → cnt e key n = cnt c key n
  | 0, _ => rfl
  | n + 1, h => by rw [cnt, cnt, cnt_agree n (fun t ht => h t (by omega)), h n (by omega)]
/-- texts read no further than they are long -/
theorem tx_us {B : Nat} {e : Nat → Nat} (h : tx M X B c) (h1 : e 1 = c 1) (ha : ∀ t, t < c 1 → e (100 + 200 * t) = c (100 + 200 * t) ∧ e (101 + 200 * t) = c (101 + 200 * t) ∧ e (102 + 200 * t) = c (102 + 200 * t) ∧ ∀ k, k < c (102 + 200 * t) → e (104 + 200 * t + 2 * k) = c (104 + 200 * t + 2 * k) ∧ e (104 + 200 * t + 2 * k + 1) = c (104 + 200 * t + 2 * k + 1)) : tx M X B e := by
  refine ⟨fun t ht => ?_, fun key hk => ?_⟩
  · rw [h1] at ht
    obtain ⟨a, q1, ⟨g1, g2, g3, g4, g5, g6, g7, g8, g9, g10⟩⟩ := h.1 t ht
    obtain ⟨u0, u1, u2, u3⟩ := ha t ht
    refine ⟨a, q1, g1, g2, g3, g4, ⟨g5.1, by rw [u2]; exact g5.2⟩, ⟨g6.1, by rw [u1]; exact g6.2⟩, g7, by rw [u0]; exact g8, by rw [u1]; exact g9, fun k hk => ?_⟩
    rw [u2] at hk
    rw [u0, (u3 k hk).1, (u3 k hk).2]
    exact g10 k hk
  · rw [h1, cnt_agree _ (fun t ht => (ha t ht).1)]
    exact h.2 key hk
theorem tx_lo {B : Nat} {e : Nat → Nat} (h : tx M X B c) (hw : wfT c) (ha : ∀ i, i < 2900 → e i = c i) : tx M X B e :=
  tx_us h (ha 1 (by omega)) (fun t ht => by
    have h1 := hw.1
    have h2 := (hw.2 t ht).2.2.1
    exact ⟨ha _ (by omega), ha _ (by omega), ha _ (by omega), fun k hk => ⟨ha _ (by omega), ha _ (by omega)⟩⟩)
/-- numbers as a memory keeps them -/
def cno (p : Nat → Nat) : Nat → Nat := fun i => tN (nI (p i))
theorem cno_eq {i : Nat} (h : p i < 4294967296) : cno p i = p i := tN_nI h
theorem cno_nI (i : Nat) : nI (cno p i) = nI (p i) := nI_tN _
theorem cno_lt (i : Nat) : cno p i < 4294967296 := tN_lt _
theorem cno_le (i : Nat) : cno p i ≤ p i := by
  show (BitVec.ofNat 32 (p i)).toNat ≤ p i
  rw [BitVec.toNat_ofNat]
  exact Nat.mod_le _ _
theorem cno_lv (h : lvE p c) (hw : wf p b 9999) : lvE (cno p) (cno c) := fun i hi => by
  unfold liv at hi
  rw [cno_eq (by have := hw.1.1; omega), cno_eq (by have := hw.2.1.1; omega)] at hi
  unfold cno
  rw [h i hi]
theorem cno_mm (h : mm M p = M) : mm M (cno p) = M := mm_of (by
  rw [mm_161 h]
  funext i
  exact (cno_nI i).symm)
theorem cno_cm {B : Nat} (h : cm M B c = M) : cm M B (cno c) = M := by
  funext a k
  cases hj : ix B a k with
  | none => exact cm_k hj
  | some i =>
    have := congrFun (congrFun h a) k
    rw [cm_r hj] at this
    rw [cm_r hj, cno_nI]
    exact this
theorem cno_us (hw : wfT c) {t : Nat} (ht : t < c 1) : cno c (100 + 200 * t) = c (100 + 200 * t) ∧ cno c (101 + 200 * t) = c (101 + 200 * t) ∧ cno c (102 + 200 * t) = c (102 + 200 * t) ∧ ∀ k, k < c (102 + 200 * t) → cno c (104 + 200 * t + 2 * k) = c (104 + 200 * t + 2 * k) ∧ cno c (104 + 200 * t + 2 * k + 1) = c (104 + 200 * t + 2 * k + 1) := by
  obtain ⟨h1, h2, h3, h4, h5, h6⟩ := hw.2 t ht
  exact ⟨cno_eq (by omega), cno_eq (by omega), cno_eq (by omega), fun k hk => ⟨cno_eq (by have := (h6 k hk).1; omega), cno_eq (by have := (h6 k hk).2.1; omega)⟩⟩
theorem cno_1 (hw : wfT c) : cno c 1 = c 1 := cno_eq (by have := hw.1; omega)
theorem dep_us {e : Nat → Nat} {q n : Nat} (h : ∀ k, k < n → e (q + 2 * k) = c (q + 2 * k) ∧ e (q + 2 * k + 1) = c (q + 2 * k + 1)) : ∀ k, k ≤ n → dep e q k = dep c q k
  | 0, _ => rfl
  | k + 1, hk => by rw [dep, dep, dep_us h k (by omega), (h k (by omega)).1, (h k (by omega)).2]
theorem cno_wfT (hw : wfT c) : wfT (cno c) := by
  refine ⟨by rw [cno_1 hw]; exact hw.1, fun t ht => ?_⟩
  rw [cno_1 hw] at ht
  obtain ⟨u0, u1, u2, u3⟩ := cno_us hw ht
  obtain ⟨h1, h2, h3, h4, h5, h6⟩ := hw.2 t ht
  have hd := dep_us (c := c) (e := cno c) u3
  refine ⟨by rw [u0]; exact h1, by rw [u1]; exact h2, by rw [u2]; exact h3, by rw [u2, hd _ (Nat.le_refl _)]; exact h4, fun k hk => ?_, fun k hk => ?_⟩
  · rw [u2] at hk
    rw [u1, hd k hk]
    exact h5 k hk
  · rw [u2] at hk
    rw [u0, hd k (by omega), (u3 k hk).1, (u3 k hk).2]
    exact h6 k hk
theorem cno_wf (hw : wf p b 9999) : wf (cno p) b 9999 := by
  obtain ⟨h1, h2, h3, h4, h5, h6, h7, h8, h9⟩ := hw
  have l := fun i => cno_le (p := p) i
  refine ⟨⟨Nat.le_trans (l 0) h1.1, fun k hk => ?_⟩, ⟨Nat.le_trans (l 8) h2.1, fun k hk => ?_⟩, cno_wfT h3, Nat.le_trans (l 2) h4, Nat.le_trans (l 3) h5, Nat.le_trans (l 4) h6, Nat.le_trans (l 5) h7, Nat.le_trans (l 6) h8, Nat.le_trans (l 7) h9⟩
  · rw [cno_eq (by have := h1.1; omega)] at hk
    obtain ⟨g0, g1, g2, g3, g4⟩ := h1.2 k hk
    exact ⟨Nat.le_trans (l _) g0, Nat.le_trans (l _) g1, Nat.le_trans (l _) g2, Nat.le_trans (l _) g3, Nat.le_trans (l _) g4⟩
  · rw [cno_eq (by have := h2.1; omega)] at hk
    obtain ⟨g0, g1, g2, g3, g4⟩ := h2.2 k hk
    exact ⟨Nat.le_trans (l _) g0, Nat.le_trans (l _) g1, Nat.le_trans (l _) g2, Nat.le_trans (l _) g3, Nat.le_trans (l _) g4⟩
theorem Iv_cno (h : Iv M X p c f b) : Iv M X (cno p) (cno c) f b := by
  obtain ⟨i1, i2, i3, i4, i5, i6, i7, i8⟩ := h
  have w := lvE_wf i4 i5
  exact ⟨i1, cno_mm i2, cno_cm i3, cno_lv i4 i5, cno_wf i5, tx_us i6 (cno_1 w.2.2.1) (fun t ht => cno_us w.2.2.1 ht), i7, i8⟩
theorem bk_lo (q : Nat → Nat) {i : Nat} (h : i < 2900) : bkP f q 2900 i = f i := by
  unfold bkP
  rw [if_pos h]
/-- the image, and what lies behind it -/
theorem img_bk (h : imgR M X f b) (p : Nat → Nat) : cm M 48 (bkP f p 2900) = M ∧ (¬ tN (M 16 3) = 0 → lvE (bkP (imP M) p 2900) (bkP f p 2900) ∧ wf (bkP (imP M) p 2900) b 9999 ∧ tx M X 48 (bkP f p 2900) ∧ f 0 = imP M 0) := by
  refine ⟨?_, fun hk => ?_⟩
  · rw [cm_lo (e := f) (fun i hi => bk_lo p (by omega))]
    exact h.1
  · rcases h.2 with h1 | ⟨h1, h2, h3⟩
    · exact absurd h1 hk
    · have w := wf_agree (q := bkP (imP M) p 2900) (fun i hi => bk_lo p hi) h2
      have l : lvE (bkP (imP M) p 2900) (bkP f p 2900) := fun i hi => by
        unfold liv at hi
        rw [bk_lo p (by omega), bk_lo p (by omega)] at hi
        by_cases hi2 : i < 2900
        · rw [bk_lo p hi2, bk_lo p hi2]
          exact h1 i hi2 hi
        · unfold bkP
          rw [if_neg hi2, if_neg hi2]
      have wf1 : wfT f := by
        have w2 := lvE_wf l w
        have h1w := w2.2.2.1.1
        rw [bk_lo p (by omega)] at h1w
        refine ⟨h1w, fun t ht => ?_⟩
        have := w2.2.2.1.2 t (by rw [bk_lo p (by omega)]; exact ht)
        exact wfX_agree (fun i hi => (bk_lo p hi).symm) (by omega) this
      exact ⟨l, w, tx_lo h3 wf1 (fun i hi => bk_lo p hi), h1 0 (by omega) (by unfold liv; omega)⟩
theorem fl3 (h : Ax M) : ((M 160 3).toInt = 0 ↔ tN (M 16 3) = 0) ∧ tN (M 16 3) ≤ 1 := by
  obtain ⟨q1, q2, q3, q4, q5, q6⟩ := fld_ok h
  rw [q1]
  refine ⟨?_, q6⟩
  have e : M 160 3 = nI (tN (M 160 3)) := (nI_tN _).symm
  constructor
  · intro z
    have := tN_to (x := M 160 3) (by omega)
    omega
  · intro z
    rw [e, z]
    decide
theorem op_check (hv : Iv M X p c f b) (hb : b ≤ 700000000) (n : Int32) : OpC G miX9_check miX10_check [.int n] M X (IvE b) 0 0 := by
  obtain ⟨i1, i2, i3, i4, i5, i6, i7, i8⟩ := id hv
  obtain ⟨q1, q2, q3, q4, q5, q6⟩ := fld_ok i8
  obtain ⟨g1, g2⟩ := fl3 i8
  obtain ⟨j1, j2⟩ := img_bk i7 p
  have er : r_check (bkP f p 2900) (M 16 3) (M 125) (tN (M 16 11)) n = r_check (bkP (imP M) p 2900) (M 160 3) (M 179) (tN (M 160 31)) n := by
    rw [q1, q3]
    by_cases hk : tN (M 16 3) = 0
    · unfold r_check
      refine ite_2 (fun _ => rfl) (fun _ => ?_)
      rw [if_pos (g1.mpr hk), if_pos (g1.mpr hk)]
    · obtain ⟨l, w, -, -⟩ := j2 hk
      exact rl_check l w _ _ (fun i hi => i8.2.2.1 i (by omega)) n
  have hC := k_check 0 G M X i1.1 (bkP f p 2900) b (fun z => ⟨lvE_wf (j2 z).1 (j2 z).2.1, (j2 z).2.2.1⟩) (by omega) i1.2.2.1.2.1 g2 (by rw [q3]; exact q5) n
  rw [j1] at hC
  refine ⟨_, 0 + 6, r_check (bkP (imP M) p 2900) (M 160 3) (M 179) (tN (M 160 31)) n, fun M1 X1 => (X1 = X ∨ X1 = cpX X 79 48) ∧ ∃ M2, scx (zs M 16 (upd (M 16) 11 (nI 0))) M2 ∧ M1 = cm M2 48 (bkP f p 2900), by decide, by decide, hC.post (fun v M1 X1 hq => ?_), fun M1 X1 h1 => ?_⟩
  · obtain ⟨r0, e1, e2, e3, e4⟩ := hq
    exact ⟨r0, e1, e2.trans er, e3, e4⟩
  · obtain ⟨hX, M2, s1, rfl⟩ := h1
    have hth : thX X X1 := hX.elim .inl (fun z => .inr (.inr z))
    have hk := (skX_th i1 hth).2.1
    have e1 : ∀ a, ¬ scz a → cm M2 48 (bkP f p 2900) a = zs M 16 (upd (M 16) 11 (nI 0)) a := by
      intro a ha
      funext k
      cases hj : ix 48 a k with
      | none => rw [cm_k hj, s1 a ha]
      | some i =>
        have h48 : 48 ≤ a := by rcases ix_some hj with ⟨e1, e2, e3⟩ | ⟨q, e1, e2, e3, e4⟩ | ⟨q, e1, e2, e3, e4⟩ | ⟨q, e1, e2, e3, e4⟩ <;> omega
        rw [cm_r hj, zs_ne _ _ (by omega)]
        have := congrFun (congrFun j1 a) k
        rw [cm_r hj] at this
        exact this
    have e1' : ∀ a, ¬ scz a → a ≠ 16 → cm M2 48 (bkP f p 2900) a = M a := fun a ha h16 => (e1 a ha).trans (zs_ne _ _ h16)
    have hm : mm (cm M2 48 (bkP f p 2900)) p = cm M2 48 (bkP f p 2900) := mm_of (by rw [e1' 161 (by unfold scz; omega) (by decide)]; exact mm_161 i2)
    have v160 := e1' 160 (by unfold scz; omega) (by decide)
    have v162 := e1' 162 (by unfold scz; omega) (by decide)
    have v179 := e1' 179 (by unfold scz; omega) (by decide)
    have hR := c_check 0 G (cm M2 48 (bkP f p 2900)) X1 hk p (by rw [v160]; exact q5) b (by
      rw [v160, imP_of v162]
      intro z
      rcases i7.2 with y | y
      · exact absurd (g1.mpr y) z
      · exact y.2.1) (by omega) n
    rw [hm, imP_of v162, v160, v179] at hR
    refine ⟨⟨hk.2.1, kM_lt hk⟩, hR.post (fun v M4 X4 hq => ?_)⟩
    obtain ⟨r0, k1, k2, k3, M3, k4, k5⟩ := hq
    refine ⟨r0, k1, k2, p, c, f, ?_⟩
    rw [k3]
    have e : ∀ a, a ≠ 161 → ¬ scq a → M4 a = zs (cm M2 48 (bkP f p 2900)) 160 (upd (M 160) 31 (nI 0)) a := fun a ha hq => by rw [k5, mm_ne _ _ ha]; exact k4 a hq
    have e' : ∀ a, a ≠ 161 → ¬ scq a → ¬ scz a → a ≠ 16 → a ≠ 160 → M4 a = M a := fun a h1 h2 h3 h4 h5 => by rw [e a h1 h2, zs_ne _ _ h5, e1' a h3 h4]
    have w16 : M4 16 = upd (M 16) 11 (nI 0) := by rw [e 16 (by decide) (by unfold scq; omega), zs_ne _ _ (by decide), e1 16 (by unfold scz; omega), zs_eq]
    have w160 : M4 160 = upd (M 160) 31 (nI 0) := by rw [e 160 (by decide) (by unfold scq; omega), zs_eq]
    have hA : Ax M4 := by
      refine ⟨tapR_of i8.1 (e' _ (by omega) (by unfold scq; omega) (by unfold scz; omega) (by omega) (by omega)) (e' _ (by omega) (by unfold scq; omega) (by unfold scz; omega) (by omega) (by omega)), ?_, waiR_of i8.2.2.1 (e' _ (by omega) (by unfold scq; omega) (by unfold scz; omega) (by omega) (by omega)) (e' _ (by omega) (by unfold scq; omega) (by unfold scz; omega) (by omega) (by omega)), sheR_of i8.2.2.2.1 (fun a ha => e' a (by omega) (by unfold scq; omega) (by unfold scz; omega) (by omega) (by omega)), sloR_of i8.2.2.2.2 (fun a ha => e' a (by omega) (by unfold scq; omega) (by unfold scz; omega) (by omega) (by omega))⟩
      obtain ⟨F, f1, f2, f3, f4, f5, f6, f7, f8, f9⟩ := i8.2.1
      refine ⟨pu F 31 0, ?_, ?_, ?_, ?_, ?_, ?_, ?_, ?_, ?_⟩
      · rw [w160, f1]
        funext j
        unfold upd nIf pu
        split <;> rfl
      · rw [pu_ne _ _ (by decide)]; exact f2
      · rw [pu_ne _ _ (by decide)]; exact f3
      · rw [pu_ne _ _ (by decide)]; exact f4
      · rw [pu_ne _ _ (by decide)]; exact f5
      · rw [pu_eq]; omega
      · rw [w16, upd_o _ _ (by decide), pu_ne _ _ (by decide)]; exact f7
      · rw [w16, upd_o _ _ (by decide), pu_ne _ _ (by decide)]; exact f8
      · rw [w16, upd_i, pu_eq]
    refine Iv_next hv hth (fun a ha => e' a ?_ ?_ ?_ ?_ ?_) (by rw [w16, upd_o _ _ (by decide)]) (by rw [k5]; exact zs_eq _ _ _) (cm_in i3 (fun a h1 h2 => e' a (by omega) (by unfold scq; omega) (by unfold scz; omega) (by omega) (by omega))) (nx_rf i4 i5 (Nat.le_refl _)) (Nat.le_refl _) hA
    all_goals (try unfold txA at ha); (try unfold scq); (try unfold scz); omega
theorem op_keep0 (hv : Iv M X p c f b) (hp : ∀ i, p i < 4294967296) : OpC G miX9_keep miX10_keep [] M X (IvE b) 0 0 := by
  obtain ⟨i1, i2, i3, i4, i5, i6, i7, i8⟩ := id hv
  have w := lvE_wf i4 i5
  have hC := k_keep 0 G M X i1.1 c w.1 w.2.1 i1.2.2.1.1
  rw [i3] at hC
  obtain ⟨f1, hf1⟩ : ∃ f1, f1 = asP (rdT M 48) c := ⟨_, rfl⟩
  obtain ⟨N1, hN1⟩ : ∃ N1, N1 = cm (cm (zs M 16 (upd (M 16) 3 (nI 1))) 17 c) 48 f1 := ⟨_, rfl⟩
  rw [← hf1, ← hN1] at hC
  have sk := skX_cp i1 (B := 48) (F := 17) (by omega) (by omega)
  have eo : ∀ a, ¬ (48 ≤ a ∧ a < 79) → a ≠ 16 → N1 a = M a := by
    intro a h1 h2
    rw [hN1, cm_o (ix_n (by omega))]
    have : cm (zs M 16 (upd (M 16) 3 (nI 1))) 17 c = zs M 16 (upd (M 16) 3 (nI 1)) := by rw [← cm_wo (ix_n (by omega)), i3]
    rw [this, zs_ne _ _ h2]
  have e16 : N1 16 = upd (M 16) 3 (nI 1) := by rw [hN1, cm_o (ix_n (by omega)), cm_o (ix_n (by omega)), zs_eq]
  have hm : mm N1 p = N1 := mm_of (by rw [eo 161 (by omega) (by decide)]; exact mm_161 i2)
  refine ⟨_, 0 + 1, nI (p 0), fun M1 X1 => M1 = N1 ∧ X1 = cpX X 48 17, by decide, by decide, hC.post (fun v M1 X1 h => ⟨nI (c 0), h.1, by rw [i4.n (by decide)], h.2.1, h.2.2⟩), fun M1 X1 h1 => ?_⟩
  obtain ⟨rfl, rfl⟩ := h1
  have hR := c_keep 0 G M1 (cpX X 48 17) sk.2.1 p
  rw [hm] at hR
  refine ⟨⟨sk.2.1.2.1, kM_lt sk.2.1⟩, hR.post (fun v M4 X4 h => ⟨nI (p 0), h.1, rfl, p, c, f1, ?_⟩)⟩
  obtain ⟨-, h2, h3⟩ := h
  have v160 : m_keep M1 p 160 = upd (M 160) 3 (nI 1) := by
    unfold m_keep
    rw [zs_ne _ _ (by decide), zs_eq, eo 160 (by omega) (by decide)]
  have v162 : m_keep M1 p 162 = cpF (nIf p) (M 162) 2900 := by
    unfold m_keep
    rw [zs_eq, eo 162 (by omega) (by decide)]
  have w0 : ∀ a, a ≠ 160 → a ≠ 161 → a ≠ 162 → M4 a = M1 a := fun a h1 h4 h5 => by
    rw [h2, mm_ne _ _ h4]
    unfold m_keep
    rw [zs_ne _ _ h5, zs_ne _ _ h1]
  have w160 : M4 160 = upd (M 160) 3 (nI 1) := by rw [h2, mm_ne _ _ (by decide), v160]
  have w162 : M4 162 = cpF (nIf p) (M 162) 2900 := by rw [h2, mm_ne _ _ (by decide), v162]
  have w16 : M4 16 = upd (M 16) 3 (nI 1) := by rw [w0 16 (by decide) (by decide) (by decide), e16]
  have wo : ∀ a, a ≠ 160 → a ≠ 161 → a ≠ 162 → a ≠ 16 → ¬ (48 ≤ a ∧ a < 79) → M4 a = M a := fun a h1 h4 h5 h6 h7 => (w0 a h1 h4 h5).trans (eo a h7 h6)
  have him : ∀ i, i < 2900 → imP M4 i = p i := fun i hi => by
    unfold imP
    rw [w162]
    unfold cpF
    rw [if_pos hi]
    exact tN_nI (hp i)
  have ht : ∀ a, txA a → M4 a = M a := fun a ha => wo a (by unfold txA at ha; omega) (by unfold txA at ha; omega) (by unfold txA at ha; omega) (by unfold txA at ha; omega) (by unfold txA at ha; omega)
  rw [h3]
  refine ⟨sk, mm_of (by rw [h2]; exact zs_eq _ _ _), cm_in i3 (fun a h1 h4 => wo a (by omega) (by omega) (by omega) (by omega) (by omega)), i4, i5, tx_cpX_o (tx_of i6 ht) (by omega) (by omega), ⟨?_, .inr ⟨fun i hi hl => ?_, wf_agree him i5, ?_⟩⟩, ?_⟩
  · refine cm_in (M := M1) ?_ (fun a h1 h4 => w0 a (by omega) (by omega) (by omega))
    rw [hN1]
    exact cm_cm _ _ _ _
  · unfold liv at hl
    rw [him 0 (by omega), him 8 (by omega)] at hl
    have l : lvE p f1 := by
      rw [hf1]
      exact i4.tr (lv_as _ c)
    rw [him i hi]
    exact l i hl
  · rw [hf1]
    exact tx_cpX (tx_of i6 ht) (by omega) w.2.2.1.1
  · refine ⟨tapR_of i8.1 (wo _ (by omega) (by omega) (by omega) (by omega) (by omega)) (wo _ (by omega) (by omega) (by omega) (by omega) (by omega)), ?_, waiR_of i8.2.2.1 (wo _ (by omega) (by omega) (by omega) (by omega) (by omega)) (wo _ (by omega) (by omega) (by omega) (by omega) (by omega)), sheR_of i8.2.2.2.1 (fun a ha => wo a (by omega) (by omega) (by omega) (by omega) (by omega)), sloR_of i8.2.2.2.2 (fun a ha => wo a (by omega) (by omega) (by omega) (by omega) (by omega))⟩
    obtain ⟨F, y1, y2, y3, y4, y5, y6, y7, y8, y9⟩ := i8.2.1
    refine ⟨pu F 3 1, ?_, ?_, ?_, ?_, ?_, ?_, ?_, ?_, ?_⟩
    · rw [w160, y1]
      funext j
      unfold upd nIf pu
      split <;> rfl
    · rw [pu_ne _ _ (by decide)]; exact y2
    · rw [pu_ne _ _ (by decide)]; exact y3
    · rw [pu_ne _ _ (by decide)]; exact y4
    · rw [pu_eq]; omega
    · rw [pu_ne _ _ (by decide)]; exact y6
    · rw [w16, upd_i, pu_eq]
    · rw [w16, upd_o _ _ (by decide), pu_ne _ _ (by decide)]; exact y8
    · rw [w16, upd_o _ _ (by decide), pu_ne _ _ (by decide)]; exact y9
theorem op_keep (hv : Iv M X p c f b) : OpC G miX9_keep miX10_keep [] M X (IvE b) 0 0 := op_keep0 (Iv_cno hv) (fun i => cno_lt i)
theorem op_back (hv : Iv M X p c f b) : OpC G miX9_back miX10_back [] M X (IvE b) 0 0 := by
  obtain ⟨i1, i2, i3, i4, i5, i6, i7, i8⟩ := id hv
  obtain ⟨q1, q2, q3, q4, q5, q6⟩ := fld_ok i8
  obtain ⟨g1, g2⟩ := fl3 i8
  obtain ⟨j1, j2⟩ := img_bk i7 p
  have hC := k_back 0 G M X i1.1 c (bkP f p 2900) b 9999 (fun z => lvE_wf (j2 z).1 (j2 z).2.1) i1.2.2.1.2.1 g2
  rw [j1, i3] at hC
  by_cases hk : tN (M 16 3) = 0
  · refine ⟨_, 0 + 1, cNO, fun M1 X1 => M1 = M ∧ X1 = X, by decide, by decide, hC.post (fun v M1 X1 h => ?_), fun M1 X1 h1 => ?_⟩
    · obtain ⟨r0, e1, ⟨k1, k2, k3, k4⟩ | ⟨k1, -⟩⟩ := h
      · refine ⟨r0, e1, ?_, k3, k4⟩
        rw [k2]
        unfold r_backC
        rw [if_pos hk]
      · exact absurd hk k1
    · obtain ⟨rfl, rfl⟩ := h1
      have hR := c_back 0 G M1 X1 i1.2.1 p
      rw [i2] at hR
      refine ⟨⟨i1.2.1.2.1, kM_lt i1.2.1⟩, hR.post (fun v M4 X4 h => ⟨r_back M1, h.1, ?_, p, c, f, ?_⟩)⟩
      · unfold r_back
        rw [if_pos (g1.mpr hk)]
      · rw [h.2.1, h.2.2]
        unfold q_back
        rw [if_pos (g1.mpr hk), i2]
        exact hv
  · obtain ⟨l, w, tx1, f0⟩ := j2 hk
    have hz : ¬ (M 160 3).toInt = 0 := fun z => hk (g1.mp z)
    have sk := skX_cp i1 (B := 17) (F := 48) (by omega) (by omega)
    refine ⟨_, 0 + 1, M 162 0, fun M1 X1 => M1 = cm M 17 (asP c (bkP f p 2900)) ∧ X1 = cpX X 17 48, by decide, by decide, hC.post (fun v M1 X1 h => ?_), fun M1 X1 h1 => ?_⟩
    · obtain ⟨r0, e1, ⟨k1, -⟩ | ⟨k1, k2, k3, k4⟩⟩ := h
      · exact absurd k1 hk
      · refine ⟨r0, e1, ?_, k3, k4⟩
        rw [k2]
        unfold r_backC
        rw [if_neg hk, bk_lo p (by omega), f0]
        exact nI_tN _
    · obtain ⟨hM1, rfl⟩ := h1
      have eo : ∀ a, ¬ (17 ≤ a ∧ a < 48) → M1 a = M a := fun a ha => by rw [hM1, cm_o (ix_n (by omega))]
      have hm : mm M1 p = M1 := mm_of (by rw [eo 161 (by omega)]; exact mm_161 i2)
      have hR := c_back 0 G M1 (cpX X 17 48) sk.2.1 p
      rw [hm] at hR
      refine ⟨⟨sk.2.1.2.1, kM_lt sk.2.1⟩, hR.post (fun v M4 X4 h => ⟨r_back M1, h.1, ?_, bkP (imP M) p 2900, asP c (bkP f p 2900), f, ?_⟩)⟩
      · unfold r_back
        rw [eo 160 (by omega), eo 162 (by omega), if_neg hz]
      · obtain ⟨-, h2, h3⟩ := h
        have eq : q_back M1 p = bkP (imP M) p 2900 := by
          unfold q_back
          rw [eo 160 (by omega), if_neg hz, imP_of (eo 162 (by omega))]
        rw [eq] at h2
        have wo : ∀ a, a ≠ 161 → M4 a = M1 a := fun a ha => by rw [h2, mm_ne _ _ ha]
        have w2 : ∀ a, a ≠ 161 → ¬ (17 ≤ a ∧ a < 48) → M4 a = M a := fun a h1 h4 => (wo a h1).trans (eo a h4)
        have ht : ∀ a, txA a → M4 a = M a := fun a ha => w2 a (by unfold txA at ha; omega) (by unfold txA at ha; omega)
        rw [h3]
        have wb := lvE_wf l w
        refine ⟨sk, mm_of (by rw [h2]; exact zs_eq _ _ _), cm_in (M := M1) (by rw [hM1]; exact cm_cm _ _ _ _) (fun a h1 h4 => wo a (by omega)), l.tr (lv_as _ _), w, tx_cpX (tx_of tx1 ht) (by omega) wb.2.2.1.1, ⟨cm_in i7.1 (fun a h1 h4 => w2 a (by omega) (by omega)), ?_⟩, Ax_of i8 (fun a ha => w2 a (by unfold axA at ha; omega) (by unfold axA at ha; omega))⟩
        rw [w2 16 (by decide) (by omega), imP_of (w2 162 (by decide) (by omega))]
        rcases i7.2 with y | ⟨y1, y2, y3⟩
        · exact .inl y
        · exact .inr ⟨y1, y2, tx_cpX_o (tx_of y3 ht) (by omega) (by omega)⟩
end OPE
