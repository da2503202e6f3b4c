-- OPS D: feed and lay
section OPD
variable {G : zG} {mx mr : zM} {as : List Value} {M N : zMem} {X : zX} {p c f p1 c1 : Nat → Nat} {b b1 d1 d2 : Nat} {r r1 r2 : Int32}
theorem byS (x : Int32) {m : Nat} (hm : m < 4) : byC x (24 - 8 * m) = sb (tN x / 2 ^ (24 - 8 * m) % 256) := by
  have : m = 0 ∨ m = 1 ∨ m = 2 ∨ m = 3 := by omega
  rcases this with rfl | rfl | rfl | rfl
  · exact byC_sb x (pk_ushrN (tN_lt x) (nI 24) 24 (by decide))
  · exact byC_sb x (pk_ushrN (tN_lt x) (nI 16) 16 (by decide))
  · exact byC_sb x (pk_ushrN (tN_lt x) (nI 8) 8 (by decide))
  · exact byC_sb x (pk_ushrN (tN_lt x) (nI 0) 0 (by decide))
theorem byT (x : Int32) {m : Nat} (hm : m < 4) : (x >>> (nI (24 - 8 * m) &&& 31)) &&& nI 255 = nI (tN x / 2 ^ (24 - 8 * m) % 256) := by
  have : m = 0 ∨ m = 1 ∨ m = 2 ∨ m = 3 := by omega
  rcases this with rfl | rfl | rfl | rfl
  · exact sar_lo x (s := 24) (by decide) (by decide)
  · exact sar_lo x (s := 16) (by decide) (by decide)
  · exact sar_lo x (s := 8) (by decide) (by decide)
  · exact sar_lo x (s := 0) (by decide) (by decide)
theorem f4_at {L : Nat} (h : M 16 7 = nI L) (hL : L ≤ 96) (a : Int32) : f4 M a 16 = upd (M 16) 7 (nI (L + 4)) ∧ (∀ q, q ≠ 16 → q ≠ 122 → f4 M a q = M q) ∧ ∀ i, f4 M a 122 i = if L ≤ i ∧ i < L + 4 then byC a (24 - 8 * (i - L)) else M 122 i := by
  have e : tN (M 16 7) = L := by rw [h]; exact tN_nI (by omega)
  unfold f4
  rw [e]
  refine ⟨zs_eq _ _ _, fun q h1 h2 => by rw [zs_ne _ _ h1, zs_ne _ _ h2], fun i => ?_⟩
  rw [zs_ne _ _ (by decide), zs_eq]
  unfold upd
  by_cases h3 : i = L + 3
  · rw [if_pos h3, if_pos (by omega), show 24 - 8 * (i - L) = 0 by omega]
  · rw [if_neg h3]
    by_cases h2 : i = L + 2
    · rw [if_pos h2, if_pos (by omega), show 24 - 8 * (i - L) = 8 by omega]
    · rw [if_neg h2]
      by_cases h1 : i = L + 1
      · rw [if_pos h1, if_pos (by omega), show 24 - 8 * (i - L) = 16 by omega]
      · rw [if_neg h1]
        by_cases h0 : i = L
        · rw [if_pos h0, if_pos (by omega), show 24 - 8 * (i - L) = 24 by omega]
        · rw [if_neg h0, if_neg (by omega)]
def fdX (x y z : Int32) (k : Nat) : Int32 := if k < 4 then x else if k < 8 then y else z
theorem f12 {L : Nat} (h : M 16 7 = nI L) (hL : L + 12 ≤ 96) (x y z : Int32) : (f4 (f4 (f4 M x) y) z 16 7 = nI (L + 12) ∧ ∀ k, k ≠ 7 → f4 (f4 (f4 M x) y) z 16 k = M 16 k) ∧ (∀ q, q ≠ 16 → q ≠ 122 → f4 (f4 (f4 M x) y) z q = M q) ∧ ∀ i, f4 (f4 (f4 M x) y) z 122 i = if L ≤ i ∧ i < L + 12 then byC (fdX x y z (i - L)) (24 - 8 * ((i - L) % 4)) else M 122 i := by
  obtain ⟨a1, a2, a3⟩ := f4_at h (by omega) x
  have h1 : f4 M x 16 7 = nI (L + 4) := by rw [a1, upd_i]
  obtain ⟨b1, b2, b3⟩ := f4_at h1 (by omega) y
  have h2 : f4 (f4 M x) y 16 7 = nI (L + 4 + 4) := by rw [b1, upd_i]
  obtain ⟨c1, c2, c3⟩ := f4_at h2 (by omega) z
  refine ⟨⟨by rw [c1, upd_i], fun k hk => by rw [c1, upd_o _ _ hk, b1, upd_o _ _ hk, a1, upd_o _ _ hk]⟩, fun q h3 h4 => by rw [c2 q h3 h4, b2 q h3 h4, a2 q h3 h4], fun i => ?_⟩
  rw [c3, b3, a3]
  unfold fdX
  by_cases g3 : L + 4 + 4 ≤ i ∧ i < L + 4 + 4 + 4
  · rw [if_pos g3, if_pos (by omega), if_neg (by omega), if_neg (by omega), show (i - L) % 4 = i - (L + 4 + 4) by omega]
  · rw [if_neg g3]
    by_cases g2 : L + 4 ≤ i ∧ i < L + 4 + 4
    · rw [if_pos g2, if_pos (by omega), if_neg (by omega), if_pos (by omega), show (i - L) % 4 = i - (L + 4) by omega]
    · rw [if_neg g2]
      by_cases g1 : L ≤ i ∧ i < L + 4
      · rw [if_pos g1, if_pos (by omega), if_pos (by omega), show (i - L) % 4 = i - L by omega]
      · rw [if_neg g1, if_neg (by omega)]
theorem Ax_feed (h : Ax M) (x y z : Int32) : mC_feed M x y z 161 = M 161 ∧ mC_feed M x y z 160 = M 160 ∧ (∀ a, ¬ (a = 16 ∨ a = 122 ∨ a = 160 ∨ a = 175) → m_feed (mC_feed M x y z) x y z a = M a) ∧ m_feed (mC_feed M x y z) x y z 16 3 = M 16 3 ∧ fldR (m_feed (mC_feed M x y z) x y z) ∧ tapR (m_feed (mC_feed M x y z) x y z) := by
  obtain ⟨q1, q2, q3, q4, q5, q6⟩ := fld_ok h
  obtain ⟨F, f1, f2, f3, f4', f5, f6, f7, f8, f9⟩ := h.2.1
  have hF : tN (M 160 16) = F 16 := by
    rw [f1]
    exact tN_nI (by omega)
  by_cases g : 96 < tN (M 160 16) + 12
  · have e1 : mC_feed M x y z = M := by
      unfold mC_feed
      rw [q2, if_pos g]
    have e2 : m_feed M x y z = M := by
      unfold m_feed
      rw [if_pos g]
    rw [e1, e2]
    exact ⟨rfl, rfl, fun _ _ => rfl, rfl, h.2.1, h.1⟩
  · have e1 : mC_feed M x y z = f4 (f4 (f4 M x) y) z := by
      unfold mC_feed
      rw [q2, if_neg g]
    rw [hF] at g
    obtain ⟨⟨k1, k2⟩, k3, k4⟩ := f12 f8 (by omega) x y z
    rw [← e1] at k1 k2 k3 k4
    have e2 : m_feed (mC_feed M x y z) x y z = zs (zs (mC_feed M x y z) 175 (tpF (M 175) (F 16) (bytV x y z) 12)) 160 (upd (M 160) 16 (nI (F 16 + 12))) := by
      unfold m_feed mF
      rw [k3 160 (by decide) (by decide), k3 175 (by decide) (by decide), hF, if_neg g]
    refine ⟨k3 161 (by decide) (by decide), k3 160 (by decide) (by decide), fun a ha => ?_, ?_, ?_, ?_⟩
    · rw [e2, zs_ne _ _ (by omega), zs_ne _ _ (by omega), k3 a (by omega) (by omega)]
    · rw [e2, zs_ne _ _ (by decide), zs_ne _ _ (by decide), k2 3 (by decide)]
    · refine ⟨pu F 16 (F 16 + 12), ?_, ?_, ?_, ?_, ?_, ?_, ?_, ?_, ?_⟩
      · rw [e2, zs_eq, f1]
        funext j
        unfold upd nIf pu
        split <;> rfl
      · rw [pu_eq]; omega
      · rw [pu_ne _ _ (by decide)]; exact f3
      · rw [pu_ne _ _ (by decide)]; exact f4'
      · rw [pu_ne _ _ (by decide)]; exact f5
      · rw [pu_ne _ _ (by decide)]; exact f6
      · rw [e2, zs_ne _ _ (by decide), zs_ne _ _ (by decide), k2 3 (by decide), pu_ne _ _ (by decide)]; exact f7
      · rw [e2, zs_ne _ _ (by decide), zs_ne _ _ (by decide), k1, pu_eq]
      · rw [e2, zs_ne _ _ (by decide), zs_ne _ _ (by decide), k2 11 (by decide), pu_ne _ _ (by decide)]; exact f9
    · obtain ⟨T, t1, t2, t3⟩ := h.1
      have hT : ∀ i, (if F 16 ≤ i ∧ i < F 16 + 12 then tN (fdX x y z (i - F 16)) / 2 ^ (24 - 8 * ((i - F 16) % 4)) % 256 else T i) ≤ 255 := by
        intro i
        split
        · have := Nat.mod_lt (tN (fdX x y z (i - F 16)) / 2 ^ (24 - 8 * ((i - F 16) % 4))) (show 256 > 0 by decide)
          omega
        · exact t1 i
      refine ⟨fun i => if F 16 ≤ i ∧ i < F 16 + 12 then tN (fdX x y z (i - F 16)) / 2 ^ (24 - 8 * ((i - F 16) % 4)) % 256 else T i, hT, fun i hi => ⟨?_, hT i⟩, fun i hi => ?_⟩
      · rw [e2, zs_ne _ _ (by decide), zs_eq]
        unfold tpF
        by_cases gi : F 16 ≤ i ∧ i < F 16 + 12
        · rw [if_pos gi]
          dsimp only
          rw [if_pos gi]
          exact byT (fdX x y z (i - F 16)) (Nat.mod_lt _ (by decide))
        · rw [if_neg gi]
          dsimp only
          rw [if_neg gi]
          exact (t2 i hi).1
      · rw [e2, zs_ne _ _ (by decide), zs_ne _ _ (by decide), k4]
        by_cases gi : F 16 ≤ i ∧ i < F 16 + 12
        · rw [if_pos gi]
          dsimp only
          rw [if_pos gi]
          exact byS (fdX x y z (i - F 16)) (Nat.mod_lt _ (by decide))
        · rw [if_neg gi]
          dsimp only
          rw [if_neg gi]
          exact t3 i hi
theorem op_feed (hv : Iv M X p c f b) (x y z : Int32) : OpC G miX9_feed miX10_feed [.int x, .int y, .int z] M X (IvE b) 0 0 := by
  obtain ⟨i1, i2, i3, i4, i5, i6, i7, i8⟩ := id hv
  obtain ⟨q1, q2, q3, q4, q5, q6⟩ := fld_ok i8
  obtain ⟨a1, a6, a2, a3, a4, a5⟩ := Ax_feed i8 x y z
  have ef : ∀ a, ¬ axA a → m_feed (mC_feed M x y z) x y z a = M a := fun a ha => a2 a (by unfold axA at ha; omega)
  exact op_A hv (by decide) (by decide) (k_feed 0 G M X i1.1 (by rw [q2]; exact q4) x y z) a1 (fun hm => rfA hm (c_feed 0 G _ X i1.2.1 p (by rw [a6]; exact q4) x y z)) ef a3 ⟨a5, a4, waiR_of i8.2.2.1 (a2 _ (by omega)) (a2 _ (by omega)), sheR_of i8.2.2.2.1 (fun a ha => a2 a (by omega)), sloR_of i8.2.2.2.2 (fun a ha => a2 a (by omega))⟩ (by rw [a6, q2])
/-- one slot's cells -/
def sloT (M : zMem) (i : Nat) : Prop := M (135 + 5 * i) 0 = M 167 i ∧ tN (M 167 i) ≤ 3 ∧ tN (M 170 i) ≤ 24 ∧ tN (M (138 + 5 * i) 1) ≤ 24 ∧
  (tN (M 167 i) = 1 → M (136 + 5 * i) 0 = M 168 i ∧ tN (M 168 i) ≤ 5 ∧ (tN (M (136 + 5 * i + 1) 0) ≤ 99 ∧ tN (M (136 + 5 * i + 1) 1) ≤ 99 ∧ tN (M (136 + 5 * i + 1) 2) ≤ 99) ∧ slW M i = M 169 i) ∧
  (tN (M 167 i) = 2 → M (138 + 5 * i) 1 = M 170 i ∧ ∀ j, j < 24 → M (138 + 5 * i + 1) j = M 171 (24 * i + j)) ∧ (tN (M 167 i) = 3 → M (135 + 5 * i) 3 = M 168 i)
theorem slo_put (h : sloR M) {t : Nat} (e : ∀ a, (135 ≤ a ∧ a < 135 + 5 * t) ∨ (140 + 5 * t ≤ a ∧ a < 160) → N a = M a) (e7 : ∀ q, q = 167 ∨ q = 168 ∨ q = 169 ∨ q = 170 → ∀ j, j ≠ t → N q j = M q j) (e8 : ∀ j, (j < 24 * t ∨ 24 * t + 24 ≤ j) → N 171 j = M 171 j) (ok : sloT N t) : sloR N := fun i hi => by
  by_cases ht : i = t
  · rw [ht]; exact ok
  · obtain ⟨h1, h2, h3, h4, h5, h6, h7⟩ := h i hi
    rw [slW_of (M := M) (e _ (by omega)) (e _ (by omega)), e (135 + 5 * i) (by omega), e (136 + 5 * i) (by omega), e (136 + 5 * i + 1) (by omega), e (138 + 5 * i) (by omega), e (138 + 5 * i + 1) (by omega), e7 167 (by omega) i ht, e7 168 (by omega) i ht, e7 169 (by omega) i ht, e7 170 (by omega) i ht]
    refine ⟨h1, h2, h3, h4, h5, fun z => ⟨(h6 z).1, fun j hj => ?_⟩, h7⟩
    rw [e8 _ (by omega)]
    exact (h6 z).2 j hj
theorem Ax_lay (h : Ax M) (hl : lvE p c) (hO : wfO p) (s th k : Int32) : (mC_lay M c s th k 164 = M 164 ∧ mC_lay M c s th k 165 = M 165 ∧ mC_lay M c s th k 161 = M 161 ∧ ∀ a, 17 ≤ a → a < 48 → mC_lay M c s th k a = M a) ∧ r_lay c s th k (M (127 + 2 * tN k) 0) (M (135 + 5 * tN s) 0) = r_lay p s th k (mC_lay M c s th k 164 (tN k)) (mC_lay M c s th k 167 (tN s)) ∧ (∀ a, ¬ ((135 ≤ a ∧ a < 160) ∨ (167 ≤ a ∧ a ≤ 171)) → m_lay (mC_lay M c s th k) p s th k a = M a) ∧ sloR (m_lay (mC_lay M c s th k) p s th k) := by
  have c0 := hl.n (show 0 < 10 by decide)
  by_cases g1 : ¬ ((0 ≤ s.toInt ∧ s.toInt ≤ 4) ∧ (th.toInt = 0 ∨ th.toInt = 3 ∨ (th.toInt = 1 ∧ 0 ≤ k.toInt ∧ k.toInt ≤ (p 0 : Int) - 1) ∨ (th.toInt = 2 ∧ 0 ≤ k.toInt ∧ k.toInt ≤ 3)))
  · have e1 : mC_lay M c s th k = M := by
      unfold mC_lay
      rw [c0, if_pos g1]
    have e2 : m_lay M p s th k = M := by
      unfold m_lay
      rw [if_pos g1]
    rw [e1, e2]
    refine ⟨⟨rfl, rfl, rfl, fun _ _ _ => rfl⟩, ?_, fun _ _ => rfl, h.2.2.2.2⟩
    unfold r_lay
    rw [c0, if_pos g1, if_pos g1]
  · have g := Decidable.not_not.1 g1
    obtain ⟨ht, h0, -, -, -⟩ := slo_ok h g.1
    have hsh : th.toInt = 2 → tN k < 4 ∧ M (127 + 2 * tN k) 0 = M 164 (tN k) := fun z => by
      have := she_ok h (s := k) (by omega)
      exact ⟨this.1, this.2.1⟩
    have er : r_lay c s th k (M (127 + 2 * tN k) 0) (M (135 + 5 * tN s) 0) = r_lay p s th k (M 164 (tN k)) (M 167 (tN s)) := by
      unfold r_lay
      rw [c0, if_neg g1, if_neg g1, h0]
      by_cases z : th.toInt = 2
      · rw [(hsh z).2]
      · rw [if_neg (fun y => z y.1), if_neg (fun y => z y.1)]
    have eq2 : (th.toInt = 2 ∧ (M (127 + 2 * tN k) 0).toInt < 0) ↔ (th.toInt = 2 ∧ (M 164 (tN k)).toInt < 0) := by
      constructor
      · exact fun z => ⟨z.1, by rw [← (hsh z.1).2]; exact z.2⟩
      · exact fun z => ⟨z.1, by rw [(hsh z.1).2]; exact z.2⟩
    by_cases g2 : th.toInt = 2 ∧ (M 164 (tN k)).toInt < 0
    · have e1 : mC_lay M c s th k = M := by
        unfold mC_lay
        rw [c0, if_neg g1, if_pos (eq2.mpr g2)]
      have e2 : m_lay M p s th k = M := by
        unfold m_lay
        rw [if_neg g1, if_pos g2]
      rw [e1, e2]
      exact ⟨⟨rfl, rfl, rfl, fun _ _ _ => rfl⟩, er, fun _ _ => rfl, h.2.2.2.2⟩
    · have g2c : ¬ (th.toInt = 2 ∧ (M (127 + 2 * tN k) 0).toInt < 0) := fun z => g2 (eq2.mp z)
      by_cases g3 : th.toInt = 2
      · obtain ⟨hk, hk0⟩ := hsh g3
        obtain ⟨w1, w2, w3, w4, w5⟩ := h.2.2.2.1 _ hk
        have hth := tN_to (x := th) (by omega)
        obtain ⟨D, hD⟩ : ∃ D, D = mC_lay M c s th k := ⟨_, rfl⟩
        have eD : D = zs (zs (zs M (135 + 5 * tN s) (upd (M (135 + 5 * tN s)) 0 th)) (138 + 5 * tN s) (upd (upd (M (138 + 5 * tN s)) 0 (M (127 + 2 * tN k) 0)) 1 (M (127 + 2 * tN k) 1))) (138 + 5 * tN s + 1) (va_cpy (M (127 + 2 * tN k + 1)) (M (138 + 5 * tN s + 1)) 0 0 24) := by
          rw [hD]
          unfold mC_lay
          rw [c0, if_neg g1, if_neg g2c, if_pos g3]
          unfold asS
          rw [zs_ne _ _ (show 127 + 2 * tN k ≠ 135 + 5 * tN s by omega), zs_ne _ _ (show 127 + 2 * tN k + 1 ≠ 135 + 5 * tN s by omega), zs_ne _ _ (show 138 + 5 * tN s ≠ 135 + 5 * tN s by omega), zs_ne _ _ (show 138 + 5 * tN s + 1 ≠ 135 + 5 * tN s by omega)]
        have eb : ∀ a, ¬ (135 + 5 * tN s ≤ a ∧ a < 140 + 5 * tN s) → D a = M a := fun a ha => by rw [eD, zs_ne _ _ (by omega), zs_ne _ _ (by omega), zs_ne _ _ (by omega)]
        have e2 : m_lay D p s th k = zs (zs (zs (zs (zs D 167 (upd (M 167) (tN s) th)) 168 (upd (M 168) (tN s) k)) 169 (upd (M 169) (tN s) (nI 0))) 170 (upd (M 170) (tN s) (M 165 (tN k)))) 171 (cyF (M 171) (M 166) (24 * tN s) (24 * tN k) 24) := by
          unfold m_lay
          rw [eb 164 (by omega), eb 165 (by omega), eb 166 (by omega), eb 167 (by omega), eb 168 (by omega), eb 169 (by omega), eb 170 (by omega), eb 171 (by omega), if_neg g1, if_neg g2, if_pos g3]
        rw [← hD]
        refine ⟨⟨eb 164 (by omega), eb 165 (by omega), eb 161 (by omega), fun a h1 h2 => eb a (by omega)⟩, by rw [eb 164 (by omega), eb 167 (by omega)]; exact er, fun a ha => ?_, ?_⟩
        · rw [e2, zs_ne _ _ (by omega), zs_ne _ _ (by omega), zs_ne _ _ (by omega), zs_ne _ _ (by omega), zs_ne _ _ (by omega), eb a (by omega)]
        · have lo : ∀ a, a < 160 → m_lay D p s th k a = D a := fun a ha => by rw [e2, zs_ne _ _ (by omega), zs_ne _ _ (by omega), zs_ne _ _ (by omega), zs_ne _ _ (by omega), zs_ne _ _ (by omega)]
          have v7 : m_lay D p s th k 167 = upd (M 167) (tN s) th := by rw [e2, zs_ne _ _ (by omega), zs_ne _ _ (by omega), zs_ne _ _ (by omega), zs_ne _ _ (by omega), zs_eq]
          have v8 : m_lay D p s th k 168 = upd (M 168) (tN s) k := by rw [e2, zs_ne _ _ (by omega), zs_ne _ _ (by omega), zs_ne _ _ (by omega), zs_eq]
          have v9 : m_lay D p s th k 169 = upd (M 169) (tN s) (nI 0) := by rw [e2, zs_ne _ _ (by omega), zs_ne _ _ (by omega), zs_eq]
          have v10 : m_lay D p s th k 170 = upd (M 170) (tN s) (M 165 (tN k)) := by rw [e2, zs_ne _ _ (by omega), zs_eq]
          have v11 : m_lay D p s th k 171 = cyF (M 171) (M 166) (24 * tN s) (24 * tN k) 24 := by rw [e2, zs_eq]
          refine slo_put h.2.2.2.2 (t := tN s) (fun a ha => by rw [lo a (by omega), eb a (by omega)]) (fun q hq j hj => ?_) (fun j hj => ?_) ?_
          · rcases hq with rfl | rfl | rfl | rfl
            · rw [v7, upd_o _ _ hj]
            · rw [v8, upd_o _ _ hj]
            · rw [v9, upd_o _ _ hj]
            · rw [v10, upd_o _ _ hj]
          · rw [v11]
            unfold cyF
            rw [if_neg (by omega)]
          · unfold sloT
            rw [v7, v8, v9, v10, v11, upd_i, upd_i, upd_i, upd_i, lo (135 + 5 * tN s) (by omega), lo (138 + 5 * tN s) (by omega), lo (138 + 5 * tN s + 1) (by omega)]
            have d5 : D (135 + 5 * tN s) = upd (M (135 + 5 * tN s)) 0 th := by rw [eD, zs_ne _ _ (by omega), zs_ne _ _ (by omega), zs_eq]
            have d8 : D (138 + 5 * tN s) = upd (upd (M (138 + 5 * tN s)) 0 (M (127 + 2 * tN k) 0)) 1 (M (127 + 2 * tN k) 1) := by rw [eD, zs_ne _ _ (by omega), zs_eq]
            have d9 : D (138 + 5 * tN s + 1) = va_cpy (M (127 + 2 * tN k + 1)) (M (138 + 5 * tN s + 1)) 0 0 24 := by rw [eD, zs_eq]
            rw [d5, d8, d9, upd_i, upd_i]
            refine ⟨rfl, by omega, w4, by rw [w2]; exact w4, fun z => by omega, fun _ => ⟨w2, fun j hj => ?_⟩, fun z => by omega⟩
            unfold va_cpy cyF
            rw [if_pos (by omega), if_pos (by omega), show 0 + (j - 0) = j by omega, show 24 * tN k + (24 * tN s + j - 24 * tN s) = 24 * tN k + j by omega]
            exact w5 j hj
      · by_cases g4 : th.toInt = 1
        · have hk : tN k < p 0 := okI (by omega)
          have hp0 := hO.1
          have hth := tN_to (x := th) (by omega)
          obtain ⟨b0, b1, b2, b3, b4⟩ := hO.2 _ hk
          obtain ⟨D, hD⟩ : ∃ D, D = mC_lay M c s th k := ⟨_, rfl⟩
          have eD : D = zs (zs (zs M (135 + 5 * tN s) (upd (M (135 + 5 * tN s)) 0 th)) (136 + 5 * tN s) (upd (upd (M (136 + 5 * tN s)) 0 (nI (p (10 + 5 * tN k + 0)))) 1 (nI (p (10 + 5 * tN k + 1))))) (136 + 5 * tN s + 1) (upd (upd (upd (M (136 + 5 * tN s + 1)) 0 (nI (p (10 + 5 * tN k + 2)))) 1 (nI (p (10 + 5 * tN k + 3)))) 2 (nI (p (10 + 5 * tN k + 4)))) := by
            rw [hD]
            unfold mC_lay
            rw [c0, if_neg g1, if_neg g2c, if_neg g3, if_pos g4, hl.o hp0 hk (show 0 < 5 by decide), hl.o hp0 hk (show 1 < 5 by decide), hl.o hp0 hk (show 2 < 5 by decide), hl.o hp0 hk (show 3 < 5 by decide), hl.o hp0 hk (show 4 < 5 by decide)]
            unfold beP
            rw [zs_ne _ _ (show 136 + 5 * tN s ≠ 135 + 5 * tN s by omega), zs_ne _ _ (show 136 + 5 * tN s + 1 ≠ 135 + 5 * tN s by omega)]
          have eb : ∀ a, ¬ (135 + 5 * tN s ≤ a ∧ a < 140 + 5 * tN s) → D a = M a := fun a ha => by rw [eD, zs_ne _ _ (by omega), zs_ne _ _ (by omega), zs_ne _ _ (by omega)]
          have e2 : m_lay D p s th k = zs (zs (zs D 167 (upd (M 167) (tN s) th)) 168 (upd (M 168) (tN s) (nI (p (10 + 5 * tN k + 0))))) 169 (upd (M 169) (tN s) (worthN (p (10 + 5 * tN k + 0)) (regsP p (tN k)))) := by
            unfold m_lay
            rw [eb 164 (by omega), eb 165 (by omega), eb 166 (by omega), eb 167 (by omega), eb 168 (by omega), eb 169 (by omega), eb 170 (by omega), eb 171 (by omega), if_neg g1, if_neg g2, if_neg g3, if_pos g4]
          rw [← hD]
          refine ⟨⟨eb 164 (by omega), eb 165 (by omega), eb 161 (by omega), fun a h1 h2 => eb a (by omega)⟩, by rw [eb 164 (by omega), eb 167 (by omega)]; exact er, fun a ha => ?_, ?_⟩
          · rw [e2, zs_ne _ _ (by omega), zs_ne _ _ (by omega), zs_ne _ _ (by omega), eb a (by omega)]
          · have lo : ∀ a, a ≠ 167 → a ≠ 168 → a ≠ 169 → m_lay D p s th k a = D a := fun a h7 h8 h9 => by rw [e2, zs_ne _ _ h9, zs_ne _ _ h8, zs_ne _ _ h7]
            have v7 : m_lay D p s th k 167 = upd (M 167) (tN s) th := by rw [e2, zs_ne _ _ (by omega), zs_ne _ _ (by omega), zs_eq]
            have v8 : m_lay D p s th k 168 = upd (M 168) (tN s) (nI (p (10 + 5 * tN k + 0))) := by rw [e2, zs_ne _ _ (by omega), zs_eq]
            have v9 : m_lay D p s th k 169 = upd (M 169) (tN s) (worthN (p (10 + 5 * tN k + 0)) (regsP p (tN k))) := by rw [e2, zs_eq]
            have v10 : m_lay D p s th k 170 = M 170 := by rw [lo 170 (by omega) (by omega) (by omega), eb 170 (by omega)]
            refine slo_put h.2.2.2.2 (t := tN s) (fun a ha => by rw [lo a (by omega) (by omega) (by omega), eb a (by omega)]) (fun q hq j hj => ?_) (fun j hj => by rw [lo 171 (by omega) (by omega) (by omega), eb 171 (by omega)]) ?_
            · rcases hq with rfl | rfl | rfl | rfl
              · rw [v7, upd_o _ _ hj]
              · rw [v8, upd_o _ _ hj]
              · rw [v9, upd_o _ _ hj]
              · rw [v10]
            · obtain ⟨o1, o2, o3, o4, o5, o6, o7⟩ := h.2.2.2.2 _ ht
              have d5 : m_lay D p s th k (135 + 5 * tN s) = upd (M (135 + 5 * tN s)) 0 th := by rw [lo _ (by omega) (by omega) (by omega), eD, zs_ne _ _ (by omega), zs_ne _ _ (by omega), zs_eq]
              have d6 : m_lay D p s th k (136 + 5 * tN s) = upd (upd (M (136 + 5 * tN s)) 0 (nI (p (10 + 5 * tN k + 0)))) 1 (nI (p (10 + 5 * tN k + 1))) := by rw [lo _ (by omega) (by omega) (by omega), eD, zs_ne _ _ (by omega), zs_eq]
              have d7 : m_lay D p s th k (136 + 5 * tN s + 1) = upd (upd (upd (M (136 + 5 * tN s + 1)) 0 (nI (p (10 + 5 * tN k + 2)))) 1 (nI (p (10 + 5 * tN k + 3)))) 2 (nI (p (10 + 5 * tN k + 4))) := by rw [lo _ (by omega) (by omega) (by omega), eD, zs_eq]
              have d8 : m_lay D p s th k (138 + 5 * tN s) = M (138 + 5 * tN s) := by rw [lo _ (by omega) (by omega) (by omega), eD, zs_ne _ _ (by omega), zs_ne _ _ (by omega), zs_ne _ _ (by omega)]
              unfold sloT slW
              rw [v7, v8, v9, v10, d5, d6, d7, d8, upd_i, upd_i, upd_i, upd_i]
              have u0 : ∀ q : Nat → Int32, ∀ x y : Int32, upd (upd q 0 x) 1 y 0 = x := fun q x y => rfl
              have u1 : ∀ q : Nat → Int32, ∀ x y z : Int32, upd (upd (upd q 0 x) 1 y) 2 z 0 = x ∧ upd (upd (upd q 0 x) 1 y) 2 z 1 = y ∧ upd (upd (upd q 0 x) 1 y) 2 z 2 = z := fun q x y z => ⟨rfl, rfl, rfl⟩
              rw [u0, (u1 _ _ _ _).1, (u1 _ _ _ _).2.1, tN_nI (by omega), tN_nI (by omega), tN_nI (by omega), tN_nI (by omega)]
              exact ⟨rfl, by omega, o3, o4, fun _ => ⟨rfl, b0, ⟨b2, b3, b4⟩, (upd_i _ _ _).symm⟩, fun z => by omega, fun z => by omega⟩
        · have hth := tN_to (x := th) (by omega)
          obtain ⟨D, hD⟩ : ∃ D, D = mC_lay M c s th k := ⟨_, rfl⟩
          have eD : D = zs M (135 + 5 * tN s) (upd (upd (M (135 + 5 * tN s)) 0 th) 3 k) := by
            rw [hD]
            unfold mC_lay
            rw [c0, if_neg g1, if_neg g2c, if_neg g3, if_neg g4]
          have eb : ∀ a, a ≠ 135 + 5 * tN s → D a = M a := fun a ha => by rw [eD, zs_ne _ _ ha]
          have e2 : m_lay D p s th k = zs (zs (zs D 167 (upd (M 167) (tN s) th)) 168 (upd (M 168) (tN s) k)) 169 (upd (M 169) (tN s) (nI 0)) := by
            unfold m_lay
            rw [eb 164 (by omega), eb 165 (by omega), eb 166 (by omega), eb 167 (by omega), eb 168 (by omega), eb 169 (by omega), eb 170 (by omega), eb 171 (by omega), if_neg g1, if_neg g2, if_neg g3, if_neg g4]
          rw [← hD]
          refine ⟨⟨eb 164 (by omega), eb 165 (by omega), eb 161 (by omega), fun a h1 h2 => eb a (by omega)⟩, by rw [eb 164 (by omega), eb 167 (by omega)]; exact er, fun a ha => ?_, ?_⟩
          · rw [e2, zs_ne _ _ (by omega), zs_ne _ _ (by omega), zs_ne _ _ (by omega), eb a (by omega)]
          · have lo : ∀ a, a ≠ 167 → a ≠ 168 → a ≠ 169 → m_lay D p s th k a = D a := fun a h7 h8 h9 => by rw [e2, zs_ne _ _ h9, zs_ne _ _ h8, zs_ne _ _ h7]
            have v7 : m_lay D p s th k 167 = upd (M 167) (tN s) th := by rw [e2, zs_ne _ _ (by omega), zs_ne _ _ (by omega), zs_eq]
            have v8 : m_lay D p s th k 168 = upd (M 168) (tN s) k := by rw [e2, zs_ne _ _ (by omega), zs_eq]
            have v9 : m_lay D p s th k 169 = upd (M 169) (tN s) (nI 0) := by rw [e2, zs_eq]
            have v10 : m_lay D p s th k 170 = M 170 := by rw [lo 170 (by omega) (by omega) (by omega), eb 170 (by omega)]
            refine slo_put h.2.2.2.2 (t := tN s) (fun a ha => by rw [lo a (by omega) (by omega) (by omega), eb a (by omega)]) (fun q hq j hj => ?_) (fun j hj => by rw [lo 171 (by omega) (by omega) (by omega), eb 171 (by omega)]) ?_
            · rcases hq with rfl | rfl | rfl | rfl
              · rw [v7, upd_o _ _ hj]
              · rw [v8, upd_o _ _ hj]
              · rw [v9, upd_o _ _ hj]
              · rw [v10]
            · obtain ⟨o1, o2, o3, o4, o5, o6, o7⟩ := h.2.2.2.2 _ ht
              have d5 : m_lay D p s th k (135 + 5 * tN s) = upd (upd (M (135 + 5 * tN s)) 0 th) 3 k := by rw [lo _ (by omega) (by omega) (by omega), eD, zs_eq]
              have d8 : m_lay D p s th k (138 + 5 * tN s) = M (138 + 5 * tN s) := by rw [lo _ (by omega) (by omega) (by omega), eb _ (by omega)]
              unfold sloT
              rw [v7, v8, v10, d5, d8, upd_i, upd_i, upd_i]
              exact ⟨rfl, by omega, o3, o4, fun z => by omega, fun z => by omega, fun _ => rfl⟩
theorem op_lay (hv : Iv M X p c f b) (s th k : Int32) : OpC G miX9_lay miX10_lay [.int s, .int th, .int k] M X (IvE b) 0 0 := by
  obtain ⟨i1, i2, i3, i4, i5, i6, i7, i8⟩ := id hv
  obtain ⟨⟨a4, a5, a1, a6⟩, er, a2, a3⟩ := Ax_lay i8 i4 i5.1 s th k
  have hc : cm (mC_lay M c s th k) 17 c = mC_lay M c s th k := cm_in i3 a6
  have ef : ∀ a, ¬ axA a → m_lay (mC_lay M c s th k) p s th k a = M a := fun a ha => a2 a (by unfold axA at ha; omega)
  have hw : wfS (mC_lay M c s th k) := by
    unfold wfS
    rw [a4, a5]
    exact Ax_wfS i8
  have z := k_lay 0 G M X i1.1 c (Ax_wfSC i8) (lvE_wf i4 i5).1 s th k
  rw [i3, hc] at z
  exact op_A hv (by decide) (by decide) z a1 (fun hm => rfA hm (c_lay 0 G _ X i1.2.1 p hw i5.1 s th k)) ef (congrFun (a2 16 (by omega)) 3) ⟨tapR_of i8.1 (a2 _ (by omega)) (a2 _ (by omega)), fldR_of i8.2.1 (a2 _ (by omega)) (a2 _ (by omega)), waiR_of i8.2.2.1 (a2 _ (by omega)) (a2 _ (by omega)), sheR_of i8.2.2.2.1 (fun a ha => a2 a (by omega)), a3⟩ er
end OPD
