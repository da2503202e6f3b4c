-- TXTEXT: the class' texts after text()
theorem mkX_n (X : zX) (s n : Nat) : xR (mkX X s n) (xz X) 3 = some (xz X + 1) ∧ xR (mkX X s n) (xz X) 4 = some (xz X + 2) ∧ xc (mkX X s n) (xz X + 1) = 100 ∧ xl (mkX X s n) (xz X + 1) = n ∧ xc (mkX X s n) (xz X + 2) = 100 ∧ xl (mkX X s n) (xz X + 2) = s := by
  have e1 : ∀ Y : zX, xz Y = xz X + 2 → xc (zNew Y 100 s) (xz X + 1) = xc Y (xz X + 1) ∧ xl (zNew Y 100 s) (xz X + 1) = xl Y (xz X + 1) ∧ xc (zNew Y 100 s) (xz X + 2) = 100 ∧ xl (zNew Y 100 s) (xz X + 2) = s := fun Y hY => ⟨zNew_co _ _ _ (by omega), zNew_lo _ _ _ (by omega), by rw [← hY]; exact zNew_c _ _ _, by rw [← hY]; exact zNew_l _ _ _⟩
  obtain ⟨g1, g2, g3, g4⟩ := e1 (zsR (zNew (zNew X 5 0) 100 n) (xz X) (zup (xR (zNew (zNew X 5 0) 100 n) (xz X)) 3 (some (xz X + 1)))) rfl
  refine ⟨?_, ?_, g1.trans ?_, g2.trans ?_, g3, g4⟩
  · unfold mkX
    rw [zsR_eq]
    rfl
  · unfold mkX
    rw [zsR_eq]
    rfl
  · show xc (zNew (zNew X 5 0) 100 n) (xz (zNew X 5 0)) = 100
    exact zNew_c _ _ _
  · show xl (zNew (zNew X 5 0) 100 n) (xz (zNew X 5 0)) = n
    exact zNew_l _ _ _
theorem txX_o {X : zX} (t key s n : Nat) {b : Nat} (h1 : b ≠ 20) (h2 : b ≠ 21) : xR (txX X t key s n) b = xR (mkX X s n) b := by
  unfold txX
  rw [zsR_ne _ _ h2, zsR_ne _ _ h1]
theorem txX_20 {X : zX} (hz : 181 ≤ xz X) (t key s n k : Nat) : xR (txX X t key s n) 20 k = if k = t then some (xz X) else xR X 20 k := by
  unfold txX
  rw [zsR_ne _ _ (by decide), zsR_eq, (mkX_o s n (b := 20) (by omega)).1]
  rfl
theorem txX_21 {X : zX} (hz : 181 ≤ xz X) (t key s n k : Nat) : xR (txX X t key s n) 21 k = if k = key then some (xz X) else xR X 21 k := by
  unfold txX
  rw [zsR_eq, zsR_ne _ _ (by decide), (mkX_o s n (b := 21) (by omega)).1]
  rfl
theorem tx_text {M : zMem} {X : zX} {c c2 : Nat → Nat} (hr : kR X) (hz3 : (xz X - 181) % 3 = 0) (hx : tx M X 17 c) (q : Nat → Nat) (R : Nat → Int32) (o : Nat → Nat) {t key s n : Nat} (ht : c 1 = t) (hkey : key < 3) (c1 : c2 1 = t + 1) (cold : ∀ i, 100 ≤ i → i < 100 + 200 * t → c2 i = c i) (ck : c2 (100 + 200 * t) = key) (cs1 : c2 (101 + 200 * t) = s) (cn1 : c2 (102 + 200 * t) = n)
    (hrow : ∀ k, k < n → R k = encS key (c2 (104 + 200 * t + 2 * k)) (c2 (104 + 200 * t + 2 * k + 1)) ∧ (c2 (104 + 200 * t + 2 * k) = 2 → isSg (c2 (104 + 200 * t + 2 * k + 1)))) (hn : ∀ t1, t1 < t → c (102 + 200 * t1) ≤ 96) (c3 : Nat → Nat) : tx (cm (mkM (txN M q R o) (xz X) (nI t) key s n) 17 c3) (txX (XP X) t key s n) 17 c2 := by
  have hz : 181 ≤ xz X := hr.2.2.2.2.2.2.2.2.2
  have hzp : 181 ≤ xz (XP X) := hz
  have hM : ∀ b, 181 ≤ b → b < xz X → cm (mkM (txN M q R o) (xz X) (nI t) key s n) 17 c3 b = M b := by
    intro b h1 h2
    rw [cm_o (ix_n (by omega))]
    unfold mkM txN
    rw [zs_ne _ _ (by omega), zs_ne _ _ (by omega), zs_ne _ _ (by omega), zs_ne _ _ (by omega), pq_n _ _ _ _ (by omega) (by omega) (by omega)]
  have hX : ∀ b, 181 ≤ b → b < xz X → xR (txX (XP X) t key s n) b = xR X b ∧ xc (txX (XP X) t key s n) b = xc X b ∧ xl (txX (XP X) t key s n) b = xl X b := by
    intro b h1 h2
    have g := mkX_o (X := XP X) s n (b := b) h2
    exact ⟨(txX_o t key s n (by omega) (by omega)).trans (g.1.trans (zsR_ne _ _ (by omega))), g.2.1, g.2.2⟩
  refine ⟨fun t1 h1 => ?_, fun k2 h2 => ?_⟩
  · rw [c1] at h1
    by_cases e : t1 = t
    · refine ⟨xz X, (txX_20 hzp t key s n t1).trans (if_pos e), ?_⟩
      subst e
      obtain ⟨g1, g2, g3, g4, g5, g6⟩ := mkX_n (XP X) s n
      have hMz : ∀ b, xz X ≤ b → cm (mkM (txN M q R o) (xz X) (nI t1) key s n) 17 c3 b = mkM (txN M q R o) (xz X) (nI t1) key s n b := fun b hb => cm_o (ix_n (by omega))
      refine ⟨⟨hz, by show xz X + 2 < xz X + 3; omega, hz3⟩, mkX_c (XP X) s n, (congrFun (txX_o t1 key s n (by omega) (by omega)) 3).trans g1, (congrFun (txX_o t1 key s n (by omega) (by omega)) 4).trans g2, ⟨g3, g4.trans cn1.symm⟩, ⟨g5, g6.trans cs1.symm⟩, ?_, ?_, ?_, fun k hk => ?_⟩
      · rw [hMz _ (by omega)]
        unfold mkM
        rw [zs_ne _ _ (by omega), zs_ne _ _ (by omega), zs_eq]
        rfl
      · rw [hMz _ (by omega), mkM_1, ck]
      · rw [hMz _ (by omega), cs1]
        unfold mkM
        rw [zs_ne _ _ (by omega), zs_ne _ _ (by omega), zs_eq]
        rfl
      · rw [cn1] at hk
        refine ⟨?_, (hrow k hk).2⟩
        rw [hMz _ (by omega), ck]
        unfold mkM
        rw [zs_ne _ _ (by omega), zs_eq]
        have e120 : txN M q R o 120 = R := by
          unfold txN
          rw [zs_ne _ _ (by decide), pq_R]
        rw [e120]
        unfold va_cpy
        rw [if_pos (by omega), Nat.zero_add, Nat.sub_zero]
        exact (hrow k hk).1
    · obtain ⟨a, ha, hb⟩ := hx.1 t1 (by omega)
      refine ⟨a, (txX_20 hzp t key s n t1).trans ((if_neg e).trans ((congrFun (zsR_ne X _ (by decide)) t1).trans ha)), ?_⟩
      have hn1 := hn t1 (by omega)
      obtain ⟨⟨b1, b2, b3⟩, b4, b5, b6, ⟨b7, b8⟩, ⟨b9, b10⟩, b11, b12, b13, b14⟩ := hb
      have xa := hX a b1 (by omega)
      have xb := hX (a + 1) (by omega) (by omega)
      have xd := hX (a + 2) (by omega) (by omega)
      refine ⟨⟨b1, by show a + 2 < xz X + 3; omega, b3⟩, xa.2.1.trans b4, (congrFun xa.1 3).trans b5, (congrFun xa.1 4).trans b6, ⟨xb.2.1.trans b7, xb.2.2.trans (b8.trans (cold _ (by omega) (by omega)).symm)⟩, ⟨xd.2.1.trans b9, xd.2.2.trans (b10.trans (cold _ (by omega) (by omega)).symm)⟩, ?_, ?_, ?_, fun k hk => ?_⟩
      · rw [hM a b1 (by omega)]; exact b11
      · rw [hM a b1 (by omega), cold _ (by omega) (by omega)]; exact b12
      · rw [hM a b1 (by omega), cold _ (by omega) (by omega)]; exact b13
      · rw [cold _ (by omega) (by omega)] at hk
        rw [hM (a + 1) (by omega) (by omega), cold (100 + 200 * t1) (by omega) (by omega), cold (104 + 200 * t1 + 2 * k) (by omega) (by omega), cold (104 + 200 * t1 + 2 * k + 1) (by omega) (by omega)]
        exact b14 k hk
  · have hold : ∀ n, n ≤ t → cnt c2 k2 n = cnt c k2 n := by
      intro n
      induction n with
      | zero => intro _; rfl
      | succ n ih => intro hn; rw [cnt, cnt, ih (by omega), cold _ (by omega) (by omega)]
    rw [show 17 + 4 = 21 from rfl, txX_21 hzp, c1, cnt, ck]
    by_cases e : k2 = key
    · rw [if_pos e, if_pos e.symm]
      exact ((txX_20 hzp t key s n t).trans (if_pos rfl)).symm
    · rw [if_neg e, if_neg (fun z => e z.symm), hold t (Nat.le_refl _)]
      have h21 := hx.2 k2 h2
      rw [ht] at h21
      refine (congrFun (zsR_ne X _ (by decide)) k2).trans (h21.trans ?_)
      cases hc : cnt c k2 t with
      | none => rfl
      | some t1 =>
        have := (cnt_lt hc).1
        exact ((txX_20 hzp t key s n t1).trans ((if_neg (by omega)).trans (congrFun (zsR_ne X _ (by decide)) t1))).symm
