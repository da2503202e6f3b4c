-- OPS C: sheets, slots, tape, what waits: changed
section OPC
variable {G : zG} {mx mr : zM} {as : List Value} {M : zMem} {X : zX} {p c f p1 c1 : Nat → Nat} {b b1 d1 d2 : Nat} {r r1 r2 : Int32}
theorem upd_i (g : Nat → Int32) (k : Nat) (x : Int32) : upd g k x k = x := if_pos rfl
theorem upd_o (g : Nat → Int32) {k j : Nat} (x : Int32) (h : j ≠ k) : upd g k x j = g j := if_neg h
theorem Ax_sheet (h : Ax M) (s so n : Int32) : mC_sheet M s so n 161 = M 161 ∧ (∀ a, ¬ ((127 ≤ a ∧ a < 135) ∨ (164 ≤ a ∧ a ≤ 166)) → m_sheet (mC_sheet M s so n) s so n a = M a) ∧ sheR (m_sheet (mC_sheet M s so n) s so n) := by
  by_cases g1 : ¬ ((0 ≤ s.toInt ∧ s.toInt ≤ 3) ∧ (-1 ≤ so.toInt ∧ so.toInt ≤ 1) ∧ (0 ≤ so.toInt → n.toInt ≤ 24))
  · have e1 : mC_sheet M s so n = M := by unfold mC_sheet; rw [if_pos g1]
    have e2 : m_sheet M s so n = M := by unfold m_sheet; rw [if_pos g1]
    rw [e1, e2]
    exact ⟨rfl, fun _ _ => rfl, h.2.2.2.1⟩
  · by_cases g2 : 0 ≤ so.toInt ∧ n.toInt < 0
    · have e1 : mC_sheet M s so n = M := by unfold mC_sheet; rw [if_neg g1, if_pos g2]
      have e2 : m_sheet M s so n = M := by unfold m_sheet; rw [if_neg g1, if_pos g2]
      rw [e1, e2]
      exact ⟨rfl, fun _ _ => rfl, h.2.2.2.1⟩
    · have g := Decidable.not_not.1 g1
      have hs : tN s < 4 := okI (n := 4) ⟨g.1.1, by omega⟩
      obtain ⟨y, hy⟩ : ∃ y, y = (if so.toInt < 0 then nI 0 else n) := ⟨_, rfl⟩
      have hty : tN y ≤ 24 := by
        rw [hy]
        split
        · decide
        · have := tN_to (x := n) (by omega)
          have := g.2.2 (by omega)
          omega
      have e1 : mC_sheet M s so n = beS M (127 + 2 * tN s) so y := by
        unfold mC_sheet
        rw [if_neg g1, if_neg g2]
        by_cases g3 : so.toInt < 0
        · rw [if_pos g3, hy, if_pos g3, show so = -1 from int32_eq (by rw [show (-1 : Int32).toInt = -1 by decide]; omega)]
        · rw [if_neg g3, hy, if_neg g3]
      have eb : ∀ a, a ≠ 127 + 2 * tN s → a ≠ 127 + 2 * tN s + 1 → beS M (127 + 2 * tN s) so y a = M a := by
        intro a h1 h2
        unfold beS
        rw [zs_ne _ _ h2, zs_ne _ _ h1]
      have e2 : m_sheet (beS M (127 + 2 * tN s) so y) s so n = zs (zs (zs (beS M (127 + 2 * tN s) so y) 164 (upd (M 164) (tN s) so)) 165 (upd (M 165) (tN s) y)) 166 (zf (M 166) (24 * tN s) 24) := by
        unfold m_sheet
        rw [if_neg g1, if_neg g2, ← hy, eb 164 (by omega) (by omega), eb 165 (by omega) (by omega), eb 166 (by omega) (by omega)]
      rw [e1, e2]
      refine ⟨eb 161 (by omega) (by omega), fun a ha => ?_, fun i hi => ?_⟩
      · rw [zs_ne _ _ (by omega), zs_ne _ _ (by omega), zs_ne _ _ (by omega), eb a (by omega) (by omega)]
      · have v164 : ∀ N : zMem, zs (zs (zs N 164 (upd (M 164) (tN s) so)) 165 (upd (M 165) (tN s) y)) 166 (zf (M 166) (24 * tN s) 24) 164 = upd (M 164) (tN s) so := fun N => by rw [zs_ne _ _ (by decide), zs_ne _ _ (by decide), zs_eq]
        have v165 : ∀ N : zMem, zs (zs (zs N 164 (upd (M 164) (tN s) so)) 165 (upd (M 165) (tN s) y)) 166 (zf (M 166) (24 * tN s) 24) 165 = upd (M 165) (tN s) y := fun N => by rw [zs_ne _ _ (by decide), zs_eq]
        have vlo : ∀ N : zMem, ∀ a, a < 164 → zs (zs (zs N 164 (upd (M 164) (tN s) so)) 165 (upd (M 165) (tN s) y)) 166 (zf (M 166) (24 * tN s) 24) a = N a := fun N a ha => by rw [zs_ne _ _ (by omega), zs_ne _ _ (by omega), zs_ne _ _ (by omega)]
        rw [v164, v165, zs_eq, vlo _ _ (by omega), vlo _ _ (by omega)]
        by_cases e : i = tN s
        · subst e
          rw [upd_i, upd_i]
          refine ⟨?_, ?_, g.2.1, hty, fun j hj => ?_⟩
          · unfold beS
            rw [zs_ne _ _ (by omega), zs_eq]
            rfl
          · unfold beS
            rw [zs_ne _ _ (by omega), zs_eq]
            rfl
          · unfold beS
            rw [zs_eq]
            unfold flF zf
            rw [if_pos (by omega), if_pos (by omega)]
        · obtain ⟨h1, h2, h3, h4, h5⟩ := h.2.2.2.1 i hi
          rw [upd_o _ _ e, upd_o _ _ e, eb _ (by omega) (by omega), eb _ (by omega) (by omega)]
          refine ⟨h1, h2, h3, h4, fun j hj => ?_⟩
          unfold zf
          rw [if_neg (by omega)]
          exact h5 j hj
theorem op_sheet (hv : Iv M X p c f b) (s so n : Int32) : OpC G miX9_sheet miX10_sheet [.int s, .int so, .int n] M X (IvE b) 0 0 := by
  obtain ⟨i1, i2, i3, i4, i5, i6, i7, i8⟩ := id hv
  obtain ⟨a1, a2, a3⟩ := Ax_sheet i8 s so n
  have ef : ∀ a, ¬ axA a → m_sheet (mC_sheet M s so n) s so n a = M a := fun a ha => a2 a (by unfold axA at ha; omega)
  exact op_A hv (by decide) (by decide) (k_sheet 0 G M X i1.1 s so n) a1 (fun hm => rfA hm (c_sheet 0 G _ X i1.2.1 p s so n)) ef (congrFun (a2 16 (by omega)) 3) ⟨tapR_of i8.1 (a2 _ (by omega)) (a2 _ (by omega)), fldR_of i8.2.1 (a2 _ (by omega)) (a2 _ (by omega)), waiR_of i8.2.2.1 (a2 _ (by omega)) (a2 _ (by omega)), a3, sloR_of i8.2.2.2.2 (fun a ha => a2 a (by omega))⟩ rfl
theorem mark_1 {s srt : Int32} {len : Nat} {pl v : Int32} (h : r_mark s srt len pl v = nI 1) : (0 ≤ s.toInt ∧ s.toInt ≤ 3) ∧ (0 ≤ pl.toInt ∧ pl.toInt ≤ (len : Int) - 1) := by
  unfold r_mark at h
  split at h
  · exact absurd h (by decide)
  · rename_i g1
    split at h
    · exact absurd h (by decide)
    · split at h
      · exact absurd h (by decide)
      · rename_i g3
        exact ⟨Decidable.not_not.1 g1, Decidable.not_not.1 g3⟩
theorem Ax_mark (h : Ax M) (s pl v : Int32) : (mC_mark M s pl v 161 = M 161 ∧ mC_mark M s pl v 164 = M 164 ∧ mC_mark M s pl v 165 = M 165) ∧ r_mark s (M (127 + 2 * tN s) 0) (tN (M (127 + 2 * tN s) 1)) pl v = r_mark s (M 164 (tN s)) (tN (M 165 (tN s))) pl v ∧ (∀ a, ¬ ((127 ≤ a ∧ a < 135) ∨ (164 ≤ a ∧ a ≤ 166)) → m_mark (mC_mark M s pl v) s pl v a = M a) ∧ sheR (m_mark (mC_mark M s pl v) s pl v) := by
  have er : r_mark s (M (127 + 2 * tN s) 0) (tN (M (127 + 2 * tN s) 1)) pl v = r_mark s (M 164 (tN s)) (tN (M 165 (tN s))) pl v := by
    by_cases g : (0 ≤ s.toInt ∧ s.toInt ≤ 3)
    · obtain ⟨g1, g2, g3, g4⟩ := she_ok h g
      rw [g2, g3]
    · unfold r_mark
      rw [if_pos g, if_pos g]
  by_cases hr : r_mark s (M 164 (tN s)) (tN (M 165 (tN s))) pl v = nI 1
  · obtain ⟨gs, gp⟩ := mark_1 hr
    obtain ⟨g1, g2, g3, g4⟩ := she_ok h gs
    have hp := okI gp
    have hl := (h.2.2.2.1 _ g1).2.2.2.1
    have e1 : mC_mark M s pl v = zs M (127 + 2 * tN s + 1) (upd (M (127 + 2 * tN s + 1)) (tN pl) (markV (M 164 (tN s)) v)) := by
      unfold mC_mark markV
      rw [er, if_pos hr, g2, short_sh]
    have eb : ∀ a, a ≠ 127 + 2 * tN s + 1 → mC_mark M s pl v a = M a := fun a ha => by rw [e1, zs_ne _ _ ha]
    have e2 : m_mark (mC_mark M s pl v) s pl v = zs (mC_mark M s pl v) 166 (upd (M 166) (24 * tN s + tN pl) (markV (M 164 (tN s)) v)) := by
      unfold m_mark
      rw [eb 164 (by omega), eb 165 (by omega), eb 166 (by omega), if_pos hr]
    refine ⟨⟨eb 161 (by omega), eb 164 (by omega), eb 165 (by omega)⟩, er, fun a ha => ?_, fun i hi => ?_⟩
    · rw [e2, zs_ne _ _ (by omega), eb a (by omega)]
    · obtain ⟨h1, h2, h3, h4, h5⟩ := h.2.2.2.1 i hi
      rw [e2, zs_ne _ _ (show 164 ≠ 166 by decide), zs_ne _ _ (show 165 ≠ 166 by decide), zs_eq, zs_ne _ _ (show 127 + 2 * i ≠ 166 by omega), zs_ne _ _ (show 127 + 2 * i + 1 ≠ 166 by omega), eb 164 (by omega), eb 165 (by omega), eb _ (show 127 + 2 * i ≠ 127 + 2 * tN s + 1 by omega)]
      refine ⟨h1, h2, h3, h4, fun j hj => ?_⟩
      by_cases e : i = tN s
      · subst e
        rw [e1, zs_eq]
        by_cases ej : j = tN pl
        · rw [ej, upd_i, upd_i]
        · rw [upd_o _ _ ej, upd_o _ _ (by omega)]
          exact h5 j hj
      · rw [eb _ (by omega), upd_o _ _ (by omega)]
        exact h5 j hj
  · have e1 : mC_mark M s pl v = M := by
      unfold mC_mark
      rw [er, if_neg hr]
    have e2 : m_mark M s pl v = M := by
      unfold m_mark
      rw [if_neg hr]
    rw [e1, e2]
    exact ⟨⟨rfl, rfl, rfl⟩, er, fun _ _ => rfl, h.2.2.2.1⟩
theorem op_mark (hv : Iv M X p c f b) (s pl v : Int32) : OpC G miX9_mark miX10_mark [.int s, .int pl, .int v] M X (IvE b) 0 0 := by
  obtain ⟨i1, i2, i3, i4, i5, i6, i7, i8⟩ := id hv
  obtain ⟨⟨a1, a4, a5⟩, er, a2, a3⟩ := Ax_mark i8 s pl v
  have ef : ∀ a, ¬ axA a → m_mark (mC_mark M s pl v) s pl v a = M a := fun a ha => a2 a (by unfold axA at ha; omega)
  have hw : wfS (mC_mark M s pl v) := by
    unfold wfS
    rw [a4, a5]
    exact Ax_wfS i8
  exact op_A hv (by decide) (by decide) (k_mark 0 G M X i1.1 (Ax_wfSC i8) s pl v) a1 (fun hm => rfA hm (c_mark 0 G _ X i1.2.1 p hw s pl v)) ef (congrFun (a2 16 (by omega)) 3) ⟨tapR_of i8.1 (a2 _ (by omega)) (a2 _ (by omega)), fldR_of i8.2.1 (a2 _ (by omega)) (a2 _ (by omega)), waiR_of i8.2.2.1 (a2 _ (by omega)) (a2 _ (by omega)), a3, sloR_of i8.2.2.2.2 (fun a ha => a2 a (by omega))⟩ (by rw [a4, a5]; exact er)
theorem copy_1 {fr to s1 s2 : Int32} {l1 l2 : Nat} {pl a many : Int32} (h : r_copy fr to s1 s2 l1 l2 pl a many = many) (hm : 0 ≤ many.toInt) : (0 ≤ fr.toInt ∧ fr.toInt ≤ 3) ∧ (0 ≤ to.toInt ∧ to.toInt ≤ 3) ∧ (0 ≤ pl.toInt ∧ 0 ≤ a.toInt ∧ pl.toInt + many.toInt ≤ (l1 : Int) ∧ a.toInt + many.toInt ≤ (l2 : Int)) := by
  have k1 : many ≠ cBAD := fun z => by rw [z] at hm; exact absurd hm (by decide)
  have k2 : many ≠ cNOTHING := fun z => by rw [z] at hm; exact absurd hm (by decide)
  have k3 : many ≠ cKIND := fun z => by rw [z] at hm; exact absurd hm (by decide)
  have k4 : many ≠ cINDEX := fun z => by rw [z] at hm; exact absurd hm (by decide)
  unfold r_copy at h
  split at h
  · exact absurd h.symm k1
  · rename_i g1
    split at h
    · exact absurd h.symm k2
    · split at h
      · exact absurd h.symm k3
      · split at h
        · exact absurd h.symm k4
        · rename_i g4
          have g1 := Decidable.not_not.1 g1
          have g4 := Decidable.not_not.1 g4
          exact ⟨g1.1, g1.2, g4.1, g4.2.1, g4.2.2.2.1, g4.2.2.2.2⟩
theorem Ax_copy (h : Ax M) (fr to pl a many : Int32) : (mC_copy M fr to pl a many 161 = M 161 ∧ mC_copy M fr to pl a many 164 = M 164 ∧ mC_copy M fr to pl a many 165 = M 165) ∧ r_copy fr to (M (127 + 2 * tN fr) 0) (M (127 + 2 * tN to) 0) (tN (M (127 + 2 * tN fr) 1)) (tN (M (127 + 2 * tN to) 1)) pl a many = r_copy fr to (M 164 (tN fr)) (M 164 (tN to)) (tN (M 165 (tN fr))) (tN (M 165 (tN to))) pl a many ∧ (∀ q, ¬ ((127 ≤ q ∧ q < 135) ∨ (164 ≤ q ∧ q ≤ 166)) → m_copy (mC_copy M fr to pl a many) fr to pl a many q = M q) ∧ sheR (m_copy (mC_copy M fr to pl a many) fr to pl a many) := by
  have er : r_copy fr to (M (127 + 2 * tN fr) 0) (M (127 + 2 * tN to) 0) (tN (M (127 + 2 * tN fr) 1)) (tN (M (127 + 2 * tN to) 1)) pl a many = r_copy fr to (M 164 (tN fr)) (M 164 (tN to)) (tN (M 165 (tN fr))) (tN (M 165 (tN to))) pl a many := by
    by_cases g : (0 ≤ fr.toInt ∧ fr.toInt ≤ 3) ∧ (0 ≤ to.toInt ∧ to.toInt ≤ 3)
    · obtain ⟨g1, g2, g3, g4⟩ := she_ok h g.1
      obtain ⟨k1, k2, k3, k4⟩ := she_ok h g.2
      rw [g2, g3, k2, k3]
    · unfold r_copy
      rw [if_pos g, if_pos g]
  by_cases hr : r_copy fr to (M 164 (tN fr)) (M 164 (tN to)) (tN (M 165 (tN fr))) (tN (M 165 (tN to))) pl a many = many ∧ 0 ≤ many.toInt
  · obtain ⟨gf, gt, gp, ga, gpl, gal⟩ := copy_1 hr.1 hr.2
    obtain ⟨f1, f2, f3, f4⟩ := she_ok h gf
    obtain ⟨t1, t2, t3, t4⟩ := she_ok h gt
    have hlf := (h.2.2.2.1 _ f1).2.2.2.1
    have hlt := (h.2.2.2.1 _ t1).2.2.2.1
    have hm := tN_to hr.2
    have hp := tN_to gp
    have ha := tN_to ga
    have e1 : mC_copy M fr to pl a many = zs M (127 + 2 * tN to + 1) (va_cpy (M (127 + 2 * tN fr + 1)) (M (127 + 2 * tN to + 1)) (tN pl) (tN a) (tN many)) := by
      unfold mC_copy
      rw [er, if_pos hr]
    have eb : ∀ q, q ≠ 127 + 2 * tN to + 1 → mC_copy M fr to pl a many q = M q := fun q hq => by rw [e1, zs_ne _ _ hq]
    have e2 : m_copy (mC_copy M fr to pl a many) fr to pl a many = zs (mC_copy M fr to pl a many) 166 (cyF (M 166) (M 166) (24 * tN to + tN a) (24 * tN fr + tN pl) (tN many)) := by
      unfold m_copy
      rw [eb 164 (by omega), eb 165 (by omega), eb 166 (by omega), if_pos hr]
    refine ⟨⟨eb 161 (by omega), eb 164 (by omega), eb 165 (by omega)⟩, er, fun q hq => ?_, fun i hi => ?_⟩
    · rw [e2, zs_ne _ _ (by omega), eb q (by omega)]
    · obtain ⟨h1, h2, h3, h4, h5⟩ := h.2.2.2.1 i hi
      rw [e2, zs_ne _ _ (show 164 ≠ 166 by decide), zs_ne _ _ (show 165 ≠ 166 by decide), zs_eq, zs_ne _ _ (show 127 + 2 * i ≠ 166 by omega), zs_ne _ _ (show 127 + 2 * i + 1 ≠ 166 by omega), eb 164 (by omega), eb 165 (by omega), eb _ (show 127 + 2 * i ≠ 127 + 2 * tN to + 1 by omega)]
      refine ⟨h1, h2, h3, h4, fun j hj => ?_⟩
      unfold cyF
      by_cases e : i = tN to
      · subst e
        rw [e1, zs_eq]
        unfold va_cpy
        by_cases ej : tN a ≤ j ∧ j < tN a + tN many
        · rw [if_pos ej, if_pos (by omega), show 24 * tN fr + tN pl + (24 * tN to + j - (24 * tN to + tN a)) = 24 * tN fr + (tN pl + (j - tN a)) by omega]
          exact (h.2.2.2.1 _ f1).2.2.2.2 _ (by omega)
        · rw [if_neg ej, if_neg (by omega)]
          exact h5 j hj
      · rw [eb _ (by omega), if_neg (by omega)]
        exact h5 j hj
  · have e1 : mC_copy M fr to pl a many = M := by
      unfold mC_copy
      rw [er, if_neg hr]
    have e2 : m_copy M fr to pl a many = M := by
      unfold m_copy
      rw [if_neg hr]
    rw [e1, e2]
    exact ⟨⟨rfl, rfl, rfl⟩, er, fun _ _ => rfl, h.2.2.2.1⟩
theorem op_copy (hv : Iv M X p c f b) (fr pl to a many : Int32) : OpC G miX9_copy miX10_copy [.int fr, .int pl, .int to, .int a, .int many] M X (IvE b) 0 0 := by
  obtain ⟨i1, i2, i3, i4, i5, i6, i7, i8⟩ := id hv
  obtain ⟨⟨a1, a4, a5⟩, er, a2, a3⟩ := Ax_copy i8 fr to pl a many
  have ef : ∀ q, ¬ axA q → m_copy (mC_copy M fr to pl a many) fr to pl a many q = M q := fun q hq => a2 q (by unfold axA at hq; omega)
  have hw : wfS (mC_copy M fr to pl a many) := by
    unfold wfS
    rw [a4, a5]
    exact Ax_wfS i8
  refine op_A (d2 := 0 + 2) hv (by decide) (by decide) (k_copy 0 G M X i1.1 (Ax_wfSC i8) fr pl to a many) a1 (fun hm => ?_) ef (congrFun (a2 16 (by omega)) 3) ⟨tapR_of i8.1 (a2 _ (by omega)) (a2 _ (by omega)), fldR_of i8.2.1 (a2 _ (by omega)) (a2 _ (by omega)), waiR_of i8.2.2.1 (a2 _ (by omega)) (a2 _ (by omega)), a3, sloR_of i8.2.2.2.2 (fun q hq => a2 q (by omega))⟩ er
  have z := c_copy 0 G (mC_copy M fr to pl a many) X i1.2.1 p hw fr pl to a many
  rw [hm, a4, a5] at z
  exact z
theorem Ax_tell (h : Ax M) (v : Int32) : mC_tell M v 161 = M 161 ∧ mC_tell M v 160 = M 160 ∧ (∀ a, ¬ (a = 16 ∨ a = 125 ∨ a = 160 ∨ a = 179) → m_tell (mC_tell M v) v a = M a) ∧ m_tell (mC_tell M v) v 16 3 = M 16 3 ∧ fldR (m_tell (mC_tell M v) v) ∧ waiR (m_tell (mC_tell M v) v) := by
  obtain ⟨q1, q2, q3, q4, q5, q6⟩ := fld_ok h
  by_cases g : tN (M 160 31) = 60
  · have e1 : mC_tell M v = M := by
      unfold mC_tell
      rw [q3, if_pos g]
    have e2 : m_tell M v = M := by
      unfold m_tell
      rw [if_pos g]
    rw [e1, e2]
    exact ⟨rfl, rfl, fun _ _ => rfl, rfl, h.2.1, h.2.2.1⟩
  · have e1 : mC_tell M v = zs (zs M 125 (upd (M 125) (tN (M 160 31)) v)) 16 (upd (M 16) 11 (nI (tN (M 160 31) + 1))) := by
      unfold mC_tell
      rw [q3, if_neg g]
    have eb : ∀ a, a ≠ 16 → a ≠ 125 → mC_tell M v a = M a := fun a h1 h2 => by rw [e1, zs_ne _ _ h1, zs_ne _ _ h2]
    have e2 : m_tell (mC_tell M v) v = zs (zs (mC_tell M v) 179 (upd (M 179) (tN (M 160 31)) v)) 160 (upd (M 160) 31 (nI (tN (M 160 31) + 1))) := by
      unfold m_tell
      rw [eb 160 (by decide) (by decide), eb 179 (by decide) (by decide), if_neg g]
    refine ⟨eb 161 (by decide) (by decide), eb 160 (by decide) (by decide), fun a ha => ?_, ?_, ?_, fun i hi => ?_⟩
    · rw [e2, zs_ne _ _ (by omega), zs_ne _ _ (by omega), eb a (by omega) (by omega)]
    · rw [e2, zs_ne _ _ (by decide), zs_ne _ _ (by decide), e1, zs_eq]
      rfl
    · obtain ⟨F, f1, f2, f3, f4, f5, f6, f7, f8, f9⟩ := h.2.1
      have hF : tN (M 160 31) = F 31 := by
        rw [f1]
        exact tN_nI (by omega)
      refine ⟨pu F 31 (F 31 + 1), ?_, ?_, ?_, ?_, ?_, ?_, ?_, ?_, ?_⟩
      · rw [e2, zs_eq, f1, ← f1, hF, f1]
        funext j
        unfold upd nIf pu
        split <;> rfl
      · rw [pu_ne _ _ (by decide)]; exact f2
      · rw [pu_ne _ _ (by decide)]; exact f3
      · rw [pu_ne _ _ (by decide)]; exact f4
      · rw [pu_ne _ _ (by decide)]; exact f5
      · rw [pu_eq]; omega
      · rw [e2, zs_ne _ _ (by decide), zs_ne _ _ (by decide), e1, zs_eq, upd_o _ _ (by decide), pu_ne _ _ (by decide)]; exact f7
      · rw [e2, zs_ne _ _ (by decide), zs_ne _ _ (by decide), e1, zs_eq, upd_o _ _ (by decide), pu_ne _ _ (by decide)]; exact f8
      · rw [e2, zs_ne _ _ (by decide), zs_ne _ _ (by decide), e1, zs_eq, upd_i, pu_eq, hF]
    · rw [e2, zs_ne _ _ (show 125 ≠ 160 by decide), zs_ne _ _ (show 125 ≠ 179 by decide), zs_ne _ _ (show 179 ≠ 160 by decide), zs_eq, e1, zs_ne _ _ (show 125 ≠ 16 by decide), zs_eq]
      unfold upd
      split
      · rfl
      · exact h.2.2.1 i hi
theorem op_tell (hv : Iv M X p c f b) (v : Int32) : OpC G miX9_tell miX10_tell [.int v] M X (IvE b) 0 0 := by
  obtain ⟨i1, i2, i3, i4, i5, i6, i7, i8⟩ := id hv
  obtain ⟨q1, q2, q3, q4, q5, q6⟩ := fld_ok i8
  obtain ⟨a1, a6, a2, a3, a4, a5⟩ := Ax_tell i8 v
  have ef : ∀ a, ¬ axA a → m_tell (mC_tell M v) v a = M a := fun a ha => a2 a (by unfold axA at ha; omega)
  exact op_A hv (by decide) (by decide) (k_tell 0 G M X i1.1 (by rw [q3]; exact q5) v) a1 (fun hm => rfA hm (c_tell 0 G _ X i1.2.1 p (by rw [a6]; exact q5) v)) ef a3 ⟨tapR_of i8.1 (a2 _ (by omega)) (a2 _ (by omega)), a4, a5, sheR_of i8.2.2.2.1 (fun a ha => a2 a (by omega)), sloR_of i8.2.2.2.2 (fun a ha => a2 a (by omega))⟩ (by rw [a6, q3])
theorem Ax_trim (h : Ax M) (n : Int32) : mC_trim M n 161 = M 161 ∧ mC_trim M n 160 = M 160 ∧ (∀ a, ¬ (a = 16 ∨ a = 160) → m_trim (mC_trim M n) n a = M a) ∧ m_trim (mC_trim M n) n 16 3 = M 16 3 ∧ fldR (m_trim (mC_trim M n) n) := by
  obtain ⟨q1, q2, q3, q4, q5, q6⟩ := fld_ok h
  by_cases g : ¬ (0 ≤ n.toInt ∧ n.toInt ≤ (tN (M 160 16) : Int))
  · have e1 : mC_trim M n = M := by
      unfold mC_trim
      rw [q2, if_pos g]
    have e2 : m_trim M n = M := by
      unfold m_trim
      rw [if_pos g]
    rw [e1, e2]
    exact ⟨rfl, rfl, fun _ _ => rfl, rfl, h.2.1⟩
  · have e1 : mC_trim M n = zs M 16 (upd (M 16) 7 n) := by
      unfold mC_trim
      rw [q2, if_neg g]
    have eb : ∀ a, a ≠ 16 → mC_trim M n a = M a := fun a h1 => by rw [e1, zs_ne _ _ h1]
    have e2 : m_trim (mC_trim M n) n = zs (mC_trim M n) 160 (upd (M 160) 16 n) := by
      unfold m_trim
      rw [eb 160 (by decide), if_neg g]
    refine ⟨eb 161 (by decide), eb 160 (by decide), fun a ha => ?_, ?_, ?_⟩
    · rw [e2, zs_ne _ _ (by omega), eb a (by omega)]
    · rw [e2, zs_ne _ _ (by decide), e1, zs_eq]
      rfl
    · have g := Decidable.not_not.1 g
      have hn := tN_to g.1
      obtain ⟨F, f1, f2, f3, f4, f5, f6, f7, f8, f9⟩ := h.2.1
      refine ⟨pu F 16 (tN n), ?_, ?_, ?_, ?_, ?_, ?_, ?_, ?_, ?_⟩
      · rw [e2, zs_eq, f1]
        funext j
        unfold upd nIf pu
        split
        · rw [nI_tN]
        · rfl
      · rw [pu_eq]; omega
      · rw [pu_ne _ _ (by decide)]; exact f3
      · rw [pu_ne _ _ (by decide)]; exact f4
      · rw [pu_ne _ _ (by decide)]; exact f5
      · rw [pu_ne _ _ (by decide)]; exact f6
      · rw [e2, zs_ne _ _ (by decide), e1, zs_eq, upd_o _ _ (by decide), pu_ne _ _ (by decide)]; exact f7
      · rw [e2, zs_ne _ _ (by decide), e1, zs_eq, upd_i, pu_eq, nI_tN]
      · rw [e2, zs_ne _ _ (by decide), e1, zs_eq, upd_o _ _ (by decide), pu_ne _ _ (by decide)]; exact f9
theorem op_trim (hv : Iv M X p c f b) (n : Int32) : OpC G miX9_trim miX10_trim [.int n] M X (IvE b) 0 0 := by
  obtain ⟨i1, i2, i3, i4, i5, i6, i7, i8⟩ := id hv
  obtain ⟨q1, q2, q3, q4, q5, q6⟩ := fld_ok i8
  obtain ⟨a1, a6, a2, a3, a4⟩ := Ax_trim i8 n
  have ef : ∀ a, ¬ axA a → m_trim (mC_trim M n) n a = M a := fun a ha => a2 a (by unfold axA at ha; omega)
  exact op_A hv (by decide) (by decide) (k_trim 0 G M X i1.1 (by rw [q2]; exact q4) n) a1 (fun hm => rfA hm (c_trim 0 G _ X i1.2.1 p (by rw [a6]; exact q4) n)) ef a3 ⟨tapR_of i8.1 (a2 _ (by omega)) (a2 _ (by omega)), a4, waiR_of i8.2.2.1 (a2 _ (by omega)) (a2 _ (by omega)), sheR_of i8.2.2.2.1 (fun a ha => a2 a (by omega)), sloR_of i8.2.2.2.2 (fun a ha => a2 a (by omega))⟩ (by rw [a6, q2])
end OPC
