-- OPS B: sheets, slots, what waits: asked
section OPB
variable {G : zG} {mx mr : zM} {as : List Value} {M : zMem} {X : zX} {p c f p1 c1 : Nat → Nat} {b b1 d1 d2 : Nat} {r r1 r2 : Int32}
theorem she_ok (h : Ax M) {s : Int32} (g : 0 ≤ s.toInt ∧ s.toInt ≤ 3) : tN s < 4 ∧ M (127 + 2 * tN s) 0 = M 164 (tN s) ∧ M (127 + 2 * tN s) 1 = M 165 (tN s) ∧ (∀ j, j < tN (M 165 (tN s)) → M (127 + 2 * tN s + 1) j = M 166 (24 * tN s + j)) := by
  have ht : tN s < 4 := okI (n := 4) ⟨g.1, by omega⟩
  obtain ⟨h1, h2, h3, h4, h5⟩ := h.2.2.2.1 _ ht
  exact ⟨ht, h1, h2, fun j hj => h5 j (by omega)⟩
theorem op_pour (hv : Iv M X p c f b) (sheet : Int32) : OpC G miX9_pour miX10_pour [.int sheet] M X (IvE b) 0 0 := by
  obtain ⟨i1, i2, i3, i4, i5, i6, i7, i8⟩ := id hv
  have w := lvE_wf i4 i5
  have e : r_pour c sheet (M (127 + 2 * tN sheet) 0) (tN (M (127 + 2 * tN sheet) 1)) (M (127 + 2 * tN sheet + 1)) = r_pour p sheet (M 164 (tN sheet)) (tN (M 165 (tN sheet))) (fun i => M 166 (24 * tN sheet + i)) := by
    by_cases g : (0 ≤ sheet.toInt ∧ sheet.toInt ≤ 3)
    · obtain ⟨g1, g2, g3, g4⟩ := she_ok i8 g
      rw [g2, g3]
      exact rl_pour i4 i5.1.1 _ _ _ g4
    · unfold r_pour
      rw [if_pos g, if_pos g]
  have n : nxt p c b (q_pour p sheet (M 164 (tN sheet)) (tN (M 165 (tN sheet))) (fun i => M 166 (24 * tN sheet + i))) (q_pour c sheet (M (127 + 2 * tN sheet) 0) (tN (M (127 + 2 * tN sheet) 1)) (M (127 + 2 * tN sheet + 1))) := by
    by_cases g : (0 ≤ sheet.toInt ∧ sheet.toInt ≤ 3)
    · obtain ⟨g1, g2, g3, g4⟩ := she_ok i8 g
      rw [g2, g3]
      exact nx_pour i4 i5 _ _ _ g4
    · unfold q_pour
      rw [if_pos g, if_pos g]
      exact nx_rf i4 i5 (Nat.le_refl _)
  refine op_T (d2 := 0 + 2) hv (by decide) (by decide) (clI i3 (k_pour 0 G M X i1.1 c (Ax_wfSC i8) w.1 sheet)) (fun M1 X1 hk hm ha => rfI hm ?_) e n (Nat.le_refl _)
  have z := c_pour 0 G M1 X1 hk p (Ax_wfS (Ax_of i8 ha)) i5.1 sheet
  rw [ha 164 (by unfold axA; omega), ha 165 (by unfold axA; omega), ha 166 (by unfold axA; omega)] at z
  exact z
theorem op_reads (hv : Iv M X p c f b) (sheet : Int32) : OpC G miX9_reads miX10_reads [.int sheet] M X (IvE b) 0 0 := by
  obtain ⟨i1, i2, i3, i4, i5, i6, i7, i8⟩ := id hv
  have w := lvE_wf i4 i5
  have e : r_reads c sheet (M (127 + 2 * tN sheet) 0) (tN (M (127 + 2 * tN sheet) 1)) (M (127 + 2 * tN sheet + 1)) = r_reads p sheet (M 164 (tN sheet)) (tN (M 165 (tN sheet))) (fun i => M 166 (24 * tN sheet + i)) := by
    by_cases g : (0 ≤ sheet.toInt ∧ sheet.toInt ≤ 3)
    · obtain ⟨g1, g2, g3, g4⟩ := she_ok i8 g
      rw [g2, g3]
      exact rl_reads i4 i5.1.1 _ _ _ g4
    · unfold r_reads
      rw [if_pos g, if_pos g]
  refine op_T (d2 := 0 + 2) hv (by decide) (by decide) (clI i3 (k_reads 0 G M X i1.1 c (Ax_wfSC i8) w.1 sheet)) (fun M1 X1 hk hm ha => rfI hm ?_) e (nx_rf i4 i5 (Nat.le_refl _)) (Nat.le_refl _)
  have z := c_reads 0 G M1 X1 hk p (Ax_wfS (Ax_of i8 ha)) i5.1 sheet
  rw [ha 164 (by unfold axA; omega), ha 165 (by unfold axA; omega), ha 166 (by unfold axA; omega)] at z
  exact z
theorem op_like (hv : Iv M X p c f b) (hb : b ≤ 700000000) (sheet what : Int32) : OpC G miX9_like miX10_like [.int sheet, .int what] M X (IvE b) 0 0 := by
  obtain ⟨i1, i2, i3, i4, i5, i6, i7, i8⟩ := id hv
  have w := lvE_wf i4 i5
  have e : r_like c sheet (M (127 + 2 * tN sheet) 0) (tN (M (127 + 2 * tN sheet) 1)) (M (127 + 2 * tN sheet + 1)) what = r_like p sheet (M 164 (tN sheet)) (tN (M 165 (tN sheet))) (fun i => M 166 (24 * tN sheet + i)) what := by
    by_cases g : (0 ≤ sheet.toInt ∧ sheet.toInt ≤ 3)
    · obtain ⟨g1, g2, g3, g4⟩ := she_ok i8 g
      rw [g2, g3]
      exact rl_like i4 i5 _ _ _ g4 _
    · unfold r_like
      rw [if_pos (fun z => g z.1), if_pos (fun z => g z.1)]
  refine op_T (d2 := 0 + 7) hv (by decide) (by decide) (clX i3 (k_like 0 G M X i1.1 c i6 i1.2.2.1.1 b w (by omega) (Ax_wfSC i8) sheet what)) (fun M1 X1 hk hm ha => rfW hm ?_) e (nx_rf i4 i5 (Nat.le_refl _)) (Nat.le_refl _)
  have z := c_like 0 G M1 X1 hk p (Ax_wfS (Ax_of i8 ha)) b i5 (by omega) sheet what
  rw [ha 164 (by unfold axA; omega), ha 165 (by unfold axA; omega), ha 166 (by unfold axA; omega)] at z
  exact z
theorem slo_ok (h : Ax M) {s : Int32} (g : 0 ≤ s.toInt ∧ s.toInt ≤ 4) : tN s < 5 ∧ M (135 + 5 * tN s) 0 = M 167 (tN s) ∧ (tN (M 167 (tN s)) = 1 → M (136 + 5 * tN s) 0 = M 168 (tN s) ∧ slW M (tN s) = M 169 (tN s)) ∧ (tN (M 167 (tN s)) = 2 → M (138 + 5 * tN s) 1 = M 170 (tN s) ∧ ∀ j, j < tN (M 170 (tN s)) → M (138 + 5 * tN s + 1) j = M 171 (24 * tN s + j)) ∧ (tN (M 167 (tN s)) = 3 → M (135 + 5 * tN s) 3 = M 168 (tN s)) := by
  have ht : tN s < 5 := okI (n := 5) ⟨g.1, by omega⟩
  obtain ⟨h1, h2, h3, h4, h5, h6, h7⟩ := h.2.2.2.2 _ ht
  exact ⟨ht, h1, fun z => ⟨(h5 z).1, (h5 z).2.2.2⟩, fun z => ⟨(h6 z).1, fun j hj => (h6 z).2 j (by omega)⟩, h7⟩
theorem op_rest (hv : Iv M X p c f b) (slot n : Int32) : OpC G miX9_rest miX10_rest [.int slot, .int n] M X (IvE b) 0 0 := by
  obtain ⟨i1, i2, i3, i4, i5, i6, i7, i8⟩ := id hv
  have e : r_rest slot (tN (M (135 + 5 * tN slot) 0)) (M (135 + 5 * tN slot) 3) n = r_rest slot (tN (M 167 (tN slot))) (M 168 (tN slot)) n := by
    unfold r_rest
    by_cases g : (0 ≤ slot.toInt ∧ slot.toInt ≤ 4)
    · obtain ⟨g1, g2, g3, g4, g5⟩ := slo_ok i8 g
      rw [g2]
      refine ite_2 (fun _ => rfl) (fun _ => ite_2 (fun _ => rfl) (fun _ => ite_2 (fun _ => rfl) (fun z => ite_2 (fun _ => rfl) (fun _ => ?_))))
      rw [g5 (Decidable.not_not.1 z)]
    · rw [if_pos g, if_pos g]
  refine op_T (d2 := 0 + 2) hv (by decide) (by decide) (clM i3 (k_rest 0 G M X i1.1 (Ax_wfHC i8) slot n)) (fun M1 X1 hk hm ha => rfI hm ?_) e (nx_rf i4 i5 (Nat.le_refl _)) (Nat.le_refl _)
  have z := c_rest 0 G M1 X1 hk p (Ax_wfH (Ax_of i8 ha)) slot n
  rw [ha 167 (by unfold axA; omega), ha 168 (by unfold axA; omega)] at z
  exact z
theorem op_item (hv : Iv M X p c f b) (slot place : Int32) : OpC G miX9_item miX10_item [.int slot, .int place] M X (IvE b) 0 0 := by
  obtain ⟨i1, i2, i3, i4, i5, i6, i7, i8⟩ := id hv
  have e : r_item slot (tN (M (135 + 5 * tN slot) 0)) (tN (M (138 + 5 * tN slot) 1)) (M (138 + 5 * tN slot + 1)) place = r_item slot (tN (M 167 (tN slot))) (tN (M 170 (tN slot))) (fun i => M 171 (24 * tN slot + i)) place := by
    unfold r_item
    by_cases g : (0 ≤ slot.toInt ∧ slot.toInt ≤ 4)
    · obtain ⟨g1, g2, g3, g4, g5⟩ := slo_ok i8 g
      rw [g2]
      refine ite_2 (fun _ => rfl) (fun _ => ite_2 (fun _ => rfl) (fun _ => ite_2 (fun _ => rfl) (fun z => ?_)))
      obtain ⟨k1, k2⟩ := g4 (Decidable.not_not.1 z)
      rw [k1]
      refine ite_2 (fun _ => rfl) (fun z2 => ?_)
      have z2 := Decidable.not_not.1 z2
      rw [k2 _ (okI z2)]
    · rw [if_pos g, if_pos g]
  refine op_T (d2 := 0 + 2) hv (by decide) (by decide) (clM i3 (k_item 0 G M X i1.1 (Ax_wfHC i8) slot place)) (fun M1 X1 hk hm ha => rfI hm ?_) e (nx_rf i4 i5 (Nat.le_refl _)) (Nat.le_refl _)
  have z := c_item 0 G M1 X1 hk p (Ax_wfH (Ax_of i8 ha)) slot place
  rw [ha 167 (by unfold axA; omega), ha 170 (by unfold axA; omega), ha 171 (by unfold axA; omega)] at z
  exact z
theorem op_ask (hv : Iv M X p c f b) (hG : gOK G) (slot kind : Int32) : OpC G miX9_ask miX10_ask [.int slot, .int kind] M X (IvE b) 0 0 := by
  obtain ⟨i1, i2, i3, i4, i5, i6, i7, i8⟩ := id hv
  have e : r_ask slot (tN (M (135 + 5 * tN slot) 0)) (tN (M (136 + 5 * tN slot) 0)) (slW M (tN slot)) kind = r_ask slot (tN (M 167 (tN slot))) (tN (M 168 (tN slot))) (M 169 (tN slot)) kind := by
    unfold r_ask
    by_cases g : (0 ≤ slot.toInt ∧ slot.toInt ≤ 4)
    · obtain ⟨g1, g2, g3, g4, g5⟩ := slo_ok i8 g
      rw [g2]
      refine ite_2 (fun _ => rfl) (fun _ => ite_2 (fun _ => rfl) (fun _ => ite_2 (fun _ => rfl) (fun z => ?_)))
      obtain ⟨k1, k2⟩ := g3 (Decidable.not_not.1 z)
      rw [k1, k2]
    · rw [if_pos (fun z => g z.1), if_pos (fun z => g z.1)]
  refine op_T (d2 := 0 + 2) hv (by decide) (by decide) (clM i3 (k_ask 0 G M X i1.1 hG (Ax_wfHC i8) slot kind)) (fun M1 X1 hk hm ha => rfI hm ?_) e (nx_rf i4 i5 (Nat.le_refl _)) (Nat.le_refl _)
  have z := c_ask 0 G M1 X1 hk p (Ax_wfH (Ax_of i8 ha)) slot kind
  rw [ha 167 (by unfold axA; omega), ha 168 (by unfold axA; omega), ha 169 (by unfold axA; omega)] at z
  exact z
theorem fld_ok (h : Ax M) : M 16 3 = M 160 3 ∧ M 16 7 = M 160 16 ∧ M 16 11 = M 160 31 ∧ tN (M 160 16) ≤ 96 ∧ tN (M 160 31) ≤ 60 ∧ tN (M 160 3) ≤ 1 := by
  obtain ⟨F, f1, f2, f3, f4, f5, f6, f7, f8, f9⟩ := h.2.1
  rw [f1]
  refine ⟨f7, f8, f9, ?_, ?_, ?_⟩
  · show tN (nI (F 16)) ≤ 96
    rw [tN_nI (by omega)]; exact f2
  · show tN (nI (F 31)) ≤ 60
    rw [tN_nI (by omega)]; exact f6
  · show tN (nI (F 3)) ≤ 1
    rw [tN_nI (by omega)]; exact f5
theorem op_count (hv : Iv M X p c f b) (what : Int32) : OpC G miX9_count miX10_count [.int what] M X (IvE b) 0 0 := by
  obtain ⟨i1, i2, i3, i4, i5, i6, i7, i8⟩ := id hv
  obtain ⟨f1, f2, f3, f4, f5, f6⟩ := fld_ok i8
  refine op_T (d2 := 0 + 0) (r2 := r_count p (tN (M 160 31)) (tN (M 160 16)) what) hv (by decide) (by decide) (clI i3 (k_count 0 G M X i1.1 c what)) (fun M1 X1 hk hm ha => rfI hm ?_) ?_ (nx_rf i4 i5 (Nat.le_refl _)) (Nat.le_refl _)
  · have z := c_count 0 G M1 X1 hk p what
    rw [ha 160 (by unfold axA; omega)] at z
    exact z
  · rw [f2, f3]
    exact rl_count i4 _ _ _
theorem op_A (hv : Iv M X p c f b) {N1 N2 : zMem} (hd1 : d1 ≤ 100) (hd2 : d2 ≤ 100) (hC : zCall G mx d1 (.ref 16 :: as) (zI r1 N1 X) M X 0 0) (e1 : N1 161 = M 161) (hR : mm N1 p = N1 → zCall G mr d2 (.ref 160 :: as) (zIr (fun r0 M4 X4 => r0 = r2 ∧ X4 = X ∧ ∃ M3, scw N2 M3 ∧ M4 = mm M3 p)) N1 X 0 0) (e2 : ∀ a, ¬ axA a → N2 a = M a) (h3 : N2 16 3 = M 16 3) (hA : Ax N2) (hr : r1 = r2) : OpC G mx mr as M X (IvE b) 0 0 := by
  subst hr
  have hm : mm N1 p = N1 := mm_of (by rw [e1]; exact mm_161 hv.2.1)
  refine ⟨d1, d2, r1, fun M1 X1 => M1 = N1 ∧ X1 = X, hd1, hd2, hC.post (fun v M1 X1 h => ⟨r1, h.1, rfl, h.2.1, h.2.2⟩), fun M1 X1 h1 => ?_⟩
  obtain ⟨rfl, rfl⟩ := h1
  have hk := hv.1.2.1
  refine ⟨⟨hk.2.1, kM_lt hk⟩, (hR hm).post (fun v M4 X4 h => ?_)⟩
  obtain ⟨r0, q1, q2, q3, M3, q4, q5⟩ := h
  refine ⟨r0, q1, q2, p, c, f, ?_⟩
  rw [q3]
  have e : ∀ a, a ≠ 161 → ¬ scq a → M4 a = N2 a := fun a ha hq => by rw [q5, mm_ne _ _ ha]; exact q4 a hq
  refine Iv_next hv (.inl rfl) (fun a ha => (e a ?_ ?_).trans (e2 a ?_)) ((congrFun (e 16 (by omega) (by unfold scq; omega)) 3).trans h3) (by rw [q5]; exact zs_eq _ _ _) (cm_in hv.2.2.1 (fun a h1 h2 => (e a (by omega) (by unfold scq; omega)).trans (e2 a (by unfold axA; omega)))) (nx_rf hv.2.2.2.1 hv.2.2.2.2.1 (Nat.le_refl _)) (Nat.le_refl _) (Ax_of hA (fun a ha => e a ?_ ?_))
  all_goals (try unfold txA at ha); (try unfold axA at ha); (try unfold scq); (try unfold axA); omega
theorem rfA {N1 N2 : zMem} (h : mm N1 p = N1) (hC : zCall G mx d1 as (zI r (mm N2 p) X) (mm N1 p) X 0 0) : zCall G mx d1 as (zIr (fun r0 M4 X4 => r0 = r ∧ X4 = X ∧ ∃ M3, scw N2 M3 ∧ M4 = mm M3 p)) N1 X 0 0 := by
  rw [h] at hC
  exact hC.post (fun v M1 X1 hv => ⟨r, hv.1, rfl, hv.2.2, N2, scw.rf N2, hv.2.1⟩)
end OPB
