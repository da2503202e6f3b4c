-- COPIES of rows
section ZCp
variable {G : zG} {mi : zM} {rm : Room} {Q : List Frame → Array Value → State → State → Prop} {pc n : Nat} {lv : List (Option Value)} {st : List Value} {M : zMem} {X : zX} {cn : Nat × Nat}
theorem ac_nat : Cond.native arraycopyName ∈ zT := zTm 936 (by decide +kernel) rfl
theorem ac_stat : Cond.static arraycopyName ∈ zT := zTm 935 (by decide +kernel) rfl
theorem ac_ini : Cond.initialized "java/lang/System" ∈ zT := zTm 90 (by decide +kernel) rfl
theorem ac_X4 : Cond.methodLink "RegretLocks$Sheet" 28 arraycopyName ∈ zT := zTm 1019 (by decide +kernel) rfl
theorem ac_X9 : Cond.methodLink "RegretLocks" 309 arraycopyName ∈ zT := zTm 1006 (by decide +kernel) rfl
theorem ac_J7 : Cond.methodLink "java/util/Arrays" 150 arraycopyName ∈ zT := zTm 934 (by decide +kernel) rfl
theorem j_acopy {d C N i a0 a L0 L sp dp k : Nat} {M2 : zMem} (hd : decode (zc mi) pc = .ok (.invokestatic i, 3)) (hn : pc + 3 = n) (hw : Cond.methodLink mi.1.cls i arraycopyName ∈ zT) (hc0 : xc X a0 = 100) (hL0 : xl X a0 = L0) (hc : xc X a = 100) (hL : xl X a = L) (lo0 : 16 ≤ a0) (hi0 : a0 < xz X) (lo : 16 ≤ a) (hi : a < xz X) (h4 : sp + k ≤ L0) (h5 : dp + k ≤ L) (hb0 : L0 < 2147483648) (hb1 : L < 2147483648) (hr : 1 ≤ d) (hcat : (st.map fun v => v.category).sum ≤ 8) (hM : zs M a (va_cpy (M a0) (M a) sp dp k) = M2)
    (kk : zAt G mi (zRm d C N) Q n lv st M2 X cn) : zAt G mi (zRm d C N) Q pc lv (.int (nI k) :: .int (nI dp) :: .ref a :: .int (nI sp) :: .ref a0 :: st) M X cn := by
  subst hn; subst hM
  intro p e s m args below meth c0 H locs ls E hP hS hl
  have hts := E.2.2.2.2.2.2.2.1
  have hat0 := zP_at hP lo0 hi0
  rw [zE_ints (t := 0) hc0 (by decide) hL0] at hat0
  have hat1 := zP_at hP lo hi
  rw [zE_ints (t := 0) hc (by decide) hL] at hat1
  have hK := E.2.2.2.2.2.2.2.2.1
  have ek : (nI k).toNatClampNeg = k := nI_clamp (by omega)
  have es : (nI sp).toNatClampNeg = sp := nI_clamp (by omega)
  have ed : (nI dp).toNatClampNeg = dp := nI_clamp (by omega)
  intro T hT Xs
  obtain ⟨-, k0, hk0, cm0, hkk0⟩ := (hK.2 0 _ (zTyL_at G (by decide))).1 L0 (fun j => .int (M a0 j))
  obtain ⟨-, k1, hk1, cm1, hkk1⟩ := (hK.2 0 _ (zTyL_at G (by decide))).1 L (fun j => .int (M a j))
  obtain ⟨vm', X', step⟩ := Xs.arraycopy E.1 E.2.2.2.2.2.2.1 (hts _ hw) (hts _ ac_nat) (hts _ ac_stat) (hts _ ac_ini) (src := zra G a0) (dst := zra G a) (cs := vp_cell (zA G 0) (L0, .inl (M a0))) (cd := vp_cell (zA G 0) (L, .inl (M a))) (srcPos := nI sp) (destPos := nI dp) (n := nI k) (by rw [hT]; exact hat0) (by rw [hT]; exact hat1)
    (fun _ h => by cases h) (fun _ h => by cases h) (fun h => by cases h) (fun h => by cases h) hk0 hk1 hkk0 hkk1 (by simp [zTy, refKind]) (nI_pos (by omega)) (nI_pos (by omega)) (nI_pos (by omega))
    (by rw [i_N (by omega), i_N (by omega)]; show ¬ _ > ((arrV (zA G 0) L0 (fun j => .int (M a0 j))).slots.size : Int); rw [arrV_size]; omega)
    (by rw [i_N (by omega), i_N (by omega)]; show ¬ _ > ((arrV (zA G 0) L (fun j => .int (M a j))).slots.size : Int); rw [arrV_size]; omega)
    (fun vm₁ _ i hi => by
      have e : (vp_cell (zA G 0) (L0, .inl (M a0))).slots.getD ((nI sp).toNatClampNeg + i) .null = .int (M a0 ((nI sp).toNatClampNeg + i)) := by
        show (arrV (zA G 0) L0 (fun j => .int (M a0 j))).slots.getD _ _ = _
        rw [Array.getD_eq_getD_getElem?, arrV_read _ _ (by omega)]
        rfl
      refine ⟨?_, ?_⟩
      · rw [e]
        rfl
      · rw [e]
        exact trivial)
    (g := F0 m pc ls ((.int (nI k) :: .int (nI dp) :: .ref a :: .int (nI sp) :: .ref a0 :: st).map (zv G))) rfl (by rw [E.2.2.1]; exact hl.1) (rest := st.map (zv G)) rfl (by rw [E.2.1]; exact hd) hr (by rw [zcat]; show 2 * 0 + _ + (5 + 2 + 11) ≤ 40 * d; omega)
  have e1 : copied (vp_cell (zA G 0) (L0, .inl (M a0))) (vp_cell (zA G 0) (L, .inl (M a))) (nI sp) (nI dp) (nI k) = vp_cell (zA G 0) (L, .inl (va_cpy (M a0) (M a) (nI sp).toNatClampNeg (nI dp).toNatClampNeg (nI k).toNatClampNeg)) := va_copied (fun z => .int z) (zA G 0) (zA G 0) (M a0) (M a) (by rw [es, ek]; exact h4)
  rw [es, ed, ek] at e1
  rw [e1] at X' step
  have hlt : zra G a < H.size := (Array.getElem?_eq_some_iff.mp hat1).1
  have hheap : ((T.setVm vm').setCell (zra G a) (vp_cell (zA G 0) (L, .inl (va_cpy (M a0) (M a) sp dp k)))).heap = H.setIfInBounds (zra G a) (vp_cell (zA G 0) (L, .inl (va_cpy (M a0) (M a) sp dp k))) := by rw [← hT]; rfl
  have oq : ∀ q : Nat, q ≠ zra G a → (H.setIfInBounds (zra G a) (vp_cell (zA G 0) (L, .inl (va_cpy (M a0) (M a) sp dp k))))[q]? = H[q]? := fun q hq => by simp [Array.getElem?_setIfInBounds, Ne.symm hq]
  obtain ⟨t, a1, b1⟩ := kk p e s m args below meth c0 _ _ ls E (zP_put (X := X) (M1 := zs M a (va_cpy (M a0) (M a) sp dp k)) hP lo rfl (by simp) oq (by
      rw [zE_ints (t := 0) hc (by decide) hL, zs_eq]
      show (H.setIfInBounds (zra G a) _)[zra G a]? = some _
      simp [Array.getElem?_setIfInBounds, hlt]) (fun b hb => zE_off hb)) ⟨by simp; exact hS.1, fun q g1 g2 => by
      rw [oq q (fun e => g2 (by rw [e]; exact zra_free G lo))]
      exact hS.2.1 q g1 g2, fun q hq => by
      rcases List.mem_append.mp hq with h | h
      · exact hS.2.2 q h
      · obtain ⟨z, -, hz⟩ := List.mem_map.mp h
        rw [← hz]
        exact zra_free G lo⟩ hl _ hheap X'
  exact ⟨t, step t a1, b1⟩
end ZCp
