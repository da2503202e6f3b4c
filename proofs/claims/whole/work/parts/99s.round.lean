-- LAW B: by program (wip/whole/gen/d2.py): a round of the law
section LAWB
variable {G : zG} {Q : List Frame → Array Value → State → State → Prop} {M : zMem} {X : zX} {cn cn2 : Nat × Nat} {i b : Nat}
theorem j_wd {rm : Room} {mi : zM} {pc : Nat} {lv : List (Option Value)} {st : List Value} (h1 : cn.1 ≤ cn2.1) (h2 : cn.2 ≤ cn2.2) (k : zAt G mi rm Q pc lv st M X cn2) : zAt G mi rm Q pc lv st M X cn :=
  fun p e s m args below meth c H locs ls E hP hS hl => W.widen h1 h2 (k p e s m args below meth c H locs ls E hP hS hl)
theorem IvE_mono {b1 : Nat} (h : IvE b M X) (hb : b ≤ b1) : IvE b1 M X := by
  obtain ⟨p, c, f, i1, i2, i3, i4, i5, i6, i7, i8⟩ := h
  refine ⟨p, c, f, i1, i2, i3, i4, wf_mono i5 hb (Nat.le_refl _), i6, ⟨i7.1, ?_⟩, i8⟩
  rcases i7.2 with h | ⟨h1, h2, h3⟩
  · exact .inl h
  · exact .inr ⟨h1, wf_mono h2 hb (Nat.le_refl _), h3⟩
theorem and63 (x : Int32) : ∃ k, k ≤ 63 ∧ x &&& nI 63 = nI k := by
  refine ⟨tN (x &&& nI 63), ?_, (nI_tN _).symm⟩
  show (x.toBitVec &&& 63#32).toNat ≤ 63
  rw [BitVec.toNat_and]
  exact Nat.and_le_right
theorem R_one (hG : gOK G) (hf : zFm G) (hb : b ≤ 700000000) (hv : IvE b M X) (hL : zoL G 2 ≤ 3072) (hi : i + 5 < zoL G 2) (h1 : cn.1 + 3 ≤ 600000) (h2 : cn.2 + 197 ≤ 7302250) (kk : ∀ M4 X4, IvE (b + 800) M4 X4 → zAt G miL_law (zRm 2048 600000 7302250) Q 1697 (lvL i) [] M4 X4 (cn.1 + 3, cn.2 + 197)) : zAt G miL_law (zRm 2048 600000 7302250) Q 236 (lvL i) [] M X cn := by
  obtain ⟨p, c, f, hv⟩ := hv
  have hr := hv.1.1
  exact L_one ⟨hr.c, hr.hi (by decide)⟩ hL hi (op_one hv  (scV G (i + 1)) (scV G (i + 2)) (scV G (i + 3)) (scV G (i + 4)) (scV G (i + 5))) (by omega) (by omega) (fun M4 X4 h => j_wd (by show cn.1 + 0 ≤ cn.1 + 3; omega) (by show cn.2 + 0 ≤ cn.2 + 197; omega) (kk M4 X4 (IvE_mono h (by omega))))
theorem R_told (hG : gOK G) (hf : zFm G) (hb : b ≤ 700000000) (hv : IvE b M X) (hL : zoL G 2 ≤ 3072) (hi : i + 5 < zoL G 2) (h1 : cn.1 + 3 ≤ 600000) (h2 : cn.2 + 197 ≤ 7302250) (kk : ∀ M4 X4, IvE (b + 800) M4 X4 → zAt G miL_law (zRm 2048 600000 7302250) Q 1697 (lvL i) [] M4 X4 (cn.1 + 3, cn.2 + 197)) : zAt G miL_law (zRm 2048 600000 7302250) Q 299 (lvL i) [] M X cn := by
  obtain ⟨p, c, f, hv⟩ := hv
  have hr := hv.1.1
  exact L_told ⟨hr.c, hr.hi (by decide)⟩ hL hi (op_told hv  (scV G (i + 1)) (scV G (i + 2))) (by omega) (by omega) (fun M4 X4 h => j_wd (by show cn.1 + 0 ≤ cn.1 + 3; omega) (by show cn.2 + 0 ≤ cn.2 + 197; omega) (kk M4 X4 (IvE_mono h (by omega))))
theorem R_as (hG : gOK G) (hf : zFm G) (hb : b ≤ 700000000) (hv : IvE b M X) (hL : zoL G 2 ≤ 3072) (hi : i + 5 < zoL G 2) (h1 : cn.1 + 3 ≤ 600000) (h2 : cn.2 + 197 ≤ 7302250) (kk : ∀ M4 X4, IvE (b + 800) M4 X4 → zAt G miL_law (zRm 2048 600000 7302250) Q 1697 (lvL i) [] M4 X4 (cn.1 + 3, cn.2 + 197)) : zAt G miL_law (zRm 2048 600000 7302250) Q 332 (lvL i) [] M X cn := by
  obtain ⟨p, c, f, hv⟩ := hv
  have hr := hv.1.1
  exact L_as ⟨hr.c, hr.hi (by decide)⟩ hL hi (op_as hv hG (scV G (i + 1)) (scV G (i + 2))) (by omega) (by omega) (fun M4 X4 h => j_wd (by show cn.1 + 0 ≤ cn.1 + 3; omega) (by show cn.2 + 0 ≤ cn.2 + 197; omega) (kk M4 X4 (IvE_mono h (by omega))))
theorem R_turns (hG : gOK G) (hf : zFm G) (hb : b ≤ 700000000) (hv : IvE b M X) (hL : zoL G 2 ≤ 3072) (hi : i + 5 < zoL G 2) (h1 : cn.1 + 3 ≤ 600000) (h2 : cn.2 + 197 ≤ 7302250) (kk : ∀ M4 X4, IvE (b + 800) M4 X4 → zAt G miL_law (zRm 2048 600000 7302250) Q 1697 (lvL i) [] M4 X4 (cn.1 + 3, cn.2 + 197)) : zAt G miL_law (zRm 2048 600000 7302250) Q 365 (lvL i) [] M X cn := by
  obtain ⟨p, c, f, hv⟩ := hv
  have hr := hv.1.1
  exact L_turns ⟨hr.c, hr.hi (by decide)⟩ hL hi (op_turns hv  (scV G (i + 1)) (scV G (i + 2))) (by omega) (by omega) (fun M4 X4 h => j_wd (by show cn.1 + 0 ≤ cn.1 + 3; omega) (by show cn.2 + 0 ≤ cn.2 + 197; omega) (kk M4 X4 (IvE_mono h (by omega))))
theorem R_set (hG : gOK G) (hf : zFm G) (hb : b ≤ 700000000) (hv : IvE b M X) (hL : zoL G 2 ≤ 3072) (hi : i + 5 < zoL G 2) (h1 : cn.1 + 3 ≤ 600000) (h2 : cn.2 + 197 ≤ 7302250) (kk : ∀ M4 X4, IvE (b + 800) M4 X4 → zAt G miL_law (zRm 2048 600000 7302250) Q 1697 (lvL i) [] M4 X4 (cn.1 + 3, cn.2 + 197)) : zAt G miL_law (zRm 2048 600000 7302250) Q 398 (lvL i) [] M X cn := by
  obtain ⟨p, c, f, hv⟩ := hv
  have hr := hv.1.1
  exact L_set ⟨hr.c, hr.hi (by decide)⟩ hL hi (op_set hv  (scV G (i + 1)) (scV G (i + 2)) (scV G (i + 3))) (by omega) (by omega) (fun M4 X4 h => j_wd (by show cn.1 + 0 ≤ cn.1 + 3; omega) (by show cn.2 + 0 ≤ cn.2 + 197; omega) (kk M4 X4 (IvE_mono h (by omega))))
theorem R_lock (hG : gOK G) (hf : zFm G) (hb : b ≤ 700000000) (hv : IvE b M X) (hL : zoL G 2 ≤ 3072) (hi : i + 5 < zoL G 2) (h1 : cn.1 + 3 ≤ 600000) (h2 : cn.2 + 197 ≤ 7302250) (kk : ∀ M4 X4, IvE (b + 800) M4 X4 → zAt G miL_law (zRm 2048 600000 7302250) Q 1697 (lvL i) [] M4 X4 (cn.1 + 3, cn.2 + 197)) : zAt G miL_law (zRm 2048 600000 7302250) Q 441 (lvL i) [] M X cn := by
  obtain ⟨p, c, f, hv⟩ := hv
  have hr := hv.1.1
  exact L_lock ⟨hr.c, hr.hi (by decide)⟩ hL hi (op_lock hv  (scV G (i + 1)) (scV G (i + 2)) (scV G (i + 3)) (scV G (i + 4))) (by omega) (by omega) (fun M4 X4 h => j_wd (by show cn.1 + 0 ≤ cn.1 + 3; omega) (by show cn.2 + 0 ≤ cn.2 + 197; omega) (kk M4 X4 (IvE_mono h (by omega))))
theorem R_about (hG : gOK G) (hf : zFm G) (hb : b ≤ 700000000) (hv : IvE b M X) (hL : zoL G 2 ≤ 3072) (hi : i + 5 < zoL G 2) (h1 : cn.1 + 3 ≤ 600000) (h2 : cn.2 + 197 ≤ 7302250) (kk : ∀ M4 X4, IvE (b + 800) M4 X4 → zAt G miL_law (zRm 2048 600000 7302250) Q 1697 (lvL i) [] M4 X4 (cn.1 + 3, cn.2 + 197)) : zAt G miL_law (zRm 2048 600000 7302250) Q 494 (lvL i) [] M X cn := by
  obtain ⟨p, c, f, hv⟩ := hv
  have hr := hv.1.1
  exact L_about ⟨hr.c, hr.hi (by decide)⟩ hL hi (op_about hv  (scV G (i + 1)) (scV G (i + 2))) (by omega) (by omega) (fun M4 X4 h => j_wd (by show cn.1 + 0 ≤ cn.1 + 3; omega) (by show cn.2 + 0 ≤ cn.2 + 197; omega) (kk M4 X4 (IvE_mono h (by omega))))
theorem R_sets (hG : gOK G) (hf : zFm G) (hb : b ≤ 700000000) (hv : IvE b M X) (hL : zoL G 2 ≤ 3072) (hi : i + 5 < zoL G 2) (h1 : cn.1 + 3 ≤ 600000) (h2 : cn.2 + 197 ≤ 7302250) (kk : ∀ M4 X4, IvE (b + 800) M4 X4 → zAt G miL_law (zRm 2048 600000 7302250) Q 1697 (lvL i) [] M4 X4 (cn.1 + 3, cn.2 + 197)) : zAt G miL_law (zRm 2048 600000 7302250) Q 527 (lvL i) [] M X cn := by
  obtain ⟨p, c, f, hv⟩ := hv
  have hr := hv.1.1
  exact L_sets ⟨hr.c, hr.hi (by decide)⟩ hL hi (op_sets hv  (scV G (i + 1)) (scV G (i + 2)) (scV G (i + 3))) (by omega) (by omega) (fun M4 X4 h => j_wd (by show cn.1 + 0 ≤ cn.1 + 3; omega) (by show cn.2 + 0 ≤ cn.2 + 197; omega) (kk M4 X4 (IvE_mono h (by omega))))
theorem R_mends (hG : gOK G) (hf : zFm G) (hb : b ≤ 700000000) (hv : IvE b M X) (hL : zoL G 2 ≤ 3072) (hi : i + 5 < zoL G 2) (h1 : cn.1 + 3 ≤ 600000) (h2 : cn.2 + 197 ≤ 7302250) (kk : ∀ M4 X4, IvE (b + 800) M4 X4 → zAt G miL_law (zRm 2048 600000 7302250) Q 1697 (lvL i) [] M4 X4 (cn.1 + 3, cn.2 + 197)) : zAt G miL_law (zRm 2048 600000 7302250) Q 570 (lvL i) [] M X cn := by
  obtain ⟨p, c, f, hv⟩ := hv
  have hr := hv.1.1
  exact L_mends ⟨hr.c, hr.hi (by decide)⟩ hL hi (op_mends hv  (scV G (i + 1))) (by omega) (by omega) (fun M4 X4 h => j_wd (by show cn.1 + 0 ≤ cn.1 + 3; omega) (by show cn.2 + 0 ≤ cn.2 + 197; omega) (kk M4 X4 (IvE_mono h (by omega))))
theorem R_rule (hG : gOK G) (hf : zFm G) (hb : b ≤ 700000000) (hv : IvE b M X) (hL : zoL G 2 ≤ 3072) (hi : i + 5 < zoL G 2) (h1 : cn.1 + 3 ≤ 600000) (h2 : cn.2 + 197 ≤ 7302250) (kk : ∀ M4 X4, IvE (b + 800) M4 X4 → zAt G miL_law (zRm 2048 600000 7302250) Q 1697 (lvL i) [] M4 X4 (cn.1 + 3, cn.2 + 197)) : zAt G miL_law (zRm 2048 600000 7302250) Q 593 (lvL i) [] M X cn := by
  obtain ⟨p, c, f, hv⟩ := hv
  have hr := hv.1.1
  exact L_rule ⟨hr.c, hr.hi (by decide)⟩ hL hi (op_rule hv  (scV G (i + 1)) (scV G (i + 2))) (by omega) (by omega) (fun M4 X4 h => j_wd (by show cn.1 + 0 ≤ cn.1 + 3; omega) (by show cn.2 + 0 ≤ cn.2 + 197; omega) (kk M4 X4 (IvE_mono h (by omega))))
theorem R_at (hG : gOK G) (hf : zFm G) (hb : b ≤ 700000000) (hv : IvE b M X) (hL : zoL G 2 ≤ 3072) (hi : i + 5 < zoL G 2) (h1 : cn.1 + 3 ≤ 600000) (h2 : cn.2 + 197 ≤ 7302250) (kk : ∀ M4 X4, IvE (b + 800) M4 X4 → zAt G miL_law (zRm 2048 600000 7302250) Q 1697 (lvL i) [] M4 X4 (cn.1 + 3, cn.2 + 197)) : zAt G miL_law (zRm 2048 600000 7302250) Q 626 (lvL i) [] M X cn := by
  obtain ⟨p, c, f, hv⟩ := hv
  have hr := hv.1.1
  exact L_at ⟨hr.c, hr.hi (by decide)⟩ hL hi (op_at hv  (scV G (i + 1))) (by omega) (by omega) (fun M4 X4 h => j_wd (by show cn.1 + 0 ≤ cn.1 + 3; omega) (by show cn.2 + 0 ≤ cn.2 + 197; omega) (kk M4 X4 (IvE_mono h (by omega))))
theorem R_deal (hG : gOK G) (hf : zFm G) (hb : b ≤ 700000000) (hv : IvE b M X) (hL : zoL G 2 ≤ 3072) (hi : i + 5 < zoL G 2) (h1 : cn.1 + 3 ≤ 600000) (h2 : cn.2 + 197 ≤ 7302250) (kk : ∀ M4 X4, IvE (b + 800) M4 X4 → zAt G miL_law (zRm 2048 600000 7302250) Q 1697 (lvL i) [] M4 X4 (cn.1 + 3, cn.2 + 197)) : zAt G miL_law (zRm 2048 600000 7302250) Q 649 (lvL i) [] M X cn := by
  obtain ⟨p, c, f, hv⟩ := hv
  have hr := hv.1.1
  exact L_deal ⟨hr.c, hr.hi (by decide)⟩ hL hi (op_deal hv  (scV G (i + 1))) (by omega) (by omega) (fun M4 X4 h => j_wd (by show cn.1 + 0 ≤ cn.1 + 3; omega) (by show cn.2 + 0 ≤ cn.2 + 197; omega) (kk M4 X4 (IvE_mono h (by omega))))
theorem R_seed (hG : gOK G) (hf : zFm G) (hb : b ≤ 700000000) (hv : IvE b M X) (hL : zoL G 2 ≤ 3072) (hi : i + 5 < zoL G 2) (h1 : cn.1 + 3 ≤ 600000) (h2 : cn.2 + 197 ≤ 7302250) (kk : ∀ M4 X4, IvE (b + 800) M4 X4 → zAt G miL_law (zRm 2048 600000 7302250) Q 1697 (lvL i) [] M4 X4 (cn.1 + 3, cn.2 + 197)) : zAt G miL_law (zRm 2048 600000 7302250) Q 672 (lvL i) [] M X cn := by
  obtain ⟨p, c, f, hv⟩ := hv
  have hr := hv.1.1
  exact L_seed ⟨hr.c, hr.hi (by decide)⟩ hL hi (op_seed hv  (scV G (i + 1))) (by omega) (by omega) (fun M4 X4 h => j_wd (by show cn.1 + 0 ≤ cn.1 + 3; omega) (by show cn.2 + 0 ≤ cn.2 + 197; omega) (kk M4 X4 (IvE_mono h (by omega))))
theorem R_passes (hG : gOK G) (hf : zFm G) (hb : b ≤ 700000000) (hv : IvE b M X) (hL : zoL G 2 ≤ 3072) (hi : i + 5 < zoL G 2) (h1 : cn.1 + 3 ≤ 600000) (h2 : cn.2 + 197 ≤ 7302250) (kk : ∀ M4 X4, IvE (b + 800) M4 X4 → zAt G miL_law (zRm 2048 600000 7302250) Q 1697 (lvL i) [] M4 X4 (cn.1 + 3, cn.2 + 197)) : zAt G miL_law (zRm 2048 600000 7302250) Q 695 (lvL i) [] M X cn := by
  obtain ⟨p, c, f, hv⟩ := hv
  have hr := hv.1.1
  exact L_passes ⟨hr.c, hr.hi (by decide)⟩ hL hi (op_passes hv hb (scV G (i + 1)) (scV G (i + 2))) (by omega) (by omega) (fun M4 X4 h => j_wd (by show cn.1 + 0 ≤ cn.1 + 3; omega) (by show cn.2 + 0 ≤ cn.2 + 197; omega) (kk M4 X4 (IvE_mono h (by omega))))
theorem R_days (hG : gOK G) (hf : zFm G) (hb : b ≤ 700000000) (hv : IvE b M X) (hL : zoL G 2 ≤ 3072) (hi : i + 5 < zoL G 2) (h1 : cn.1 + 3 ≤ 600000) (h2 : cn.2 + 197 ≤ 7302250) (kk : ∀ M4 X4, IvE (b + 800) M4 X4 → zAt G miL_law (zRm 2048 600000 7302250) Q 1697 (lvL i) [] M4 X4 (cn.1 + 3, cn.2 + 197)) : zAt G miL_law (zRm 2048 600000 7302250) Q 728 (lvL i) [] M X cn := by
  obtain ⟨p, c, f, hv⟩ := hv
  have hr := hv.1.1
  exact L_days ⟨hr.c, hr.hi (by decide)⟩ hL hi (op_days hv hb (scV G (i + 1))) (by omega) (by omega) (fun M4 X4 h => j_wd (by show cn.1 + 0 ≤ cn.1 + 3; omega) (by show cn.2 + 0 ≤ cn.2 + 197; omega) (kk M4 X4 (IvE_mono h (by omega))))
theorem R_town (hG : gOK G) (hf : zFm G) (hb : b ≤ 700000000) (hv : IvE b M X) (hL : zoL G 2 ≤ 3072) (hi : i + 5 < zoL G 2) (h1 : cn.1 + 3 ≤ 600000) (h2 : cn.2 + 197 ≤ 7302250) (kk : ∀ M4 X4, IvE (b + 800) M4 X4 → zAt G miL_law (zRm 2048 600000 7302250) Q 1697 (lvL i) [] M4 X4 (cn.1 + 3, cn.2 + 197)) : zAt G miL_law (zRm 2048 600000 7302250) Q 751 (lvL i) [] M X cn := by
  obtain ⟨p, c, f, hv⟩ := hv
  have hr := hv.1.1
  exact L_town ⟨hr.c, hr.hi (by decide)⟩ hL hi (op_town hv  (scV G (i + 1))) (by omega) (by omega) (fun M4 X4 h => j_wd (by show cn.1 + 0 ≤ cn.1 + 3; omega) (by show cn.2 + 0 ≤ cn.2 + 197; omega) (kk M4 X4 (IvE_mono h (by omega))))
theorem R_reach (hG : gOK G) (hf : zFm G) (hb : b ≤ 700000000) (hv : IvE b M X) (hL : zoL G 2 ≤ 3072) (hi : i + 5 < zoL G 2) (h1 : cn.1 + 3 ≤ 600000) (h2 : cn.2 + 197 ≤ 7302250) (kk : ∀ M4 X4, IvE (b + 800) M4 X4 → zAt G miL_law (zRm 2048 600000 7302250) Q 1697 (lvL i) [] M4 X4 (cn.1 + 3, cn.2 + 197)) : zAt G miL_law (zRm 2048 600000 7302250) Q 774 (lvL i) [] M X cn := by
  obtain ⟨p, c, f, hv⟩ := hv
  have hr := hv.1.1
  exact L_reach ⟨hr.c, hr.hi (by decide)⟩ hL hi (op_reach hv hG (scV G (i + 1))) (by omega) (by omega) (fun M4 X4 h => j_wd (by show cn.1 + 0 ≤ cn.1 + 3; omega) (by show cn.2 + 0 ≤ cn.2 + 197; omega) (kk M4 X4 (IvE_mono h (by omega))))
theorem R_way (hG : gOK G) (hf : zFm G) (hb : b ≤ 700000000) (hv : IvE b M X) (hL : zoL G 2 ≤ 3072) (hi : i + 5 < zoL G 2) (h1 : cn.1 + 3 ≤ 600000) (h2 : cn.2 + 197 ≤ 7302250) (kk : ∀ M4 X4, IvE (b + 800) M4 X4 → zAt G miL_law (zRm 2048 600000 7302250) Q 1697 (lvL i) [] M4 X4 (cn.1 + 3, cn.2 + 197)) : zAt G miL_law (zRm 2048 600000 7302250) Q 797 (lvL i) [] M X cn := by
  obtain ⟨p, c, f, hv⟩ := hv
  have hr := hv.1.1
  exact L_way ⟨hr.c, hr.hi (by decide)⟩ hL hi (op_way hv hG (scV G (i + 1)) (scV G (i + 2))) (by omega) (by omega) (fun M4 X4 h => j_wd (by show cn.1 + 0 ≤ cn.1 + 3; omega) (by show cn.2 + 0 ≤ cn.2 + 197; omega) (kk M4 X4 (IvE_mono h (by omega))))
theorem R_pardoned (hG : gOK G) (hf : zFm G) (hb : b ≤ 700000000) (hv : IvE b M X) (hL : zoL G 2 ≤ 3072) (hi : i + 5 < zoL G 2) (h1 : cn.1 + 3 ≤ 600000) (h2 : cn.2 + 197 ≤ 7302250) (kk : ∀ M4 X4, IvE (b + 800) M4 X4 → zAt G miL_law (zRm 2048 600000 7302250) Q 1697 (lvL i) [] M4 X4 (cn.1 + 3, cn.2 + 197)) : zAt G miL_law (zRm 2048 600000 7302250) Q 830 (lvL i) [] M X cn := by
  obtain ⟨p, c, f, hv⟩ := hv
  have hr := hv.1.1
  exact L_pardoned ⟨hr.c, hr.hi (by decide)⟩ hL hi (op_pardoned hv hG (scV G (i + 1))) (by omega) (by omega) (fun M4 X4 h => j_wd (by show cn.1 + 0 ≤ cn.1 + 3; omega) (by show cn.2 + 0 ≤ cn.2 + 197; omega) (kk M4 X4 (IvE_mono h (by omega))))
theorem R_just (hG : gOK G) (hf : zFm G) (hb : b ≤ 700000000) (hv : IvE b M X) (hL : zoL G 2 ≤ 3072) (hi : i + 5 < zoL G 2) (h1 : cn.1 + 3 ≤ 600000) (h2 : cn.2 + 197 ≤ 7302250) (kk : ∀ M4 X4, IvE (b + 800) M4 X4 → zAt G miL_law (zRm 2048 600000 7302250) Q 1697 (lvL i) [] M4 X4 (cn.1 + 3, cn.2 + 197)) : zAt G miL_law (zRm 2048 600000 7302250) Q 853 (lvL i) [] M X cn := by
  obtain ⟨p, c, f, hv⟩ := hv
  have hr := hv.1.1
  exact L_just ⟨hr.c, hr.hi (by decide)⟩ hL hi (op_just hv  (scV G (i + 1)) (scV G (i + 2))) (by omega) (by omega) (fun M4 X4 h => j_wd (by show cn.1 + 0 ≤ cn.1 + 3; omega) (by show cn.2 + 0 ≤ cn.2 + 197; omega) (kk M4 X4 (IvE_mono h (by omega))))
theorem R_sorry_ (hG : gOK G) (hf : zFm G) (hb : b ≤ 700000000) (hv : IvE b M X) (hL : zoL G 2 ≤ 3072) (hi : i + 5 < zoL G 2) (h1 : cn.1 + 3 ≤ 600000) (h2 : cn.2 + 197 ≤ 7302250) (kk : ∀ M4 X4, IvE (b + 800) M4 X4 → zAt G miL_law (zRm 2048 600000 7302250) Q 1697 (lvL i) [] M4 X4 (cn.1 + 3, cn.2 + 197)) : zAt G miL_law (zRm 2048 600000 7302250) Q 886 (lvL i) [] M X cn := by
  obtain ⟨p, c, f, hv⟩ := hv
  have hr := hv.1.1
  exact L_sorry_ ⟨hr.c, hr.hi (by decide)⟩ hL hi (op_sorry_ hv  (scV G (i + 1)) (scV G (i + 2))) (by omega) (by omega) (fun M4 X4 h => j_wd (by show cn.1 + 0 ≤ cn.1 + 3; omega) (by show cn.2 + 0 ≤ cn.2 + 197; omega) (kk M4 X4 (IvE_mono h (by omega))))
theorem R_behind (hG : gOK G) (hf : zFm G) (hb : b ≤ 700000000) (hv : IvE b M X) (hL : zoL G 2 ≤ 3072) (hi : i + 5 < zoL G 2) (h1 : cn.1 + 3 ≤ 600000) (h2 : cn.2 + 197 ≤ 7302250) (kk : ∀ M4 X4, IvE (b + 800) M4 X4 → zAt G miL_law (zRm 2048 600000 7302250) Q 1697 (lvL i) [] M4 X4 (cn.1 + 3, cn.2 + 197)) : zAt G miL_law (zRm 2048 600000 7302250) Q 919 (lvL i) [] M X cn := by
  obtain ⟨p, c, f, hv⟩ := hv
  have hr := hv.1.1
  exact L_behind ⟨hr.c, hr.hi (by decide)⟩ hL hi (op_behind hv hb (scV G (i + 1)) (scV G (i + 2))) (by omega) (by omega) (fun M4 X4 h => j_wd (by show cn.1 + 0 ≤ cn.1 + 3; omega) (by show cn.2 + 0 ≤ cn.2 + 197; omega) (kk M4 X4 (IvE_mono h (by omega))))
theorem R_enters (hG : gOK G) (hf : zFm G) (hb : b ≤ 700000000) (hv : IvE b M X) (hL : zoL G 2 ≤ 3072) (hi : i + 5 < zoL G 2) (h1 : cn.1 + 3 ≤ 600000) (h2 : cn.2 + 197 ≤ 7302250) (kk : ∀ M4 X4, IvE (b + 800) M4 X4 → zAt G miL_law (zRm 2048 600000 7302250) Q 1697 (lvL i) [] M4 X4 (cn.1 + 3, cn.2 + 197)) : zAt G miL_law (zRm 2048 600000 7302250) Q 952 (lvL i) [] M X cn := by
  obtain ⟨p, c, f, hv⟩ := hv
  have hr := hv.1.1
  exact L_enters ⟨hr.c, hr.hi (by decide)⟩ hL hi (op_enters hv hb (scV G (i + 1)) (scV G (i + 2))) (by omega) (by omega) (fun M4 X4 h => j_wd (by show cn.1 + 0 ≤ cn.1 + 3; omega) (by show cn.2 + 0 ≤ cn.2 + 197; omega) (kk M4 X4 (IvE_mono h (by omega))))
theorem R_freed (hG : gOK G) (hf : zFm G) (hb : b ≤ 700000000) (hv : IvE b M X) (hL : zoL G 2 ≤ 3072) (hi : i + 5 < zoL G 2) (h1 : cn.1 + 3 ≤ 600000) (h2 : cn.2 + 197 ≤ 7302250) (kk : ∀ M4 X4, IvE (b + 800) M4 X4 → zAt G miL_law (zRm 2048 600000 7302250) Q 1697 (lvL i) [] M4 X4 (cn.1 + 3, cn.2 + 197)) : zAt G miL_law (zRm 2048 600000 7302250) Q 985 (lvL i) [] M X cn := by
  obtain ⟨p, c, f, hv⟩ := hv
  have hr := hv.1.1
  exact L_freed ⟨hr.c, hr.hi (by decide)⟩ hL hi (op_freed hv hb (scV G (i + 1)) (scV G (i + 2))) (by omega) (by omega) (fun M4 X4 h => j_wd (by show cn.1 + 0 ≤ cn.1 + 3; omega) (by show cn.2 + 0 ≤ cn.2 + 197; omega) (kk M4 X4 (IvE_mono h (by omega))))
theorem R_becomes (hG : gOK G) (hf : zFm G) (hb : b ≤ 700000000) (hv : IvE b M X) (hL : zoL G 2 ≤ 3072) (hi : i + 5 < zoL G 2) (h1 : cn.1 + 3 ≤ 600000) (h2 : cn.2 + 197 ≤ 7302250) (kk : ∀ M4 X4, IvE (b + 800) M4 X4 → zAt G miL_law (zRm 2048 600000 7302250) Q 1697 (lvL i) [] M4 X4 (cn.1 + 3, cn.2 + 197)) : zAt G miL_law (zRm 2048 600000 7302250) Q 1018 (lvL i) [] M X cn := by
  obtain ⟨p, c, f, hv⟩ := hv
  have hr := hv.1.1
  exact L_becomes ⟨hr.c, hr.hi (by decide)⟩ hL hi (op_becomes hv hb (scV G (i + 1)) (scV G (i + 2)) (scV G (i + 3))) (by omega) (by omega) (fun M4 X4 h => j_wd (by show cn.1 + 0 ≤ cn.1 + 3; omega) (by show cn.2 + 0 ≤ cn.2 + 197; omega) (kk M4 X4 (IvE_mono h (by omega))))
theorem R_like (hG : gOK G) (hf : zFm G) (hb : b ≤ 700000000) (hv : IvE b M X) (hL : zoL G 2 ≤ 3072) (hi : i + 5 < zoL G 2) (h1 : cn.1 + 3 ≤ 600000) (h2 : cn.2 + 197 ≤ 7302250) (kk : ∀ M4 X4, IvE (b + 800) M4 X4 → zAt G miL_law (zRm 2048 600000 7302250) Q 1697 (lvL i) [] M4 X4 (cn.1 + 3, cn.2 + 197)) : zAt G miL_law (zRm 2048 600000 7302250) Q 1061 (lvL i) [] M X cn := by
  obtain ⟨p, c, f, hv⟩ := hv
  have hr := hv.1.1
  exact L_like ⟨hr.c, hr.hi (by decide)⟩ hL hi (op_like hv hb (scV G (i + 1)) (scV G (i + 2))) (by omega) (by omega) (fun M4 X4 h => j_wd (by show cn.1 + 0 ≤ cn.1 + 3; omega) (by show cn.2 + 0 ≤ cn.2 + 197; omega) (kk M4 X4 (IvE_mono h (by omega))))
theorem R_fee (hG : gOK G) (hf : zFm G) (hb : b ≤ 700000000) (hv : IvE b M X) (hL : zoL G 2 ≤ 3072) (hi : i + 5 < zoL G 2) (h1 : cn.1 + 3 ≤ 600000) (h2 : cn.2 + 197 ≤ 7302250) (kk : ∀ M4 X4, IvE (b + 800) M4 X4 → zAt G miL_law (zRm 2048 600000 7302250) Q 1697 (lvL i) [] M4 X4 (cn.1 + 3, cn.2 + 197)) : zAt G miL_law (zRm 2048 600000 7302250) Q 1094 (lvL i) [] M X cn := by
  obtain ⟨p, c, f, hv⟩ := hv
  have hr := hv.1.1
  exact L_fee ⟨hr.c, hr.hi (by decide)⟩ hL hi (op_fee hv  ) (by omega) (by omega) (fun M4 X4 h => j_wd (by show cn.1 + 0 ≤ cn.1 + 3; omega) (by show cn.2 + 0 ≤ cn.2 + 197; omega) (kk M4 X4 (IvE_mono h (by omega))))
theorem R_fine (hG : gOK G) (hf : zFm G) (hb : b ≤ 700000000) (hv : IvE b M X) (hL : zoL G 2 ≤ 3072) (hi : i + 5 < zoL G 2) (h1 : cn.1 + 3 ≤ 600000) (h2 : cn.2 + 197 ≤ 7302250) (kk : ∀ M4 X4, IvE (b + 800) M4 X4 → zAt G miL_law (zRm 2048 600000 7302250) Q 1697 (lvL i) [] M4 X4 (cn.1 + 3, cn.2 + 197)) : zAt G miL_law (zRm 2048 600000 7302250) Q 1107 (lvL i) [] M X cn := by
  obtain ⟨p, c, f, hv⟩ := hv
  have hr := hv.1.1
  exact L_fine ⟨hr.c, hr.hi (by decide)⟩ hL hi (op_fine hv  (scV G (i + 1))) (by omega) (by omega) (fun M4 X4 h => j_wd (by show cn.1 + 0 ≤ cn.1 + 3; omega) (by show cn.2 + 0 ≤ cn.2 + 197; omega) (kk M4 X4 (IvE_mono h (by omega))))
theorem R_feed (hG : gOK G) (hf : zFm G) (hb : b ≤ 700000000) (hv : IvE b M X) (hL : zoL G 2 ≤ 3072) (hi : i + 5 < zoL G 2) (h1 : cn.1 + 3 ≤ 600000) (h2 : cn.2 + 197 ≤ 7302250) (kk : ∀ M4 X4, IvE (b + 800) M4 X4 → zAt G miL_law (zRm 2048 600000 7302250) Q 1697 (lvL i) [] M4 X4 (cn.1 + 3, cn.2 + 197)) : zAt G miL_law (zRm 2048 600000 7302250) Q 1130 (lvL i) [] M X cn := by
  obtain ⟨p, c, f, hv⟩ := hv
  have hr := hv.1.1
  exact L_feed ⟨hr.c, hr.hi (by decide)⟩ hL hi (op_feed hv  (scV G (i + 1)) (scV G (i + 2)) (scV G (i + 3))) (by omega) (by omega) (fun M4 X4 h => j_wd (by show cn.1 + 0 ≤ cn.1 + 3; omega) (by show cn.2 + 0 ≤ cn.2 + 197; omega) (kk M4 X4 (IvE_mono h (by omega))))
theorem R_trim (hG : gOK G) (hf : zFm G) (hb : b ≤ 700000000) (hv : IvE b M X) (hL : zoL G 2 ≤ 3072) (hi : i + 5 < zoL G 2) (h1 : cn.1 + 3 ≤ 600000) (h2 : cn.2 + 197 ≤ 7302250) (kk : ∀ M4 X4, IvE (b + 800) M4 X4 → zAt G miL_law (zRm 2048 600000 7302250) Q 1697 (lvL i) [] M4 X4 (cn.1 + 3, cn.2 + 197)) : zAt G miL_law (zRm 2048 600000 7302250) Q 1173 (lvL i) [] M X cn := by
  obtain ⟨p, c, f, hv⟩ := hv
  have hr := hv.1.1
  exact L_trim ⟨hr.c, hr.hi (by decide)⟩ hL hi (op_trim hv  (scV G (i + 1))) (by omega) (by omega) (fun M4 X4 h => j_wd (by show cn.1 + 0 ≤ cn.1 + 3; omega) (by show cn.2 + 0 ≤ cn.2 + 197; omega) (kk M4 X4 (IvE_mono h (by omega))))
theorem R_text (hG : gOK G) (hf : zFm G) (hb : b ≤ 700000000) (hv : IvE b M X) (hL : zoL G 2 ≤ 3072) (hi : i + 5 < zoL G 2) (h1 : cn.1 + 3 ≤ 600000) (h2 : cn.2 + 197 ≤ 7302250) (kk : ∀ M4 X4, IvE (b + 800) M4 X4 → zAt G miL_law (zRm 2048 600000 7302250) Q 1697 (lvL i) [] M4 X4 (cn.1 + 3, cn.2 + 197)) : zAt G miL_law (zRm 2048 600000 7302250) Q 1196 (lvL i) [] M X cn := by
  obtain ⟨p, c, f, hv⟩ := hv
  have hr := hv.1.1
  exact L_text ⟨hr.c, hr.hi (by decide)⟩ hL hi (op_text hv hf ) (by omega) (by omega) (fun M4 X4 h => j_wd (by show cn.1 + 3 ≤ cn.1 + 3; omega) (by show cn.2 + 197 ≤ cn.2 + 197; omega) (kk M4 X4 (IvE_mono h (by omega))))
theorem R_textTold (hG : gOK G) (hf : zFm G) (hb : b ≤ 700000000) (hv : IvE b M X) (hL : zoL G 2 ≤ 3072) (hi : i + 5 < zoL G 2) (h1 : cn.1 + 3 ≤ 600000) (h2 : cn.2 + 197 ≤ 7302250) (kk : ∀ M4 X4, IvE (b + 800) M4 X4 → zAt G miL_law (zRm 2048 600000 7302250) Q 1697 (lvL i) [] M4 X4 (cn.1 + 3, cn.2 + 197)) : zAt G miL_law (zRm 2048 600000 7302250) Q 1209 (lvL i) [] M X cn := by
  obtain ⟨p, c, f, hv⟩ := hv
  have hr := hv.1.1
  exact L_textTold ⟨hr.c, hr.hi (by decide)⟩ hL hi (op_textTold hv  (scV G (i + 1)) (scV G (i + 2))) (by omega) (by omega) (fun M4 X4 h => j_wd (by show cn.1 + 0 ≤ cn.1 + 3; omega) (by show cn.2 + 0 ≤ cn.2 + 197; omega) (kk M4 X4 (IvE_mono h (by omega))))
theorem R_why (hG : gOK G) (hf : zFm G) (hb : b ≤ 700000000) (hv : IvE b M X) (hL : zoL G 2 ≤ 3072) (hi : i + 5 < zoL G 2) (h1 : cn.1 + 3 ≤ 600000) (h2 : cn.2 + 197 ≤ 7302250) (kk : ∀ M4 X4, IvE (b + 800) M4 X4 → zAt G miL_law (zRm 2048 600000 7302250) Q 1697 (lvL i) [] M4 X4 (cn.1 + 3, cn.2 + 197)) : zAt G miL_law (zRm 2048 600000 7302250) Q 1242 (lvL i) [] M X cn := by
  obtain ⟨p, c, f, hv⟩ := hv
  have hr := hv.1.1
  exact L_why ⟨hr.c, hr.hi (by decide)⟩ hL hi (op_why hv  (scV G (i + 1))) (by omega) (by omega) (fun M4 X4 h => j_wd (by show cn.1 + 0 ≤ cn.1 + 3; omega) (by show cn.2 + 0 ≤ cn.2 + 197; omega) (kk M4 X4 (IvE_mono h (by omega))))
theorem R_sheet (hG : gOK G) (hf : zFm G) (hb : b ≤ 700000000) (hv : IvE b M X) (hL : zoL G 2 ≤ 3072) (hi : i + 5 < zoL G 2) (h1 : cn.1 + 3 ≤ 600000) (h2 : cn.2 + 197 ≤ 7302250) (kk : ∀ M4 X4, IvE (b + 800) M4 X4 → zAt G miL_law (zRm 2048 600000 7302250) Q 1697 (lvL i) [] M4 X4 (cn.1 + 3, cn.2 + 197)) : zAt G miL_law (zRm 2048 600000 7302250) Q 1265 (lvL i) [] M X cn := by
  obtain ⟨p, c, f, hv⟩ := hv
  have hr := hv.1.1
  exact L_sheet ⟨hr.c, hr.hi (by decide)⟩ hL hi (op_sheet hv  (scV G (i + 1)) (scV G (i + 2)) (scV G (i + 3))) (by omega) (by omega) (fun M4 X4 h => j_wd (by show cn.1 + 0 ≤ cn.1 + 3; omega) (by show cn.2 + 0 ≤ cn.2 + 197; omega) (kk M4 X4 (IvE_mono h (by omega))))
theorem R_mark (hG : gOK G) (hf : zFm G) (hb : b ≤ 700000000) (hv : IvE b M X) (hL : zoL G 2 ≤ 3072) (hi : i + 5 < zoL G 2) (h1 : cn.1 + 3 ≤ 600000) (h2 : cn.2 + 197 ≤ 7302250) (kk : ∀ M4 X4, IvE (b + 800) M4 X4 → zAt G miL_law (zRm 2048 600000 7302250) Q 1697 (lvL i) [] M4 X4 (cn.1 + 3, cn.2 + 197)) : zAt G miL_law (zRm 2048 600000 7302250) Q 1308 (lvL i) [] M X cn := by
  obtain ⟨p, c, f, hv⟩ := hv
  have hr := hv.1.1
  exact L_mark ⟨hr.c, hr.hi (by decide)⟩ hL hi (op_mark hv  (scV G (i + 1)) (scV G (i + 2)) (scV G (i + 3))) (by omega) (by omega) (fun M4 X4 h => j_wd (by show cn.1 + 0 ≤ cn.1 + 3; omega) (by show cn.2 + 0 ≤ cn.2 + 197; omega) (kk M4 X4 (IvE_mono h (by omega))))
theorem R_pour (hG : gOK G) (hf : zFm G) (hb : b ≤ 700000000) (hv : IvE b M X) (hL : zoL G 2 ≤ 3072) (hi : i + 5 < zoL G 2) (h1 : cn.1 + 3 ≤ 600000) (h2 : cn.2 + 197 ≤ 7302250) (kk : ∀ M4 X4, IvE (b + 800) M4 X4 → zAt G miL_law (zRm 2048 600000 7302250) Q 1697 (lvL i) [] M4 X4 (cn.1 + 3, cn.2 + 197)) : zAt G miL_law (zRm 2048 600000 7302250) Q 1351 (lvL i) [] M X cn := by
  obtain ⟨p, c, f, hv⟩ := hv
  have hr := hv.1.1
  exact L_pour ⟨hr.c, hr.hi (by decide)⟩ hL hi (op_pour hv  (scV G (i + 1))) (by omega) (by omega) (fun M4 X4 h => j_wd (by show cn.1 + 0 ≤ cn.1 + 3; omega) (by show cn.2 + 0 ≤ cn.2 + 197; omega) (kk M4 X4 (IvE_mono h (by omega))))
theorem R_reads (hG : gOK G) (hf : zFm G) (hb : b ≤ 700000000) (hv : IvE b M X) (hL : zoL G 2 ≤ 3072) (hi : i + 5 < zoL G 2) (h1 : cn.1 + 3 ≤ 600000) (h2 : cn.2 + 197 ≤ 7302250) (kk : ∀ M4 X4, IvE (b + 800) M4 X4 → zAt G miL_law (zRm 2048 600000 7302250) Q 1697 (lvL i) [] M4 X4 (cn.1 + 3, cn.2 + 197)) : zAt G miL_law (zRm 2048 600000 7302250) Q 1374 (lvL i) [] M X cn := by
  obtain ⟨p, c, f, hv⟩ := hv
  have hr := hv.1.1
  exact L_reads ⟨hr.c, hr.hi (by decide)⟩ hL hi (op_reads hv  (scV G (i + 1))) (by omega) (by omega) (fun M4 X4 h => j_wd (by show cn.1 + 0 ≤ cn.1 + 3; omega) (by show cn.2 + 0 ≤ cn.2 + 197; omega) (kk M4 X4 (IvE_mono h (by omega))))
theorem R_copy (hG : gOK G) (hf : zFm G) (hb : b ≤ 700000000) (hv : IvE b M X) (hL : zoL G 2 ≤ 3072) (hi : i + 5 < zoL G 2) (h1 : cn.1 + 3 ≤ 600000) (h2 : cn.2 + 197 ≤ 7302250) (kk : ∀ M4 X4, IvE (b + 800) M4 X4 → zAt G miL_law (zRm 2048 600000 7302250) Q 1697 (lvL i) [] M4 X4 (cn.1 + 3, cn.2 + 197)) : zAt G miL_law (zRm 2048 600000 7302250) Q 1397 (lvL i) [] M X cn := by
  obtain ⟨p, c, f, hv⟩ := hv
  have hr := hv.1.1
  exact L_copy ⟨hr.c, hr.hi (by decide)⟩ hL hi (op_copy hv  (scV G (i + 1)) (scV G (i + 2)) (scV G (i + 3)) (scV G (i + 4)) (scV G (i + 5))) (by omega) (by omega) (fun M4 X4 h => j_wd (by show cn.1 + 0 ≤ cn.1 + 3; omega) (by show cn.2 + 0 ≤ cn.2 + 197; omega) (kk M4 X4 (IvE_mono h (by omega))))
theorem R_lay (hG : gOK G) (hf : zFm G) (hb : b ≤ 700000000) (hv : IvE b M X) (hL : zoL G 2 ≤ 3072) (hi : i + 5 < zoL G 2) (h1 : cn.1 + 3 ≤ 600000) (h2 : cn.2 + 197 ≤ 7302250) (kk : ∀ M4 X4, IvE (b + 800) M4 X4 → zAt G miL_law (zRm 2048 600000 7302250) Q 1697 (lvL i) [] M4 X4 (cn.1 + 3, cn.2 + 197)) : zAt G miL_law (zRm 2048 600000 7302250) Q 1460 (lvL i) [] M X cn := by
  obtain ⟨p, c, f, hv⟩ := hv
  have hr := hv.1.1
  exact L_lay ⟨hr.c, hr.hi (by decide)⟩ hL hi (op_lay hv  (scV G (i + 1)) (scV G (i + 2)) (scV G (i + 3))) (by omega) (by omega) (fun M4 X4 h => j_wd (by show cn.1 + 0 ≤ cn.1 + 3; omega) (by show cn.2 + 0 ≤ cn.2 + 197; omega) (kk M4 X4 (IvE_mono h (by omega))))
theorem R_ask (hG : gOK G) (hf : zFm G) (hb : b ≤ 700000000) (hv : IvE b M X) (hL : zoL G 2 ≤ 3072) (hi : i + 5 < zoL G 2) (h1 : cn.1 + 3 ≤ 600000) (h2 : cn.2 + 197 ≤ 7302250) (kk : ∀ M4 X4, IvE (b + 800) M4 X4 → zAt G miL_law (zRm 2048 600000 7302250) Q 1697 (lvL i) [] M4 X4 (cn.1 + 3, cn.2 + 197)) : zAt G miL_law (zRm 2048 600000 7302250) Q 1503 (lvL i) [] M X cn := by
  obtain ⟨p, c, f, hv⟩ := hv
  have hr := hv.1.1
  exact L_ask ⟨hr.c, hr.hi (by decide)⟩ hL hi (op_ask hv hG (scV G (i + 1)) (scV G (i + 2))) (by omega) (by omega) (fun M4 X4 h => j_wd (by show cn.1 + 0 ≤ cn.1 + 3; omega) (by show cn.2 + 0 ≤ cn.2 + 197; omega) (kk M4 X4 (IvE_mono h (by omega))))
theorem R_item (hG : gOK G) (hf : zFm G) (hb : b ≤ 700000000) (hv : IvE b M X) (hL : zoL G 2 ≤ 3072) (hi : i + 5 < zoL G 2) (h1 : cn.1 + 3 ≤ 600000) (h2 : cn.2 + 197 ≤ 7302250) (kk : ∀ M4 X4, IvE (b + 800) M4 X4 → zAt G miL_law (zRm 2048 600000 7302250) Q 1697 (lvL i) [] M4 X4 (cn.1 + 3, cn.2 + 197)) : zAt G miL_law (zRm 2048 600000 7302250) Q 1536 (lvL i) [] M X cn := by
  obtain ⟨p, c, f, hv⟩ := hv
  have hr := hv.1.1
  exact L_item ⟨hr.c, hr.hi (by decide)⟩ hL hi (op_item hv  (scV G (i + 1)) (scV G (i + 2))) (by omega) (by omega) (fun M4 X4 h => j_wd (by show cn.1 + 0 ≤ cn.1 + 3; omega) (by show cn.2 + 0 ≤ cn.2 + 197; omega) (kk M4 X4 (IvE_mono h (by omega))))
theorem R_rest (hG : gOK G) (hf : zFm G) (hb : b ≤ 700000000) (hv : IvE b M X) (hL : zoL G 2 ≤ 3072) (hi : i + 5 < zoL G 2) (h1 : cn.1 + 3 ≤ 600000) (h2 : cn.2 + 197 ≤ 7302250) (kk : ∀ M4 X4, IvE (b + 800) M4 X4 → zAt G miL_law (zRm 2048 600000 7302250) Q 1697 (lvL i) [] M4 X4 (cn.1 + 3, cn.2 + 197)) : zAt G miL_law (zRm 2048 600000 7302250) Q 1569 (lvL i) [] M X cn := by
  obtain ⟨p, c, f, hv⟩ := hv
  have hr := hv.1.1
  exact L_rest ⟨hr.c, hr.hi (by decide)⟩ hL hi (op_rest hv  (scV G (i + 1)) (scV G (i + 2))) (by omega) (by omega) (fun M4 X4 h => j_wd (by show cn.1 + 0 ≤ cn.1 + 3; omega) (by show cn.2 + 0 ≤ cn.2 + 197; omega) (kk M4 X4 (IvE_mono h (by omega))))
theorem R_tell (hG : gOK G) (hf : zFm G) (hb : b ≤ 700000000) (hv : IvE b M X) (hL : zoL G 2 ≤ 3072) (hi : i + 5 < zoL G 2) (h1 : cn.1 + 3 ≤ 600000) (h2 : cn.2 + 197 ≤ 7302250) (kk : ∀ M4 X4, IvE (b + 800) M4 X4 → zAt G miL_law (zRm 2048 600000 7302250) Q 1697 (lvL i) [] M4 X4 (cn.1 + 3, cn.2 + 197)) : zAt G miL_law (zRm 2048 600000 7302250) Q 1602 (lvL i) [] M X cn := by
  obtain ⟨p, c, f, hv⟩ := hv
  have hr := hv.1.1
  exact L_tell ⟨hr.c, hr.hi (by decide)⟩ hL hi (op_tell hv  (scV G (i + 1))) (by omega) (by omega) (fun M4 X4 h => j_wd (by show cn.1 + 0 ≤ cn.1 + 3; omega) (by show cn.2 + 0 ≤ cn.2 + 197; omega) (kk M4 X4 (IvE_mono h (by omega))))
theorem R_check (hG : gOK G) (hf : zFm G) (hb : b ≤ 700000000) (hv : IvE b M X) (hL : zoL G 2 ≤ 3072) (hi : i + 5 < zoL G 2) (h1 : cn.1 + 3 ≤ 600000) (h2 : cn.2 + 197 ≤ 7302250) (kk : ∀ M4 X4, IvE (b + 800) M4 X4 → zAt G miL_law (zRm 2048 600000 7302250) Q 1697 (lvL i) [] M4 X4 (cn.1 + 3, cn.2 + 197)) : zAt G miL_law (zRm 2048 600000 7302250) Q 1625 (lvL i) [] M X cn := by
  obtain ⟨p, c, f, hv⟩ := hv
  have hr := hv.1.1
  exact L_check ⟨hr.c, hr.hi (by decide)⟩ hL hi (op_check hv hb (scV G (i + 1))) (by omega) (by omega) (fun M4 X4 h => j_wd (by show cn.1 + 0 ≤ cn.1 + 3; omega) (by show cn.2 + 0 ≤ cn.2 + 197; omega) (kk M4 X4 (IvE_mono h (by omega))))
theorem R_keep (hG : gOK G) (hf : zFm G) (hb : b ≤ 700000000) (hv : IvE b M X) (hL : zoL G 2 ≤ 3072) (hi : i + 5 < zoL G 2) (h1 : cn.1 + 3 ≤ 600000) (h2 : cn.2 + 197 ≤ 7302250) (kk : ∀ M4 X4, IvE (b + 800) M4 X4 → zAt G miL_law (zRm 2048 600000 7302250) Q 1697 (lvL i) [] M4 X4 (cn.1 + 3, cn.2 + 197)) : zAt G miL_law (zRm 2048 600000 7302250) Q 1648 (lvL i) [] M X cn := by
  obtain ⟨p, c, f, hv⟩ := hv
  have hr := hv.1.1
  exact L_keep ⟨hr.c, hr.hi (by decide)⟩ hL hi (op_keep hv  ) (by omega) (by omega) (fun M4 X4 h => j_wd (by show cn.1 + 0 ≤ cn.1 + 3; omega) (by show cn.2 + 0 ≤ cn.2 + 197; omega) (kk M4 X4 (IvE_mono h (by omega))))
theorem R_back (hG : gOK G) (hf : zFm G) (hb : b ≤ 700000000) (hv : IvE b M X) (hL : zoL G 2 ≤ 3072) (hi : i + 5 < zoL G 2) (h1 : cn.1 + 3 ≤ 600000) (h2 : cn.2 + 197 ≤ 7302250) (kk : ∀ M4 X4, IvE (b + 800) M4 X4 → zAt G miL_law (zRm 2048 600000 7302250) Q 1697 (lvL i) [] M4 X4 (cn.1 + 3, cn.2 + 197)) : zAt G miL_law (zRm 2048 600000 7302250) Q 1661 (lvL i) [] M X cn := by
  obtain ⟨p, c, f, hv⟩ := hv
  have hr := hv.1.1
  exact L_back ⟨hr.c, hr.hi (by decide)⟩ hL hi (op_back hv  ) (by omega) (by omega) (fun M4 X4 h => j_wd (by show cn.1 + 0 ≤ cn.1 + 3; omega) (by show cn.2 + 0 ≤ cn.2 + 197; omega) (kk M4 X4 (IvE_mono h (by omega))))
theorem R_count (hG : gOK G) (hf : zFm G) (hb : b ≤ 700000000) (hv : IvE b M X) (hL : zoL G 2 ≤ 3072) (hi : i + 5 < zoL G 2) (h1 : cn.1 + 3 ≤ 600000) (h2 : cn.2 + 197 ≤ 7302250) (kk : ∀ M4 X4, IvE (b + 800) M4 X4 → zAt G miL_law (zRm 2048 600000 7302250) Q 1697 (lvL i) [] M4 X4 (cn.1 + 3, cn.2 + 197)) : zAt G miL_law (zRm 2048 600000 7302250) Q 1674 (lvL i) [] M X cn := by
  obtain ⟨p, c, f, hv⟩ := hv
  have hr := hv.1.1
  exact L_count ⟨hr.c, hr.hi (by decide)⟩ hL hi (op_count hv  (scV G (i + 1))) (by omega) (by omega) (fun M4 X4 h => j_wd (by show cn.1 + 0 ≤ cn.1 + 3; omega) (by show cn.2 + 0 ≤ cn.2 + 197; omega) (kk M4 X4 (IvE_mono h (by omega))))
theorem L_round (hG : gOK G) (hf : zFm G) (hb : b ≤ 700000000) (hv : IvE b M X) (hL : zoL G 2 ≤ 3072) (hi : i + 5 < zoL G 2) (h1 : cn.1 + 3 ≤ 600000) (h2 : cn.2 + 197 ≤ 7302250) (kk : ∀ M4 X4, IvE (b + 800) M4 X4 → zAt G miL_law (zRm 2048 600000 7302250) Q 1697 (lvL i) [] M4 X4 (cn.1 + 3, cn.2 + 197)) : zAt G miL_law (zRm 2048 600000 7302250) Q 27 (lvL i) [] M X cn := by
  refine j_aload_n (n := 28) dL_law_27 rfl rfl ?_
  refine j_iload_n (n := 29) dL_law_28 rfl rfl ?_
  refine j_sald (n := 30) dL_law_29 rfl (by decide) (vp_inN (by omega) (by omega)) ?_
  refine j_bipush (n := 32) (v := nI 63) dL_law_30 rfl (by decide) ?_
  refine j_iand (n := 33) dL_law_32 rfl ?_
  obtain ⟨k, hk, e⟩ := and63 (zoX G 2 (nI i).toNatClampNeg)
  rw [e]
  by_cases h47 : 47 ≤ k
  · refine j_tabOut (tg := 1697) dL_law_33 (.inr (by rw [i_N (by omega)]; omega)) (by decide) ?_
    exact j_wd (by show cn.1 ≤ cn.1 + 3; omega) (by show cn.2 ≤ cn.2 + 197; omega) (kk M X (IvE_mono hv (by omega)))
  have hc : k = 0 ∨ k = 1 ∨ k = 2 ∨ k = 3 ∨ k = 4 ∨ k = 5 ∨ k = 6 ∨ k = 7 ∨ k = 8 ∨ k = 9 ∨ k = 10 ∨ k = 11 ∨ k = 12 ∨ k = 13 ∨ k = 14 ∨ k = 15 ∨ k = 16 ∨ k = 17 ∨ k = 18 ∨ k = 19 ∨ k = 20 ∨ k = 21 ∨ k = 22 ∨ k = 23 ∨ k = 24 ∨ k = 25 ∨ k = 26 ∨ k = 27 ∨ k = 28 ∨ k = 29 ∨ k = 30 ∨ k = 31 ∨ k = 32 ∨ k = 33 ∨ k = 34 ∨ k = 35 ∨ k = 36 ∨ k = 37 ∨ k = 38 ∨ k = 39 ∨ k = 40 ∨ k = 41 ∨ k = 42 ∨ k = 43 ∨ k = 44 ∨ k = 45 ∨ k = 46 := by omega
  clear hk h47 e
  rcases hc with rfl | rfl | rfl | rfl | rfl | rfl | rfl | rfl | rfl | rfl | rfl | rfl | rfl | rfl | rfl | rfl | rfl | rfl | rfl | rfl | rfl | rfl | rfl | rfl | rfl | rfl | rfl | rfl | rfl | rfl | rfl | rfl | rfl | rfl | rfl | rfl | rfl | rfl | rfl | rfl | rfl | rfl | rfl | rfl | rfl | rfl | rfl
  · exact j_tabIn (i := 0) (tg := 236) dL_law_33 (by decide) (by decide) rfl (by decide) (R_one hG hf hb hv hL hi h1 h2 kk)
  · exact j_tabIn (i := 1) (tg := 299) dL_law_33 (by decide) (by decide) rfl (by decide) (R_told hG hf hb hv hL hi h1 h2 kk)
  · exact j_tabIn (i := 2) (tg := 332) dL_law_33 (by decide) (by decide) rfl (by decide) (R_as hG hf hb hv hL hi h1 h2 kk)
  · exact j_tabIn (i := 3) (tg := 365) dL_law_33 (by decide) (by decide) rfl (by decide) (R_turns hG hf hb hv hL hi h1 h2 kk)
  · exact j_tabIn (i := 4) (tg := 398) dL_law_33 (by decide) (by decide) rfl (by decide) (R_set hG hf hb hv hL hi h1 h2 kk)
  · exact j_tabIn (i := 5) (tg := 441) dL_law_33 (by decide) (by decide) rfl (by decide) (R_lock hG hf hb hv hL hi h1 h2 kk)
  · exact j_tabIn (i := 6) (tg := 494) dL_law_33 (by decide) (by decide) rfl (by decide) (R_about hG hf hb hv hL hi h1 h2 kk)
  · exact j_tabIn (i := 7) (tg := 527) dL_law_33 (by decide) (by decide) rfl (by decide) (R_sets hG hf hb hv hL hi h1 h2 kk)
  · exact j_tabIn (i := 8) (tg := 570) dL_law_33 (by decide) (by decide) rfl (by decide) (R_mends hG hf hb hv hL hi h1 h2 kk)
  · exact j_tabIn (i := 9) (tg := 593) dL_law_33 (by decide) (by decide) rfl (by decide) (R_rule hG hf hb hv hL hi h1 h2 kk)
  · exact j_tabIn (i := 10) (tg := 626) dL_law_33 (by decide) (by decide) rfl (by decide) (R_at hG hf hb hv hL hi h1 h2 kk)
  · exact j_tabIn (i := 11) (tg := 649) dL_law_33 (by decide) (by decide) rfl (by decide) (R_deal hG hf hb hv hL hi h1 h2 kk)
  · exact j_tabIn (i := 12) (tg := 672) dL_law_33 (by decide) (by decide) rfl (by decide) (R_seed hG hf hb hv hL hi h1 h2 kk)
  · exact j_tabIn (i := 13) (tg := 695) dL_law_33 (by decide) (by decide) rfl (by decide) (R_passes hG hf hb hv hL hi h1 h2 kk)
  · exact j_tabIn (i := 14) (tg := 728) dL_law_33 (by decide) (by decide) rfl (by decide) (R_days hG hf hb hv hL hi h1 h2 kk)
  · exact j_tabIn (i := 15) (tg := 751) dL_law_33 (by decide) (by decide) rfl (by decide) (R_town hG hf hb hv hL hi h1 h2 kk)
  · exact j_tabIn (i := 16) (tg := 774) dL_law_33 (by decide) (by decide) rfl (by decide) (R_reach hG hf hb hv hL hi h1 h2 kk)
  · exact j_tabIn (i := 17) (tg := 797) dL_law_33 (by decide) (by decide) rfl (by decide) (R_way hG hf hb hv hL hi h1 h2 kk)
  · exact j_tabIn (i := 18) (tg := 830) dL_law_33 (by decide) (by decide) rfl (by decide) (R_pardoned hG hf hb hv hL hi h1 h2 kk)
  · exact j_tabIn (i := 19) (tg := 853) dL_law_33 (by decide) (by decide) rfl (by decide) (R_just hG hf hb hv hL hi h1 h2 kk)
  · exact j_tabIn (i := 20) (tg := 886) dL_law_33 (by decide) (by decide) rfl (by decide) (R_sorry_ hG hf hb hv hL hi h1 h2 kk)
  · exact j_tabIn (i := 21) (tg := 919) dL_law_33 (by decide) (by decide) rfl (by decide) (R_behind hG hf hb hv hL hi h1 h2 kk)
  · exact j_tabIn (i := 22) (tg := 952) dL_law_33 (by decide) (by decide) rfl (by decide) (R_enters hG hf hb hv hL hi h1 h2 kk)
  · exact j_tabIn (i := 23) (tg := 985) dL_law_33 (by decide) (by decide) rfl (by decide) (R_freed hG hf hb hv hL hi h1 h2 kk)
  · exact j_tabIn (i := 24) (tg := 1018) dL_law_33 (by decide) (by decide) rfl (by decide) (R_becomes hG hf hb hv hL hi h1 h2 kk)
  · exact j_tabIn (i := 25) (tg := 1061) dL_law_33 (by decide) (by decide) rfl (by decide) (R_like hG hf hb hv hL hi h1 h2 kk)
  · exact j_tabIn (i := 26) (tg := 1094) dL_law_33 (by decide) (by decide) rfl (by decide) (R_fee hG hf hb hv hL hi h1 h2 kk)
  · exact j_tabIn (i := 27) (tg := 1107) dL_law_33 (by decide) (by decide) rfl (by decide) (R_fine hG hf hb hv hL hi h1 h2 kk)
  · exact j_tabIn (i := 28) (tg := 1130) dL_law_33 (by decide) (by decide) rfl (by decide) (R_feed hG hf hb hv hL hi h1 h2 kk)
  · exact j_tabIn (i := 29) (tg := 1173) dL_law_33 (by decide) (by decide) rfl (by decide) (R_trim hG hf hb hv hL hi h1 h2 kk)
  · exact j_tabIn (i := 30) (tg := 1196) dL_law_33 (by decide) (by decide) rfl (by decide) (R_text hG hf hb hv hL hi h1 h2 kk)
  · exact j_tabIn (i := 31) (tg := 1209) dL_law_33 (by decide) (by decide) rfl (by decide) (R_textTold hG hf hb hv hL hi h1 h2 kk)
  · exact j_tabIn (i := 32) (tg := 1242) dL_law_33 (by decide) (by decide) rfl (by decide) (R_why hG hf hb hv hL hi h1 h2 kk)
  · exact j_tabIn (i := 33) (tg := 1265) dL_law_33 (by decide) (by decide) rfl (by decide) (R_sheet hG hf hb hv hL hi h1 h2 kk)
  · exact j_tabIn (i := 34) (tg := 1308) dL_law_33 (by decide) (by decide) rfl (by decide) (R_mark hG hf hb hv hL hi h1 h2 kk)
  · exact j_tabIn (i := 35) (tg := 1351) dL_law_33 (by decide) (by decide) rfl (by decide) (R_pour hG hf hb hv hL hi h1 h2 kk)
  · exact j_tabIn (i := 36) (tg := 1374) dL_law_33 (by decide) (by decide) rfl (by decide) (R_reads hG hf hb hv hL hi h1 h2 kk)
  · exact j_tabIn (i := 37) (tg := 1397) dL_law_33 (by decide) (by decide) rfl (by decide) (R_copy hG hf hb hv hL hi h1 h2 kk)
  · exact j_tabIn (i := 38) (tg := 1460) dL_law_33 (by decide) (by decide) rfl (by decide) (R_lay hG hf hb hv hL hi h1 h2 kk)
  · exact j_tabIn (i := 39) (tg := 1503) dL_law_33 (by decide) (by decide) rfl (by decide) (R_ask hG hf hb hv hL hi h1 h2 kk)
  · exact j_tabIn (i := 40) (tg := 1536) dL_law_33 (by decide) (by decide) rfl (by decide) (R_item hG hf hb hv hL hi h1 h2 kk)
  · exact j_tabIn (i := 41) (tg := 1569) dL_law_33 (by decide) (by decide) rfl (by decide) (R_rest hG hf hb hv hL hi h1 h2 kk)
  · exact j_tabIn (i := 42) (tg := 1602) dL_law_33 (by decide) (by decide) rfl (by decide) (R_tell hG hf hb hv hL hi h1 h2 kk)
  · exact j_tabIn (i := 43) (tg := 1625) dL_law_33 (by decide) (by decide) rfl (by decide) (R_check hG hf hb hv hL hi h1 h2 kk)
  · exact j_tabIn (i := 44) (tg := 1648) dL_law_33 (by decide) (by decide) rfl (by decide) (R_keep hG hf hb hv hL hi h1 h2 kk)
  · exact j_tabIn (i := 45) (tg := 1661) dL_law_33 (by decide) (by decide) rfl (by decide) (R_back hG hf hb hv hL hi h1 h2 kk)
  · exact j_tabIn (i := 46) (tg := 1674) dL_law_33 (by decide) (by decide) rfl (by decide) (R_count hG hf hb hv hL hi h1 h2 kk)
end LAWB
