-- FIRST B: both objects as they are made are as they must be
theorem Ms_tap : tapR Ms := by
  have h1 : ∀ i, i < 96 → Ms 175 i = nI 0 := by decide +kernel
  have h2 : ∀ i, i < 96 → Ms 122 i = sb 0 := by decide +kernel
  exact ⟨fun _ => 0, fun _ => Nat.zero_le _, fun i hi => ⟨h1 i hi, Nat.zero_le _⟩, fun i hi => h2 i hi⟩
theorem Ms_fld : fldR Ms := ⟨fun k => tN (Ms 160 k), funext (fun k => (nI_tN _).symm), by decide +kernel, by decide +kernel, by decide +kernel, by decide +kernel, by decide +kernel, by decide +kernel, by decide +kernel, by decide +kernel⟩
theorem Ms_wai : waiR Ms := by
  have h1 : ∀ i, i < 60 → Ms 125 i = Ms 179 i := by decide +kernel
  exact h1
theorem Ms_she : sheR Ms := by
  unfold sheR
  decide +kernel
theorem Ms_slo : sloR Ms := by
  unfold sloR
  decide +kernel
theorem Ms_Ax : Ax Ms := ⟨Ms_tap, Ms_fld, Ms_wai, Ms_she, Ms_slo⟩
theorem Ms_kept : tN (Ms 16 3) = 0 := by decide +kernel
theorem c00_v : c00 0 = 0 ∧ c00 1 = 0 ∧ c00 2 = 0 ∧ c00 3 = 0 ∧ c00 4 = 0 ∧ c00 5 = 0 ∧ c00 6 = 30 ∧ c00 7 = 10 ∧ c00 8 = 0 := by decide
theorem p00_wf : wf p00 0 9999 := by
  obtain ⟨v0, v1, v2, v3, v4, v5, v6, v7, v8⟩ := c00_v
  have e := p00_c
  refine ⟨⟨by rw [e 0 (by omega)]; omega, fun k hk => ?_⟩, ⟨by rw [e 8 (by omega)]; omega, fun k hk => ?_⟩, ⟨by rw [e 1 (by omega)]; omega, fun t ht => ?_⟩, ?_⟩
  · rw [e 0 (by omega)] at hk; omega
  · rw [e 8 (by omega)] at hk; omega
  · rw [e 1 (by omega)] at ht; omega
  · rw [e 2 (by omega), e 3 (by omega), e 4 (by omega), e 5 (by omega), e 6 (by omega), e 7 (by omega)]
    omega
set_option maxRecDepth 100000 in
theorem Xs_none : (∀ k, xR Xs 20 k = none) ∧ (∀ k, xR Xs 21 k = none) ∧ (∀ k, xR Xs 51 k = none) ∧ (∀ k, xR Xs 52 k = none) ∧ (∀ k, xR Xs 82 k = none) ∧ (∀ k, xR Xs 83 k = none) :=
  ⟨fun _ => rfl, fun _ => rfl, fun _ => rfl, fun _ => rfl, fun _ => rfl, fun _ => rfl⟩
theorem tR_none {X : zX} {B a3 a4 : Nat} (e3 : B + 3 = a3) (e4 : B + 4 = a4) (h3 : ∀ k, xR X a3 k = none) (h4 : ∀ k, xR X a4 k = none) : tR X B := fun k q h => by
  subst e3; subst e4
  rcases h with h | h
  · rw [h3 k] at h; cases h
  · rw [h4 k] at h; cases h
theorem tx_none {M : zMem} {X : zX} {B a4 : Nat} {c : Nat → Nat} (h1 : c 1 = 0) (e4 : B + 4 = a4) (h4 : ∀ k, xR X a4 k = none) : tx M X B c :=
  ⟨fun t ht => by rw [h1] at ht; omega, fun key hk => by subst e4; rw [h1, h4]; rfl⟩
theorem Xs_sk : skX Xs := ⟨Xs_kR, Xs_kM, ⟨tR_none (X := Xs) (B := 17) (a3 := 20) (a4 := 21) rfl rfl Xs_none.1 Xs_none.2.1, tR_none (X := Xs) (B := 48) (a3 := 51) (a4 := 52) rfl rfl Xs_none.2.2.1 Xs_none.2.2.2.1, tR_none (X := Xs) (B := 79) (a3 := 82) (a4 := 83) rfl rfl Xs_none.2.2.2.2.1 Xs_none.2.2.2.2.2⟩, by rw [Xs_z]⟩
theorem Iv_first : IvE 0 Ms Xs := by
  have w1 : wiT c00 p00 1 = 0 := (wiT_lo _ _ (by decide)).trans c00_v.2.1
  refine ⟨p00, wiT c00 p00, c00, Xs_sk, Ms_mm, ?_, fun i _ => ?_, p00_wf, tx_none (X := Xs) (B := 17) (a4 := 21) w1 rfl Xs_none.2.1, ⟨Ms_48, .inl Ms_kept⟩, Ms_Ax⟩
  · rw [cm_lo (e := c00) (fun i hi => wiT_lo _ _ hi)]
    exact Ms_17
  · by_cases h : i < 100
    · rw [wiT_lo _ _ h, p00_c i (by omega)]
    · rw [wiT_hi _ _ (by omega)]
