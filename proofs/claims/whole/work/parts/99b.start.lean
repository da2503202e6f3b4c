-- START: the two objects as they are made
def X00 : zX := (fun _ _ => none, fun _ => 0, fun _ => 0, 16)
def M00 : zMem := fun _ _ => 0
def Xs1 : zX := iXRoot (zNew X00 8 0) 16
def Ms1 : zMem := iMRoot (zs M00 16 (fun _ => 0)) (zNew X00 8 0) 16
def Xs : zX := iXModel (zNew Xs1 9 0) 160
def Ms : zMem := iMModel (zs Ms1 160 (fun _ => 0)) (zNew Xs1 9 0) 160
theorem Xs1_z : xz Xs1 = 160 := by decide +kernel
theorem Xs_z : xz Xs = 181 := by decide +kernel
theorem Xs_T17 : kT Xs 17 := by unfold kT isP; decide +kernel
theorem Xs_T48 : kT Xs 48 := by unfold kT isP; decide +kernel
theorem Xs_T79 : kT Xs 79 := by unfold kT isP; decide +kernel
theorem Xs_kR : kR Xs := by
  refine ⟨⟨Xs_T17, Xs_T48, Xs_T79⟩, by decide +kernel, fun k hk => ?_, fun a ha => ?_, fun k hk => ?_, by decide +kernel, by decide +kernel, by unfold isS; decide +kernel, by unfold isP isS; decide +kernel, by decide +kernel⟩
  · have h : ∀ k, k < 13 → 0 < rR k → xR Xs 16 k = some (rR k) := by decide +kernel
    by_cases z : k < 13
    · exact h k z hk
    · exfalso
      unfold rR at hk
      split at hk <;> first | omega | simp at hk
  · have h : ∀ a, a < 127 → 0 < sC a → xc Xs a = sC a ∧ xl Xs a = sL a := by decide +kernel
    by_cases z : a < 127
    · exact h a z ha
    · exfalso
      unfold sC at ha
      split at ha <;> first | omega | simp at ha
  · have h : ∀ k, k < 4 → 0 < wR k → xR Xs 110 k = some (wR k) := by decide +kernel
    by_cases z : k < 4
    · exact h k z hk
    · exfalso
      unfold wR at hk
      split at hk <;> first | omega | simp at hk
theorem Xs_kM : kM Xs := by
  refine ⟨by decide +kernel, by decide +kernel, fun a ha => ?_, fun k hk => ?_⟩
  · have h : ∀ a, a < 181 → 0 < mA a → xc Xs a = 100 ∧ xl Xs a = mA a := by decide +kernel
    exact h a (mA_lt ha).2 ha
  · have h : ∀ k, k < 33 → 0 < mR k → xR Xs 160 k = some (mR k) := by decide +kernel
    by_cases z : k < 33
    · exact h k z hk
    · exfalso
      unfold mR at hk
      split at hk <;> first | omega | simp at hk
