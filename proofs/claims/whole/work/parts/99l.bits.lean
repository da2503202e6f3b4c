-- BITS: bytes and shorts by shifts
theorem sar_lo (a : Int32) {s : Nat} (hs : s ≤ 24) {b : Int32} (hb : (b.toBitVec.smod 32).toNat = s) : (a >>> b) &&& nI 255 = nI (tN a / 2 ^ s % 256) := by
  apply Int32.toBitVec_inj.mp
  rw [Int32.toBitVec_and, Int32.toBitVec_shiftRight]
  show (a.toBitVec.sshiftRight (b.toBitVec.smod 32).toNat) &&& 255#32 = BitVec.ofNat 32 (a.toBitVec.toNat / 2 ^ s % 256)
  rw [hb]
  apply BitVec.eq_of_getLsbD_eq
  intro i hi
  have e255 : ∀ i, i < 32 → (255#32).getLsbD i = decide (i < 8) := by decide
  rw [BitVec.getLsbD_and, BitVec.getLsbD_sshiftRight, e255 i hi, BitVec.getLsbD_ofNat, show (256 : Nat) = 2 ^ 8 from rfl, Nat.testBit_mod_two_pow, Nat.testBit_div_two_pow]
  by_cases h8 : i < 8
  · simp [h8, hi, show s + i < 32 by omega, show ¬ 32 ≤ i by omega, BitVec.getLsbD, Nat.add_comm]
  · simp [h8]
theorem i8_mod (m : Nat) : Int32.toInt8 (nI m) = Int32.toInt8 (nI (m % 256)) := by
  apply Int8.toBitVec_inj.mp
  rw [Int32.toBitVec_toInt8, Int32.toBitVec_toInt8]
  apply BitVec.eq_of_getLsbD_eq
  intro i hi
  rw [BitVec.getLsbD_signExtend, BitVec.getLsbD_signExtend, if_pos (by omega), if_pos (by omega)]
  show (decide (i < 8) && (BitVec.ofNat 32 m).getLsbD i) = (decide (i < 8) && (BitVec.ofNat 32 (m % 256)).getLsbD i)
  rw [BitVec.getLsbD_ofNat, BitVec.getLsbD_ofNat, show (256 : Nat) = 2 ^ 8 from rfl, Nat.testBit_mod_two_pow]
  simp [hi]
theorem i8_sb : ∀ t, t < 256 → (Int32.toInt8 (nI t)).toInt32 = sb t := by decide +kernel
theorem byC_sb (a : Int32) {s : Nat} (hu : zushr (nI (tN a)) (nI s) = nI (tN a / 2 ^ s)) : byC a s = sb (tN a / 2 ^ s % 256) := by
  unfold byC
  rw [pk_vb, ← nI_tN a, hu, i8_mod, nI_tN a]
  exact i8_sb _ (Nat.mod_lt _ (by decide))
theorem short_sh (v : Int32) : (v <<< (nI 16 &&& 31)) >>> (nI 16 &&& 31) = (Int32.toInt16 v).toInt32 := by
  apply Int32.toBitVec_inj.mp
  rw [Int32.toBitVec_shiftRight, Int32.toBitVec_shiftLeft, Int16.toBitVec_toInt32, Int32.toBitVec_toInt16]
  show (v.toBitVec <<< (((nI 16 &&& 31).toBitVec.smod 32))).sshiftRight (((nI 16 &&& 31).toBitVec.smod 32)).toNat = _
  rw [show (nI 16 &&& 31).toBitVec.smod 32 = 16#32 by decide]
  apply BitVec.eq_of_getLsbD_eq
  intro i hi
  rw [BitVec.getLsbD_sshiftRight, BitVec.getLsbD_signExtend]
  rw [show v.toBitVec <<< 16#32 = v.toBitVec <<< 16 from rfl, show (16#32).toNat = 16 from rfl]
  rw [BitVec.msb_eq_getLsbD_last, BitVec.msb_eq_getLsbD_last, BitVec.getLsbD_shiftLeft, BitVec.getLsbD_shiftLeft, BitVec.getLsbD_signExtend, BitVec.getLsbD_signExtend]
  by_cases h : i < 16
  · simp [h, hi, show 16 + i < 32 by omega, show ¬ 32 ≤ i by omega]
  · simp [h, hi, show ¬ 16 + i < 32 by omega, show ¬ 32 ≤ i by omega]
