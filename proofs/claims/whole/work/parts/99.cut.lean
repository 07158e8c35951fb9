theorem cu_bb (x : BitVec 32) : ((x <<< 24).sshiftRight 24).toInt = x.toInt.bmod (2 ^ 8) := by
  rw [BitVec.toInt_sshiftRight, BitVec.toInt_shiftLeft, BitVec.toInt_eq_toNat_bmod, Int.bmod_bmod_of_dvd (by decide)]
  have h := x.isLt
  generalize x.toNat = n at h ⊢
  rw [Nat.shiftLeft_eq, Int.shiftRight_eq_div_pow]
  simp only [Int.bmod_def]
  omega
theorem cu_bs (x : BitVec 32) : ((x <<< 16).sshiftRight 16).toInt = x.toInt.bmod (2 ^ 16) := by
  rw [BitVec.toInt_sshiftRight, BitVec.toInt_shiftLeft, BitVec.toInt_eq_toNat_bmod, Int.bmod_bmod_of_dvd (by decide)]
  have h := x.isLt
  generalize x.toNat = n at h ⊢
  rw [Nat.shiftLeft_eq, Int.shiftRight_eq_div_pow]
  simp only [Int.bmod_def]
  omega
theorem cu_24 (v : Int) : sb_ishr (sb_ishl v 24) 24 = sb_i2b v := by
  unfold sb_ishr sb_ishl sb_i2b
  rw [lg_i2b_toInt, show ∀ y : Int32, Int32.ofInt y.toInt = y from fun y => Int32.ofInt_toInt y]
  exact cu_bb (Int32.ofInt v).toBitVec
theorem cu_16 (v : Int) : sb_ishr (sb_ishl v 16) 16 = sb_i2s v := by
  unfold sb_ishr sb_ishl sb_i2s
  rw [lg_i2s_toInt, show ∀ y : Int32, Int32.ofInt y.toInt = y from fun y => Int32.ofInt_toInt y]
  exact cu_bs (Int32.ofInt v).toBitVec
theorem cu_ct (lane v : Int) : cu_ lane v = ct_ lane v := by
  unfold cu_ ct_
  rw [cu_24, cu_16]
