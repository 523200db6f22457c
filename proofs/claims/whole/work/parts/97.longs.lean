/-! LONG BITS -/
theorem lx_and (a b : Nat) : lN a &&& lN b = lN (a &&& b) := by
  apply Int64.toBitVec_inj.mp
  simp [lN, BitVec.ofNat_and]
theorem lx_or (a b : Nat) : lN a ||| lN b = lN (a ||| b) := by
  apply Int64.toBitVec_inj.mp
  simp [lN, BitVec.ofNat_or]
theorem lx_shl (a : Nat) : l_shl (lN a) (nI 18) = lN (a * 262144) := by
  unfold l_shl
  have e : ((nI 18).toInt64 &&& 63) = 18 := by decide
  rw [e]
  apply Int64.toBitVec_inj.mp
  have e2 : (18 : Int64).toBitVec.smod 64 = 18#64 := by decide
  rw [Int64.toBitVec_shiftLeft, e2]
  apply BitVec.eq_of_toNat_eq
  simp [lN, Nat.shiftLeft_eq]
theorem lx_shr {a : Nat} (ha : a < 9223372036854775808) : l_shr (lN a) (nI 18) = lN (a / 262144) := by
  unfold l_shr
  have e : ((nI 18).toInt64 &&& 63) = 18 := by decide
  rw [e]
  apply Int64.toBitVec_inj.mp
  have e2 : (18 : Int64).toBitVec.smod 64 = 18#64 := by decide
  rw [Int64.toBitVec_shiftRight, e2]
  apply BitVec.eq_of_toInt_eq
  have e3 : (lN a).toBitVec.toInt = (a : Int) := pk_lT ha
  have e4 : (lN (a / 262144)).toBitVec.toInt = ((a / 262144 : Nat) : Int) := pk_lT (by omega)
  rw [BitVec.toInt_sshiftRight', e3, e4]
  show (a : Int) >>> 18 = _
  rw [Int.shiftRight_eq_div_pow]
  omega
theorem lx_or18 {a c : Nat} (hc : c < 262144) : lN (a * 262144) ||| lN c = lN (a * 262144 + c) := by
  rw [lx_or]
  have h := Nat.two_pow_add_eq_or_of_lt (b := c) (i := 18) (by omega) a
  rw [Nat.mul_comm] at h
  rw [show (2 : Nat) ^ 18 = 262144 by decide] at h
  rw [h]
theorem lx_msk (a : Nat) : lN a &&& lN 262143 = lN (a % 262144) := by
  rw [lx_and]
  have h := Nat.and_two_pow_sub_one_eq_mod a 18
  rw [show (2 : Nat) ^ 18 - 1 = 262143 by decide, show (2 : Nat) ^ 18 = 262144 by decide] at h
  rw [h]
