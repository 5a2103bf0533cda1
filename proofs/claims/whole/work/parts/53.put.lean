theorem put_and (r : Int64) : r &&& 255 = lN (r.toUInt64.toNat % 256) := by
  apply Int64.toBitVec_inj.mp
  apply BitVec.eq_of_toNat_eq
  show (r.toBitVec &&& (255 : Int64).toBitVec).toNat = (BitVec.ofNat 64 (r.toBitVec.toNat % 256)).toNat
  rw [BitVec.toNat_and, BitVec.toNat_ofNat]
  show r.toBitVec.toNat &&& 2 ^ 8 - 1 = _
  rw [Nat.and_two_pow_sub_one_eq_mod]
  have := Nat.mod_lt r.toBitVec.toNat (show 256 > 0 by decide)
  omega
theorem put_sh (r : Int64) {k : Nat} (hk : k < 64) : ((r.toUInt64 >>> ((nI k).toInt64.toUInt64 &&& Int64.toUInt64 63)).toInt64).toUInt64.toNat = r.toUInt64.toNat / 2 ^ k := by
  have key : ∀ k, k < 64 → ((lN k).toUInt64 &&& Int64.toUInt64 63).toNat % 64 = k := by decide +kernel
  rw [nI_l (by omega)]
  show (r.toUInt64 >>> ((lN k).toUInt64 &&& Int64.toUInt64 63)).toNat = _
  rw [UInt64.toNat_shiftRight, Nat.shiftRight_eq_div_pow, key k hk]
theorem put_0 (r : Int64) : r = 0 ↔ r.toUInt64.toNat = 0 := by
  constructor
  · rintro rfl; rfl
  · intro h
    apply Int64.toBitVec_inj.mp
    apply BitVec.eq_of_toNat_eq
    exact h
