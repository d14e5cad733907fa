/-! the maps' codes, gathered -/
section GATHER
theorem shl3 {c v : Nat} (hc : c < 262144) (hv : v < 8) : (nI c <<< ((3 : Int32) &&& 31)) ||| nI v = nI (8 * c + v) := by
  apply Int32.toBitVec_inj.1
  apply BitVec.eq_of_toNat_eq
  show ((BitVec.ofNat 32 c <<< (3 : Nat)) ||| BitVec.ofNat 32 v).toNat = (BitVec.ofNat 32 (8 * c + v)).toNat
  rw [BitVec.toNat_or, BitVec.toNat_shiftLeft, BitVec.toNat_ofNat, BitVec.toNat_ofNat, BitVec.toNat_ofNat, Nat.mod_eq_of_lt (show c < 2 ^ 32 by omega), Nat.mod_eq_of_lt (show v < 2 ^ 32 by omega), Nat.mod_eq_of_lt (show 8 * c + v < 2 ^ 32 by omega), Nat.shiftLeft_eq, Nat.mod_eq_of_lt (show c * 2 ^ 3 < 2 ^ 32 by omega)]
  rw [show c * 2 ^ 3 = 2 ^ 3 * c by omega, ← Nat.two_pow_add_eq_or_of_lt (show v < 2 ^ 3 by omega)]
end GATHER
