/-! the reference packs words by shifting -/
theorem shl_or {x y : Nat} (hx : x < 2 ^ 40) (hy : y < 32) : (lN x <<< ((5 : Int32).toInt64 &&& 63)) ||| lN y = lN (x * 32 + y) := by
  have e5 : ((5 : Int32).toInt64 &&& 63) = 5 := by decide
  rw [e5]
  apply Int64.toBitVec_inj.mp
  rw [Int64.toBitVec_or, Int64.toBitVec_shiftLeft]
  apply BitVec.eq_of_toNat_eq
  have ex : (lN x).toBitVec.toNat = x := by
    show (BitVec.ofNat 64 x).toNat = x
    rw [BitVec.toNat_ofNat, Nat.mod_eq_of_lt (by omega)]
  have ey : (lN y).toBitVec.toNat = y := by
    show (BitVec.ofNat 64 y).toNat = y
    rw [BitVec.toNat_ofNat, Nat.mod_eq_of_lt (by omega)]
  have ez : (lN (x * 32 + y)).toBitVec.toNat = x * 32 + y := by
    show (BitVec.ofNat 64 (x * 32 + y)).toNat = x * 32 + y
    rw [BitVec.toNat_ofNat, Nat.mod_eq_of_lt (by omega)]
  have es : ((lN x).toBitVec <<< (Int64.toBitVec 5).smod 64).toNat = x * 32 := by
    rw [show (Int64.toBitVec 5).smod 64 = 5#64 by decide, BitVec.shiftLeft_eq', BitVec.toNat_shiftLeft, ex]
    show x <<< 5 % 2 ^ 64 = x * 32
    rw [Nat.shiftLeft_eq]; omega
  rw [BitVec.toNat_or, es, ey, ez]
  have := Nat.shiftLeft_add_eq_or_of_lt (i := 5) (b := y) (by show y < 32; exact hy) x
  rw [Nat.shiftLeft_eq] at this
  exact this.symm
