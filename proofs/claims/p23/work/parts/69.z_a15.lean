/-! A COMPARISON, AS THE CLASS HAS IT -/
theorem hv_mskN {x y : Int32} (k : Nat) (hk : k < 32) (m : Int32) (hm : m.toBitVec.toNat = 2 ^ k - 1) (h : 0 ≤ x.toInt) (e : y = x &&& m) : y.toInt = x.toInt % (2 ^ k : Nat) := by
  have hx := hv_i32n h
  have h3 : y.toBitVec.toNat = x.toBitVec.toNat % 2 ^ k := by
    have h4 : y.toBitVec = x.toBitVec &&& m.toBitVec := by rw [e]; rfl
    rw [h4, BitVec.toNat_and, hm, Nat.and_two_pow_sub_one_eq_mod]
  have hl : x.toBitVec.toNat % 2 ^ k ≤ x.toBitVec.toNat := Nat.mod_le _ _
  have hy : y.toInt = (y.toBitVec.toNat : Int) := by
    show y.toBitVec.toInt = _
    rw [BitVec.toInt_eq_toNat_of_lt (by omega)]
  rw [hy, h3, hx.1]
  exact Int.natCast_emod _ _
theorem hv_and7 {x y : Int32} (h : 0 ≤ x.toInt) (e : y = x &&& 7) : y.toInt = x.toInt % 8 := hv_mskN 3 (by decide) 7 (by decide) h e
theorem hv_and1 {x y : Int32} (h : 0 ≤ x.toInt) (e : y = x &&& 1) : y.toInt = x.toInt % 2 := hv_mskN 1 (by decide) 1 (by decide) h e
theorem hv_shrN {x y : Int32} (k : Nat) (s : Int32) (hs : (s.toBitVec.smod 32).toNat = k) (h : 0 ≤ x.toInt) (e : y = x >>> s) : y.toInt = x.toInt / (2 ^ k : Nat) := by
  have hx := hv_i32n h
  have h4 : y.toBitVec = x.toBitVec.sshiftRight k := by
    rw [e, ← hs]; rfl
  have hy : y.toInt = y.toBitVec.toInt := rfl
  rw [hy, h4, BitVec.toInt_sshiftRight, Int.shiftRight_eq_div_pow]
  rfl
