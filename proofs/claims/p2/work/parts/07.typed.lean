/-! small facts for the typed walk -/
theorem hx_andR {x y : Int32} {K : Int} (h1 : 0 ≤ y.toInt) (h2 : y.toInt = K) : 0 ≤ (x &&& y).toInt ∧ (x &&& y).toInt ≤ K := by
  subst h2
  have n1 : (x.toBitVec &&& y.toBitVec).toNat ≤ y.toBitVec.toNat := by rw [BitVec.toNat_and]; exact Nat.and_le_right
  have b1 := y.toBitVec.isLt
  have e1 : y.toInt = y.toBitVec.toInt := rfl
  have e2 : (x &&& y).toInt = (x.toBitVec &&& y.toBitVec).toInt := rfl
  rw [e1] at h1 ⊢
  rw [e2]
  rw [BitVec.toInt_eq_toNat_cond] at h1 ⊢
  rw [BitVec.toInt_eq_toNat_cond]
  split at h1 <;> split <;> (try split) <;> omega
theorem hx_andL {x y : Int32} {K : Int} (h1 : 0 ≤ x.toInt) (h2 : x.toInt = K) : 0 ≤ (x &&& y).toInt ∧ (x &&& y).toInt ≤ K := by
  rw [Int32.and_comm]
  exact hx_andR h1 h2
theorem hx_nar01 {v : Int32} (h : v.toInt = 0 ∨ v.toInt = 1) : narrow .boolean (.int v) = .int v := by
  rcases h with h | h
  · have : v = 0 := Int32.toInt_inj.mp (h.trans (by decide))
    subst this; rfl
  · have : v = 1 := Int32.toInt_inj.mp (h.trans (by decide))
    subst this; rfl
theorem hx_ne0 {y : Int32} (h : y.toInt ≠ 0) : ¬ y = 0 := fun z => h (by rw [z]; decide)
