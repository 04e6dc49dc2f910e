theorem hx_dv {x y : Int32} (h0 : 0 ≤ x.toInt) (h1 : 1 ≤ y.toInt) : (x / y).toInt = x.toInt / y.toInt := by
  rw [Int32.toInt_div]
  have b := Int32.toInt_lt x
  have e : x.toInt.tdiv y.toInt = x.toInt / y.toInt := Int.tdiv_eq_ediv_of_nonneg h0
  rw [e]
  have p0 : 0 ≤ x.toInt / y.toInt := Int.ediv_nonneg h0 (by omega)
  have p1 : x.toInt / y.toInt ≤ x.toInt := Int.ediv_le_self _ h0
  rw [Int.bmod_def]
  omega
