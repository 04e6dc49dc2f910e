/-! WHAT IS LEFT OF A CLAIM, as one function -/
/-! PURE FACTS: debts, rings, what is needed -/
/-- a place of a ring is filled -/
theorem hx_up_c {f g : Nat → Int32} {i x : Int32} {k : Nat} (d : g = hx_up f i.toNatClampNeg x) (hi : i.toNatClampNeg = k) : (g k).toInt = x.toInt := by
  subst d; subst hi; rw [hx_up_at]
theorem hx_up_o {f g : Nat → Int32} {i x : Int32} {k : Nat} {v : Int} (d : g = hx_up f i.toNatClampNeg x) (hi : i.toNatClampNeg ≠ k) (h : (f k).toInt = v) : (g k).toInt = v := by
  subst d; rw [hx_up_ne (Ne.symm hi)]; exact h
theorem hx_cp_s {f g r : Nat → Int32} {i x : Int32} {n n1 : Int} (h : ∀ k : Nat, (k : Int) < n → f k = r k) (d : g = hx_up f i.toNatClampNeg x) (a : x = r i.toNatClampNeg) (hi : i.toInt = n) (h0 : 0 ≤ n) (e : n1 = n + 1) : ∀ k : Nat, (k : Int) < n1 → g k = r k := by
  intro k hk
  subst d
  by_cases z : k = i.toNatClampNeg
  · subst z; rw [hx_up_at]; exact a
  · rw [hx_up_ne z]
    refine h k ?_
    have : i.toNatClampNeg = n.toNat := by unfold Int32.toNatClampNeg; omega
    omega