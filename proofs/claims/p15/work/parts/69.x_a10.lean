/-! WHAT IS FED -/
/-- what the class's new act holds -/
theorem hv_o0_c {f : Nat → Int32} (h : (f 0).toInt = 144 ∧ (f 1).toInt = 17 ∧ (f 2).toInt = -1) : hv_ls f 3 = hv_o0.map hv_cc := by
  show (f 2).toInt :: (f 1).toInt :: (f 0).toInt :: [] = _
  rw [h.1, h.2.1, h.2.2]; decide
theorem hv_pr0 {f : Nat → Int32} {a b c : Int32} (ha : a.toInt = 144) (hb : b.toInt = 17) (hc : c.toInt = -1) : ((hx_up (hx_up (hx_up f (0 : Int32).toNatClampNeg a) (1 : Int32).toNatClampNeg b) (2 : Int32).toNatClampNeg c) 0).toInt = 144 ∧ ((hx_up (hx_up (hx_up f (0 : Int32).toNatClampNeg a) (1 : Int32).toNatClampNeg b) (2 : Int32).toNatClampNeg c) 1).toInt = 17 ∧ ((hx_up (hx_up (hx_up f (0 : Int32).toNatClampNeg a) (1 : Int32).toNatClampNeg b) (2 : Int32).toNatClampNeg c) 2).toInt = -1 := by
  have e0 : (0 : Int32).toNatClampNeg = 0 := by decide
  have e1 : (1 : Int32).toNatClampNeg = 1 := by decide
  have e2 : (2 : Int32).toNatClampNeg = 2 := by decide
  rw [e0, e1, e2]
  refine ⟨?_, ?_, ?_⟩
  · rw [hx_up_ne (by decide), hx_up_ne (by decide)]; exact (congrArg Int32.toInt (hx_up_at (f := f) (k := 0) (v := a))).trans ha
  · rw [hx_up_ne (by decide)]; exact (congrArg Int32.toInt (hx_up_at (f := hx_up f 0 a) (k := 1) (v := b))).trans hb
  · exact (congrArg Int32.toInt (hx_up_at (f := hx_up (hx_up f 0 a) 1 b) (k := 2) (v := c))).trans hc
section HVAR
variable {e : hv_tok → Int} {sp : Nat ⊕ hv_st} {r : Int} {rd : Nat → Int} {ls : List Int}
end HVAR
