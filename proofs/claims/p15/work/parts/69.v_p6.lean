/-! WHAT WAS TOLD: bits -/
/-! NUMBERS OF CLAUSES -/
def hv_rC (f : Nat → Int32) : Nat → Int := fun k => if k < 13 then (f (k + 1)).toInt else 0
def hv_rR (f : Nat → Int32) : Nat → Int := fun k => if k < 13 then (f k).toInt else 0
section HVN
variable {T : Nat → Int32} {n p q : Nat} {lo hi : Int} {sn : Nat → Bool} {rd : Nat → Int} {o o1 : List hv_tok} {x k : Nat} {a b : Nat × Int} {p1 t1 : Nat}
end HVN
section HVCK
variable {e : hv_tok → Int} {sp sp' : Nat ⊕ hv_st} {r ft p : Int} {sn : Nat → Bool} {rd : Nat → Int} {ls : List Int}
end HVCK
section HVNN
variable {sp : Nat ⊕ (Nat × Int)} {r ft ft0 p : Int} {d d1 : Nat → Int32} {i : Nat}
end HVNN