/-! THE REFERENCE'S CLAUSES -/
section HVIN
variable {r ft ft0 i : Int} {k : Nat} {sn sn1 : Nat → Bool}
end HVIN
/-- what stands where nothing is told -/
def hv_W0 : Nat → Int := fun k => if k < 13 then (P_wo (k + 1)).toInt else 0
def hv_o0 : List hv_tok := [(0, 1, 0), (2, 2, 0), (1, 2, 1)]
section HVCM
variable {T : Nat → Int32} {n p : Nat} {e : hv_tok → Int} {sp : Nat ⊕ hv_st} {sn : Nat → Bool} {rd : Nat → Int} {o : List hv_tok}
variable {r ft q : Int} {ls : List Int}
end HVCM
section HVMI
variable {T : Nat → Int32} {n : Nat} {sp : Nat ⊕ hv_st} {g m ft p : Int} {sn : Nat → Bool} {rd : Nat → Int} {ls : List Int}
end HVMI