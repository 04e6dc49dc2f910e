/-! THE REFERENCE'S STACK -/
def hv_rc (t : hv_tok) : Int := if t.1 = 0 then (t.2.1 : Int) else 1000000 * t.1 + 100000 * (t.2.1 : Int) + t.2.2
section HVRN
variable {T : Nat → Int32} {n p t u : Nat} {o o1 : List hv_tok} {s s1 : List Int} {p1 t1 : Nat} {x : Nat} {w : Int} {a : Int} {low : Int}
end HVRN
section HVBG
variable {run : hv_R} {T : Nat → Int32} {n : Nat} {r ft p t : Int} {ls st : List Int}
end HVBG
