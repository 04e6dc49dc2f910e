/-! THE READER'S METHODS: what their answers say -/
section HVI
variable {T : Nat → Int32} {i j m y : Int32}
end HVI
theorem hv_sl_e {T : Nat → Int32} {js s p e : Nat} {l : Int} (he : e ≤ p + 8) (h : ∀ i : Nat, (i : Int) < l → hv_c1 T js s p e i) (hl : 8 ≤ l ∨ (P_ln.getD js 0 : Nat) ≤ s + l) : hv_sl T js s p e := ⟨he, fun i hi => by
  rcases (show (i : Int) < l ∨ l ≤ (i : Int) by omega) with z | z
  · exact h i z
  · intro w; exfalso; omega⟩
/-- the SIGN as the class has it -/
def hv_scd (s : Nat × Nat) : Int := if s.2 = 0 then 0 else (match s.1 with | 0 => 1 | 1 => 3 | 2 => 2 | 3 => 6 | _ => 4)
section HVG
variable {T : Nat → Int32} {w x m : Int32}
end HVG
