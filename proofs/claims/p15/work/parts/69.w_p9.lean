/-! THE REFERENCE'S CLAUSES -/
section HVIN
variable {r ft ft0 i : Int} {k : Nat} {sn sn1 : Nat → Bool}
end HVIN
/-- what stands where nothing is told -/
def hv_W0 : Nat → Int := fun k => if k < 13 then (P_wo (k + 1)).toInt else 0
def hv_o0 : List hv_tok := [(0, 1, 0), (2, 2, 0), (1, 2, 1)]
theorem hv_W0_e {i r n : Int} (e : r = n) (h : (i = 0 ∧ n = 480) ∨ (i = 1 ∧ n = 30) ∨ (i = 2 ∧ n = 12) ∨ (i = 3 ∧ n = 60) ∨ (i = 4 ∧ n = 2) ∨ (i = 5 ∧ n = 4) ∨ (i = 6 ∧ n = 1) ∨ (i = 7 ∧ n = 40) ∨ (i = 8 ∧ n = 21) ∨ (9 ≤ i ∧ i ≤ 12 ∧ n = 0)) : r = hv_W0 i.toNat := by
  rw [e]
  rcases h with ⟨a, b⟩ | ⟨a, b⟩ | ⟨a, b⟩ | ⟨a, b⟩ | ⟨a, b⟩ | ⟨a, b⟩ | ⟨a, b⟩ | ⟨a, b⟩ | ⟨a, b⟩ | ⟨a, a2, b⟩
  all_goals try (rw [a, b]; first | decide | rfl)
  rw [b]
  rcases (show i = 9 ∨ i = 10 ∨ i = 11 ∨ i = 12 by omega) with z | z | z | z <;> rw [z] <;> decide
theorem hv_rC_0 {f : Nat → Int32} (h : ∀ j, j < 14 → f j = P_wo j) : hv_rC f = hv_W0 := by
  funext k
  show (if k < 13 then (f (k + 1)).toInt else 0) = (if k < 13 then (P_wo (k + 1)).toInt else 0)
  by_cases z : k < 13
  · rw [if_pos z, if_pos z, h _ (by omega)]
  · rw [if_neg z, if_neg z]
def hv_WI (f : Nat → Int32) (n : Int) : Prop := ∀ k : Nat, (k : Int) < n → (f k).toInt = hv_W0 k
theorem hv_WI_0 {f : Nat → Int32} {n : Int} (h : n ≤ 0) : hv_WI f n := fun k hk => by exfalso; omega
theorem hv_WI_s {f f1 : Nat → Int32} {i v : Int32} {j : Int} (h : hv_WI f i.toInt) (e : f1 = hx_up f i.toNatClampNeg v) (h0 : 0 ≤ i.toInt) (hv : v.toInt = hv_W0 i.toInt.toNat) (hj : j = i.toInt + 1) : hv_WI f1 j := fun k hk => by
  by_cases z : k = i.toInt.toNat
  · rw [e, z]; exact (congrArg Int32.toInt (hx_up_at (f := f) (k := i.toNatClampNeg) (v := v))).trans hv
  · rw [e, hx_up_ne (by unfold Int32.toNatClampNeg; omega)]; exact h k (by omega)
theorem hv_WI_e {f : Nat → Int32} {n : Int} (h : hv_WI f n) (hn : 13 ≤ n) : hv_rR f = hv_W0 := by
  funext k
  show (if k < 13 then (f k).toInt else 0) = _
  by_cases z : k < 13
  · rw [if_pos z, h k (by omega)]
  · rw [if_neg z]; show _ = (if k < 13 then (P_wo (k + 1)).toInt else 0); rw [if_neg z]
section HVCM
variable {T : Nat → Int32} {n p : Nat} {e : hv_tok → Int} {sp : Nat ⊕ hv_st} {sn : Nat → Bool} {rd : Nat → Int} {o : List hv_tok}
variable {r ft q : Int} {ls : List Int}
end HVCM
section HVMI
variable {T : Nat → Int32} {n : Nat} {sp : Nat ⊕ hv_st} {g m ft p : Int} {sn : Nat → Bool} {rd : Nat → Int} {ls : List Int}
end HVMI