/-! WHAT BOTH SIDES ANSWER ALIKE -/
def hx_pcn (n a b c d e f : Int) : Prop := n < 40 ∧ (-30000 ≤ a ∧ a ≤ 7999) ∧ (0 ≤ b ∧ b ≤ 9999) ∧ (1 ≤ c ∧ c ≤ 20) ∧ (0 ≤ d ∧ d ≤ 99) ∧ (0 ≤ e ∧ e ≤ 99) ∧ (-1 ≤ f ∧ f ≤ 19)
def hx_PS (n a b c d e f r n1 : Int) : Prop := (r = -1 ∧ n1 = n ∧ ¬ hx_pcn n a b c d e f) ∨ (r = n ∧ n1 = n + 1 ∧ hx_pcn n a b c d e f)
theorem hx_pk {n a b c d e f : Int} {r1 r2 n1 n2 : Int32} (p : hx_PS n a b c d e f r1.toInt n1.toInt) (q : hx_PS n a b c d e f r2.toInt n2.toInt) : r1.toInt = r2.toInt ∧ n1 = n2 := by
  rcases p with ⟨a1, a2, a3⟩ | ⟨a1, a2, a3⟩ <;> rcases q with ⟨b1, b2, b3⟩ | ⟨b1, b2, b3⟩
  · exact ⟨by omega, Int32.toInt_inj.mp (by omega)⟩
  · exact absurd b3 a3
  · exact absurd a3 b3
  · exact ⟨by omega, Int32.toInt_inj.mp (by omega)⟩
