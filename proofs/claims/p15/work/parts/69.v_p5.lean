/-! WHAT IS WRITTEN, AS THE CLASS HAS IT -/
theorem hv_i32n {x : Int32} (h : 0 ≤ x.toInt) : x.toInt = (x.toBitVec.toNat : Int) ∧ x.toBitVec.toNat < 2147483648 := by
  have e : x.toInt = x.toBitVec.toInt := rfl
  have b := x.toBitVec.isLt
  rw [e] at h ⊢
  rw [BitVec.toInt_eq_toNat_cond] at h ⊢
  by_cases c : 2 * x.toBitVec.toNat < 2 ^ 32
  · rw [if_pos c]
    exact ⟨rfl, by omega⟩
  · rw [if_neg c] at h
    exfalso; omega
def hv_cc (t : hv_tok) : Int := if t.1 = 0 then (if t.2.1 = 0 then -2 else if t.2.1 = 1 then -1 else -3) else (t.1 - 1) + 8 * hv_scd (t.2.1, 1) + (if 10000 ≤ t.2.2 then 64 + 128 * (t.2.2 - 10000) else 128 * t.2.2)
def hv_ls (f : Nat → Int32) : Nat → List Int
  | 0 => []
  | k + 1 => (f k).toInt :: hv_ls f k
theorem hv_ls_c {f g : Nat → Int32} : ∀ k, (∀ j, j < k → f j = g j) → hv_ls f k = hv_ls g k := by
  intro k
  induction k with
  | zero => intro _; rfl
  | succ k ih =>
    intro h
    show (f k).toInt :: hv_ls f k = (g k).toInt :: hv_ls g k
    rw [h k (by omega), ih (fun j hj => h j (by omega))]
theorem hv_ls_len {f : Nat → Int32} : ∀ k, (hv_ls f k).length = k := by
  intro k
  induction k with
  | zero => rfl
  | succ k ih => show (hv_ls f k).length + 1 = k + 1; rw [ih]
section HVK
variable {e : hv_tok → Int} {sp sp' : hv_R} {r ft p t : Int} {ls : List Int}
end HVK
section HVT
variable {T : Nat → Int32} {n p t u D : Nat} {o o1 : List hv_tok} {p1 t1 : Nat} {w : Int} {s : Nat} {a b : Bool} {x : Nat}
theorem hv_scd_b {g : Nat × Nat} : 0 ≤ hv_scd g ∧ hv_scd g ≤ 6 ∧ (hv_scd g = 0 ↔ g.2 = 0) := by
  unfold hv_scd
  by_cases z : g.2 = 0
  · rw [if_pos z]; exact ⟨by omega, by omega, by simp [z]⟩
  · rw [if_neg z]
    split <;> exact ⟨by omega, by omega, by omega⟩
end HVT
