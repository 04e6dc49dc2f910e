/-! WHAT IS WRITTEN, AS THE CLASS HAS IT -/
theorem hv_i32n {x : Int32} (h : 0 ≤ x.toInt) : x.toInt = (x.toBitVec.toNat : Int) ∧ x.toBitVec.toNat < 2147483648 := by
  have e : x.toInt = x.toBitVec.toInt := rfl
  have b := x.toBitVec.isLt
  rw [e] at h ⊢
  rw [BitVec.toInt_eq_toNat_cond] at h ⊢
  by_cases c : 2 * x.toBitVec.toNat < 2 ^ 32
  · rw [if_pos c]
    exact ⟨rfl, by omega⟩
  · rw [if_neg c] at h
    exfalso; omega
theorem hv_orr {x y : Int32} (k m p : Nat) (hp : p = 2 ^ k) (x0 : 0 ≤ x.toInt) (x1 : x.toInt < (p : Int)) (y0 : y.toInt = (p : Int) * (m : Int)) (s : x.toInt + y.toInt < 2147483648) : (x ||| y).toInt = x.toInt + y.toInt := by
  have hy0 : 0 ≤ y.toInt := by rw [y0]; exact Int.mul_nonneg (Int.natCast_nonneg _) (Int.natCast_nonneg _)
  obtain ⟨ex, bx⟩ := hv_i32n x0
  obtain ⟨ey, by'⟩ := hv_i32n hy0
  have h1 : y.toBitVec.toNat = 2 ^ k * m := by
    have h2 : (y.toBitVec.toNat : Int) = ((p * m : Nat) : Int) := by rw [← ey, y0, Int.natCast_mul]
    rw [← hp]
    exact Int.ofNat_inj.mp h2
  have hx : x.toBitVec.toNat < 2 ^ k := by rw [← hp]; omega
  have e : (x ||| y).toInt = (x.toBitVec ||| y.toBitVec).toInt := rfl
  have en : (x.toBitVec ||| y.toBitVec).toNat = x.toBitVec.toNat + y.toBitVec.toNat := by
    rw [BitVec.toNat_or, h1, Nat.or_comm, ← Nat.two_pow_add_eq_or_of_lt hx m]
    omega
  rw [e, BitVec.toInt_eq_toNat_cond, en, if_pos (by omega)]
  omega
theorem hv_sh3 {x : Int32} (h0 : 0 ≤ x.toInt) (h1 : x.toInt ≤ 10007) : (x <<< ((3 : Int32) &&& 31)).toInt = 8 * x.toInt := by
  obtain ⟨ex, bx⟩ := hv_i32n h0
  have e : (x <<< ((3 : Int32) &&& 31)).toBitVec = x.toBitVec <<< 3 := rfl
  have e2 : (x <<< ((3 : Int32) &&& 31)).toInt = (x <<< ((3 : Int32) &&& 31)).toBitVec.toInt := rfl
  rw [e2, e, BitVec.toInt_eq_toNat_cond, BitVec.toNat_shiftLeft, Nat.shiftLeft_eq]
  rw [ex] at h1 ⊢
  split <;> omega
theorem hv_sh7 {x : Int32} (h0 : 0 ≤ x.toInt) (h1 : x.toInt ≤ 10007) : (x <<< ((7 : Int32) &&& 31)).toInt = 128 * x.toInt := by
  obtain ⟨ex, bx⟩ := hv_i32n h0
  have e : (x <<< ((7 : Int32) &&& 31)).toBitVec = x.toBitVec <<< 7 := rfl
  have e2 : (x <<< ((7 : Int32) &&& 31)).toInt = (x <<< ((7 : Int32) &&& 31)).toBitVec.toInt := rfl
  rw [e2, e, BitVec.toInt_eq_toNat_cond, BitVec.toNat_shiftLeft, Nat.shiftLeft_eq]
  rw [ex] at h1 ⊢
  split <;> omega
theorem hv_tm {a b d v1 v2 v3 v4 v5 c : Int32} (cb : Nat) (hc : c.toInt = 64 * (cb : Int)) (hcb : cb ≤ 1) (a0 : 0 ≤ a.toInt ∧ a.toInt ≤ 7) (b0 : 0 ≤ b.toInt ∧ b.toInt ≤ 7) (d0 : 0 ≤ d.toInt ∧ d.toInt ≤ 9999) (e1 : v1 = b <<< ((3 : Int32) &&& 31)) (e2 : v2 = a ||| v1) (e3 : v3 = v2 ||| c) (e4 : v4 = d <<< ((7 : Int32) &&& 31)) (e5 : v5 = v3 ||| v4) : v5.toInt = a.toInt + 8 * b.toInt + 64 * (cb : Int) + 128 * d.toInt := by
  have h1 : v1.toInt = 8 * b.toInt := by rw [e1]; exact hv_sh3 b0.1 (by omega)
  have h2 : v2.toInt = a.toInt + v1.toInt := by rw [e2]; exact hv_orr 3 b.toInt.toNat 8 rfl a0.1 (by omega) (by omega) (by omega)
  have h3 : v3.toInt = v2.toInt + c.toInt := by rw [e3]; exact hv_orr 6 cb 64 rfl (by omega) (by omega) (by omega) (by omega)
  have h4 : v4.toInt = 128 * d.toInt := by rw [e4]; exact hv_sh7 d0.1 (by omega)
  have h5 : v5.toInt = v3.toInt + v4.toInt := by rw [e5]; exact hv_orr 7 d.toInt.toNat 128 rfl (by omega) (by omega) (by omega) (by omega)
  omega
def hv_cc (t : hv_tok) : Int := if t.1 = 0 then (if t.2.1 = 0 then -2 else if t.2.1 = 1 then -1 else -3) else (t.1 - 1) + 8 * hv_scd (t.2.1, 1) + (if 10000 ≤ t.2.2 then 64 + 128 * (t.2.2 - 10000) else 128 * t.2.2)
def hv_ls (f : Nat → Int32) : Nat → List Int
  | 0 => []
  | k + 1 => (f k).toInt :: hv_ls f k
theorem hv_ls_c {f g : Nat → Int32} : ∀ k, (∀ j, j < k → f j = g j) → hv_ls f k = hv_ls g k := by
  intro k
  induction k with
  | zero => intro _; rfl
  | succ k ih =>
    intro h
    show (f k).toInt :: hv_ls f k = (g k).toInt :: hv_ls g k
    rw [h k (by omega), ih (fun j hj => h j (by omega))]
theorem hv_ls_len {f : Nat → Int32} : ∀ k, (hv_ls f k).length = k := by
  intro k
  induction k with
  | zero => rfl
  | succ k ih => show (hv_ls f k).length + 1 = k + 1; rw [ih]
theorem hv_ls_u {e : hv_tok → Int} {f f1 : Nat → Int32} {n n1 : Nat} {o : List hv_tok} {v : Int32} {t : hv_tok} (h : hv_ls f n = o.map e) (hv : v.toInt = e t) (h1 : n1 = n + 1) (h2 : f1 = hx_up f n v) : hv_ls f1 n1 = (t :: o).map e := by
  subst h1; subst h2
  show (hx_up f n v n).toInt :: hv_ls (hx_up f n v) n = e t :: o.map e
  rw [hx_up_at, hv, ← h, hv_ls_c n (fun j hj => hx_up_ne (by omega))]
section HVK
variable {e : hv_tok → Int} {sp sp' : hv_R} {r ft p t : Int} {ls : List Int}
end HVK
section HVT
variable {T : Nat → Int32} {n p t u D : Nat} {o o1 : List hv_tok} {p1 t1 : Nat} {w : Int} {s : Nat} {a b : Bool} {x : Nat}
theorem hv_scd_b {g : Nat × Nat} : 0 ≤ hv_scd g ∧ hv_scd g ≤ 6 ∧ (hv_scd g = 0 ↔ g.2 = 0) := by
  unfold hv_scd
  by_cases z : g.2 = 0
  · rw [if_pos z]; exact ⟨by omega, by omega, by simp [z]⟩
  · rw [if_neg z]
    split <;> exact ⟨by omega, by omega, by omega⟩
end HVT
