/-! PURE FACTS for the reference's net: what is left of a claim, what a ring takes -/
def hx_ps (pof pdf psm pkf pst : Nat → Int32) (day known c : Int) : Nat → Int
  | 0 => 0
  | n + 1 => hx_ps pof pdf psm pkf pst day known c n + (if (pof n).toInt = c ∧ (pdf n).toInt ≤ day ∧ (pkf n).toInt ≤ known ∧ ((pst n).toInt = -1 ∨ known < (pst n).toInt) then (psm n).toInt else 0)
theorem hx_ps_s {pof pdf psm pkf pst : Nat → Int32} {day known c k k1 : Int} (h0 : 0 ≤ k) (e1 : k1 = k + 1) : hx_ps pof pdf psm pkf pst day known c k1.toNat = hx_ps pof pdf psm pkf pst day known c k.toNat + (if (pof k.toNat).toInt = c ∧ (pdf k.toNat).toInt ≤ day ∧ (pkf k.toNat).toInt ≤ known ∧ ((pst k.toNat).toInt = -1 ∨ known < (pst k.toNat).toInt) then (psm k.toNat).toInt else 0) := by
  subst e1
  have e : (k + 1).toNat = k.toNat + 1 := by omega
  rw [e]; rfl
theorem hx_ps_no1 {pof pdf psm pkf pst : Nat → Int32} {day known c k k1 v : Int} {x i : Int32} (h : v = hx_ps pof pdf psm pkf pst day known c k.toNat) (h0 : 0 ≤ k) (e1 : k1 = k + 1) (a : x = pof i.toNatClampNeg) (hi : i.toInt = k) (hx : x.toInt ≠ c) : v = hx_ps pof pdf psm pkf pst day known c k1.toNat := by
  have ei : i.toNatClampNeg = k.toNat := by unfold Int32.toNatClampNeg; omega
  rw [ei] at a
  rw [hx_ps_s h0 e1, if_neg (fun q => hx (by rw [a]; exact q.1)), h]; omega
theorem hx_ps_no2 {pof pdf psm pkf pst : Nat → Int32} {day known c k k1 v : Int} {x i : Int32} (h : v = hx_ps pof pdf psm pkf pst day known c k.toNat) (h0 : 0 ≤ k) (e1 : k1 = k + 1) (a : x = pdf i.toNatClampNeg) (hi : i.toInt = k) (hx : day < x.toInt) : v = hx_ps pof pdf psm pkf pst day known c k1.toNat := by
  have ei : i.toNatClampNeg = k.toNat := by unfold Int32.toNatClampNeg; omega
  rw [ei] at a
  rw [hx_ps_s h0 e1, if_neg (fun q => by have := q.2.1; rw [← a] at this; omega), h]; omega
theorem hx_ps_no3 {pof pdf psm pkf pst : Nat → Int32} {day known c k k1 v : Int} {x i : Int32} (h : v = hx_ps pof pdf psm pkf pst day known c k.toNat) (h0 : 0 ≤ k) (e1 : k1 = k + 1) (a : x = pkf i.toNatClampNeg) (hi : i.toInt = k) (hx : known < x.toInt) : v = hx_ps pof pdf psm pkf pst day known c k1.toNat := by
  have ei : i.toNatClampNeg = k.toNat := by unfold Int32.toNatClampNeg; omega
  rw [ei] at a
  rw [hx_ps_s h0 e1, if_neg (fun q => by have := q.2.2.1; rw [← a] at this; omega), h]; omega
theorem hx_ps_no4 {pof pdf psm pkf pst : Nat → Int32} {day known c k k1 v : Int} {x i : Int32} (h : v = hx_ps pof pdf psm pkf pst day known c k.toNat) (h0 : 0 ≤ k) (e1 : k1 = k + 1) (a : x = pst i.toNatClampNeg) (hi : i.toInt = k) (hx : x.toInt ≠ -1) (hx2 : x.toInt ≤ known) : v = hx_ps pof pdf psm pkf pst day known c k1.toNat := by
  have ei : i.toNatClampNeg = k.toNat := by unfold Int32.toNatClampNeg; omega
  rw [ei] at a
  rw [hx_ps_s h0 e1, if_neg (fun q => by have := q.2.2.2; rw [← a] at this; omega), h]; omega
theorem hx_ps_yes {pof pdf psm pkf pst : Nat → Int32} {day known c k k1 v v1 : Int} {x1 x2 x3 x4 x5 i : Int32} (h : v = hx_ps pof pdf psm pkf pst day known c k.toNat) (h0 : 0 ≤ k) (e1 : k1 = k + 1) (hi : i.toInt = k) (a1 : x1 = pof i.toNatClampNeg) (a2 : x2 = pdf i.toNatClampNeg) (a3 : x3 = pkf i.toNatClampNeg) (a4 : x4 = pst i.toNatClampNeg) (a5 : x5 = psm i.toNatClampNeg) (h1 : x1.toInt = c) (h2 : x2.toInt ≤ day) (h3 : x3.toInt ≤ known) (h4 : x4.toInt = -1 ∨ known < x4.toInt) (hv : v1 = v + x5.toInt) : v1 = hx_ps pof pdf psm pkf pst day known c k1.toNat := by
  have ei : i.toNatClampNeg = k.toNat := by unfold Int32.toNatClampNeg; omega
  rw [ei] at a1 a2 a3 a4 a5
  rw [hx_ps_s h0 e1, if_pos ⟨by rw [← a1]; exact h1, by rw [← a2]; exact h2, by rw [← a3]; exact h3, by rw [← a4]; exact h4⟩, hv, h, a5]
theorem hx_ps_congr {pof pdf psm pkf pst pof1 pdf1 psm1 pkf1 pst1 : Nat → Int32} {day known c : Int} : ∀ n, (∀ j, j < n → pof j = pof1 j ∧ pdf j = pdf1 j ∧ psm j = psm1 j ∧ pkf j = pkf1 j ∧ pst j = pst1 j) → hx_ps pof pdf psm pkf pst day known c n = hx_ps pof1 pdf1 psm1 pkf1 pst1 day known c n := by
  intro n
  induction n with
  | zero => intro _; rfl
  | succ n ih =>
    intro h
    obtain ⟨a, b, c1, d, e⟩ := h n (by omega)
    simp only [hx_ps, ih (fun j hj => h j (by omega)), a, b, c1, d, e]
/-- a payment of another claim changes nothing -/
theorem hx_ps_pay {pof pdf psm pkf pst pof1 pdf1 psm1 pkf1 pst1 : Nat → Int32} {day known c : Int} {k : Nat} {v1 v2 v3 v4 v5 : Int32} (e1 : pof1 = hx_up pof k v1) (e2 : pdf1 = hx_up pdf k v2) (e3 : psm1 = hx_up psm k v3) (e4 : pkf1 = hx_up pkf k v4) (e5 : pst1 = hx_up pst k v5) (hc : v1.toInt ≠ c) : hx_ps pof1 pdf1 psm1 pkf1 pst1 day known c (k + 1) = hx_ps pof pdf psm pkf pst day known c k := by
  subst e1; subst e2; subst e3; subst e4; subst e5
  simp only [hx_ps, hx_up_at]
  rw [if_neg (fun q => hc q.1), Int.add_zero]
  exact hx_ps_congr k (fun j hj => by rw [hx_up_ne (by omega), hx_up_ne (by omega), hx_up_ne (by omega), hx_up_ne (by omega), hx_up_ne (by omega)]; exact ⟨rfl, rfl, rfl, rfl, rfl⟩)