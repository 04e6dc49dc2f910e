/-! PURE FACTS for the reference's reader of texts and its small stack -/
def hx_up (f : Nat → Int32) (k : Nat) (v : Int32) : Nat → Int32 := fun j => if j = k then v else f j
theorem hx_up_at {f : Nat → Int32} {k : Nat} {v : Int32} : hx_up f k v k = v := by simp [hx_up]
theorem hx_up_ne {f : Nat → Int32} {k j : Nat} {v : Int32} (h : j ≠ k) : hx_up f k v j = f j := by simp [hx_up, h]
theorem hx_pi_fun (h : hx_h) (a k : Nat) (x : Int32) : (hx_pi h a k x).2.1 a = hx_up (h.2.1 a) k x := by
  funext j
  simp [hx_pi, hx_up]
def hx_PL (plf : Nat → Int32) (c a : Int) : Prop := ∀ k : Int, 0 ≤ k → k < c → 0 ≤ (plf k.toNat).toInt ∧ (plf k.toNat).toInt ≤ a
def hx_hc (f : Nat → Int32) : Nat → Nat
  | 0 => 0
  | n + 1 => hx_hc f n + (if (f n).toInt = -1 then 0 else 1)
theorem hx_hc_le {f : Nat → Int32} : ∀ n, hx_hc f n ≤ n := by
  intro n
  induction n with
  | zero => exact Nat.le_refl _
  | succ n ih => simp only [hx_hc]; split <;> omega
theorem hx_hc_lt {f : Nat → Int32} : ∀ n i, i < n → (f i).toInt = -1 → hx_hc f n < n := by
  intro n
  induction n with
  | zero => intro i h; omega
  | succ n ih =>
    intro i h hf
    simp only [hx_hc]
    by_cases z : i = n
    · subst z; rw [if_pos hf]; have := hx_hc_le (f := f) i; omega
    · have := ih i (by omega) hf
      split <;> omega
theorem hx_hc_congr {f g : Nat → Int32} : ∀ n, (∀ j, j < n → f j = g j) → hx_hc f n = hx_hc g n := by
  intro n
  induction n with
  | zero => intro _; rfl
  | succ n ih => intro h; simp only [hx_hc, ih (fun j hj => h j (by omega)), h n (by omega)]
theorem hx_hc_up {f : Nat → Int32} {v : Int32} : ∀ n i, i < n → (f i).toInt = -1 → v.toInt ≠ -1 → hx_hc (hx_up f i v) n = hx_hc f n + 1 := by
  intro n
  induction n with
  | zero => intro i h; omega
  | succ n ih =>
    intro i h hf hv
    simp only [hx_hc]
    by_cases z : i = n
    · subst z
      rw [hx_up_at, if_neg hv, if_pos hf, hx_hc_congr (f := hx_up f i v) (g := f) i (fun j hj => hx_up_ne (by omega))]
    · rw [ih i (by omega) hf hv, hx_up_ne (by omega)]
      omega
/-- a claim is heard -/
theorem hx_hear {hf hf1 : Nat → Int32} {m m1 c i v x : Int32} (h : m.toInt = hx_hc hf c.toInt.toNat) (hi0 : 0 ≤ i.toInt) (hi : i.toInt < c.toInt) (hx : x = hf i.toNatClampNeg) (hx1 : x.toInt = -1) (hv : v.toInt ≠ -1) (e : hf1 = hx_up hf i.toNatClampNeg v) (hm : m1.toInt = m.toInt + 1) : m1.toInt = hx_hc hf1 c.toInt.toNat := by
  subst e
  have hc : i.toNatClampNeg < c.toInt.toNat := by unfold Int32.toNatClampNeg; omega
  rw [hx_hc_up _ _ hc (by rw [← hx]; exact hx1) hv]
  omega
theorem hx_hear_lt {hf : Nat → Int32} {m c i x : Int32} (h : m.toInt = hx_hc hf c.toInt.toNat) (hi0 : 0 ≤ i.toInt) (hi : i.toInt < c.toInt) (hx : x = hf i.toNatClampNeg) (hx1 : x.toInt = -1) : m.toInt < c.toInt := by
  have hc : i.toNatClampNeg < c.toInt.toNat := by unfold Int32.toNatClampNeg; omega
  have := hx_hc_lt (f := hf) _ _ hc (by rw [← hx]; exact hx1)
  omega
/-- a claim is filed -/
theorem hx_filed {hf hf1 : Nat → Int32} {m c c1 i v : Int32} (h : m.toInt = hx_hc hf c.toInt.toNat) (h0 : 0 ≤ c.toInt) (hi : i = c) (hv : v.toInt = -1) (e : hf1 = hx_up hf i.toNatClampNeg v) (hc : c1.toInt = c.toInt + 1) : m.toInt = hx_hc hf1 c1.toInt.toNat := by
  subst e; subst hi
  have e1 : c1.toInt.toNat = i.toNatClampNeg + 1 := by unfold Int32.toNatClampNeg; omega
  have e2 : i.toInt.toNat = i.toNatClampNeg := rfl
  rw [e1]
  simp only [hx_hc, hx_up_at, hv]
  rw [hx_hc_congr (g := hf) _ (fun j hj => hx_up_ne (by omega)), ← e2]
  simpa using h
theorem hx_PL_up {plf plf1 : Nat → Int32} {c c1 a : Int} {i v : Int32} (h : hx_PL plf c a) (hi : i.toInt = c) (h0 : 0 ≤ c) (hv : 0 ≤ v.toInt ∧ v.toInt ≤ a) (e : plf1 = hx_up plf i.toNatClampNeg v) (hc : c1 = c + 1) : hx_PL plf1 c1 a := by
  subst e; subst hc
  intro k hk0 hk
  by_cases z : k = c
  · have : k.toNat = i.toNatClampNeg := by unfold Int32.toNatClampNeg; omega
    rw [this, hx_up_at]; exact hv
  · have : k.toNat ≠ i.toNatClampNeg := by unfold Int32.toNatClampNeg; omega
    rw [hx_up_ne this]; exact h k hk0 (by omega)
theorem hx_remz {x y : Int32} (h0 : 0 ≤ x.toInt) (h1 : 1 ≤ y.toInt) : (x - x / y * y).toInt = x.toInt % y.toInt := by
  have d := hx_dv h0 h1
  have b := Int32.toInt_lt x
  have p0 : 0 ≤ x.toInt / y.toInt := Int.ediv_nonneg h0 (by omega)
  have q0 := Int.emod_nonneg x.toInt (show y.toInt ≠ 0 by omega)
  have q1 := Int.emod_lt_of_pos x.toInt (show 0 < y.toInt by omega)
  have q2 := Int.mul_ediv_add_emod x.toInt y.toInt
  have q3 : x.toInt / y.toInt * y.toInt = x.toInt - x.toInt % y.toInt := by rw [Int.mul_comm]; omega
  have q4 : 0 ≤ x.toInt / y.toInt * y.toInt := Int.mul_nonneg p0 (by omega)
  have m : (x / y * y).toInt = x.toInt / y.toInt * y.toInt := by
    rw [Int32.toInt_mul, d]; exact Int.bmod_eq_of_le (by omega) (by omega)
  rw [Int32.toInt_sub, m]
  have z : x.toInt - x.toInt / y.toInt * y.toInt = x.toInt % y.toInt := by omega
  rw [z]; exact Int.bmod_eq_of_le (by omega) (by omega)