/-! LOOKS: what a CLAIM shows on a day as known on one (whole numbers alone) -/
def hz_pdy (od sz gd d ps : Int) : Int := if od ≠ -1 ∧ od ≤ d then ps + (if sz ≠ -1 ∧ sz ≤ d then gd else 0) else 0
def hz_al (ow sz rc d : Int) : Int := ow + (if sz ≠ -1 ∧ sz ≤ d then rc else 0)
def hz_bl (od sz gd ow rc d ps : Int) : Int := if od ≠ -1 ∧ od ≤ d then hz_al ow sz rc d - hz_pdy od sz gd d ps else 0
def hz_rs (sv bl d : Int) : Int := if sv ≠ -1 ∧ sv ≤ d then 0 else if 0 < bl then bl else 0
def hz_ov (sv bl d : Int) : Int := if sv ≠ -1 ∧ sv ≤ d then 0 else if bl < 0 then -bl else 0
def hz_ru (s b : Int) : Int := if s ≤ 0 ∨ b < 1 then 0 else (s - 1) / b + 1
def hz_mi (a b : Int) : Int := if a ≤ b then a else b
def hz_ms (od sv wk al pd d : Int) : Int := if (od = -1 ∨ d < od) ∨ (sv ≠ -1 ∧ sv ≤ d) then 0 else hz_ru (hz_mi al (wk * ((d - od) / 7)) - pd) wk
def hz_sa (fo he ju d : Int) : Int := if he ≠ -1 ∧ he ≤ d then (if ju = 5 then 3 else 2) else if fo ≠ -1 ∧ fo ≤ d then 1 else 0
def hz_st (fo he ju od sv rs ms la ga d : Int) : Int := if od = -1 ∨ d < od then hz_sa fo he ju d else if sv ≠ -1 ∧ sv ≤ d then 8 else if rs = 0 then 7 else if ms < la then 4 else if ms < la + ga then 5 else 6
theorem hz_mi_e {x a b : Int32} (e : x = if b < a then b else a) : x.toInt = hz_mi a.toInt b.toInt := by
  unfold hz_mi
  by_cases h : b < a
  · rw [if_pos h] at e; have := Int32.lt_iff_toInt_lt.mp h; rw [e, if_neg (by omega)]
  · rw [if_neg h] at e
    have h9 : ¬ b.toInt < a.toInt := fun z => h (Int32.lt_iff_toInt_lt.mpr z)
    rw [e, if_pos (by omega)]
theorem hz_mx_e {x a b : Int32} (e : x = if a < b then b else a) : (a.toInt < b.toInt ∧ x.toInt = b.toInt) ∨ (b.toInt ≤ a.toInt ∧ x.toInt = a.toInt) := by
  by_cases h : a < b
  · rw [if_pos h] at e; have := Int32.lt_iff_toInt_lt.mp h; exact Or.inl ⟨this, by rw [e]⟩
  · rw [if_neg h] at e
    have h9 : ¬ a.toInt < b.toInt := fun z => h (Int32.lt_iff_toInt_lt.mpr z)
    exact Or.inr ⟨by omega, by rw [e]⟩
/-- both ways of rounding up -/
theorem hz_ru_m {s b : Int} (h1 : 0 < s) (h2 : 1 ≤ b) : (s + b - 1) / b = hz_ru s b := by
  unfold hz_ru
  rw [if_neg (by omega), show s + b - 1 = (s - 1) + 1 * b by omega, Int.add_mul_ediv_right _ _ (by omega)]
theorem hz_ru_b {s b : Int} : 0 ≤ hz_ru s b ∧ (hz_ru s b ≤ s ∨ hz_ru s b = 0) := by
  unfold hz_ru
  split
  · exact ⟨Int.le_refl _, Or.inr rfl⟩
  · have h0 : 0 ≤ (s - 1) / b := Int.ediv_nonneg (by omega) (by omega)
    have h1 : (s - 1) / b ≤ s - 1 := Int.ediv_le_self _ (by omega)
    exact ⟨by omega, Or.inl (by omega)⟩
/-- the sum of payments has its bounds -/
theorem hz_ps_b {pof pdf psm pkf pst : Nat → Int32} {d k c : Int} {N : Nat} (hb : ∀ j, j < N → 0 ≤ (psm j).toInt ∧ (psm j).toInt ≤ 610000) : ∀ n : Nat, n ≤ N → 0 ≤ hx_ps pof pdf psm pkf pst d k c n ∧ hx_ps pof pdf psm pkf pst d k c n ≤ 610000 * (n : Int) := by
  intro n
  induction n with
  | zero => intro _; exact ⟨Int.le_refl _, by simp [hx_ps]⟩
  | succ n ih =>
    intro hn
    have h := ih (by omega)
    have g := hb n (by omega)
    simp only [hx_ps]
    split <;> omega
theorem hz_mul {a b x : Int32} (ha : 0 ≤ a.toInt ∧ a.toInt ≤ 9999) (hb : 0 ≤ b.toInt ∧ b.toInt ≤ 1142) (e : x = a * b) : x.toInt = a.toInt * b.toInt ∧ 0 ≤ x.toInt ∧ x.toInt ≤ 11418858 := by
  have h1 : 0 ≤ a.toInt * b.toInt := Int.mul_nonneg ha.1 hb.1
  have h2 : a.toInt * b.toInt ≤ 9999 * 1142 := Int.mul_le_mul ha.2 hb.2 hb.1 (by decide)
  have h3 : x.toInt = a.toInt * b.toInt := by rw [e]; exact i32_mul rfl rfl rfl (by omega) (by omega)
  exact ⟨h3, by omega, by omega⟩
theorem hz_neg {b x : Int32} (e : x = -b) (h : -2147483648 < b.toInt) : x.toInt = -b.toInt := by
  have h2 := Int32.toInt_lt b
  rw [e, Int32.toInt_neg, Int.bmod_def]
  split <;> omega
