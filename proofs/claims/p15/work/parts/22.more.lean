/-! further small facts -/
theorem hx_dv {x y : Int32} (h0 : 0 ≤ x.toInt) (h1 : 1 ≤ y.toInt) : (x / y).toInt = x.toInt / y.toInt := by
  rw [Int32.toInt_div]
  have b := Int32.toInt_lt x
  have e : x.toInt.tdiv y.toInt = x.toInt / y.toInt := Int.tdiv_eq_ediv_of_nonneg h0
  rw [e]
  have p0 : 0 ≤ x.toInt / y.toInt := Int.ediv_nonneg h0 (by omega)
  have p1 : x.toInt / y.toInt ≤ x.toInt := Int.ediv_le_self _ h0
  rw [Int.bmod_def]
  omega
theorem hx_rem {x y : Int32} (h0 : 0 ≤ x.toInt) (h1 : 1 ≤ y.toInt) : 0 ≤ (x - x / y * y).toInt ∧ (x - x / y * y).toInt < y.toInt := by
  have d := hx_dv h0 h1
  have b := Int32.toInt_lt x
  have p0 : 0 ≤ x.toInt / y.toInt := Int.ediv_nonneg h0 (by omega)
  have q0 := Int.emod_nonneg x.toInt (show y.toInt ≠ 0 by omega)
  have q1 := Int.emod_lt_of_pos x.toInt (show 0 < y.toInt by omega)
  have q2 := Int.mul_ediv_add_emod x.toInt y.toInt
  have q3 : x.toInt / y.toInt * y.toInt = x.toInt - x.toInt % y.toInt := by rw [Int.mul_comm]; omega
  have q4 : 0 ≤ x.toInt / y.toInt * y.toInt := Int.mul_nonneg p0 (by omega)
  have m : (x / y * y).toInt = x.toInt / y.toInt * y.toInt := by
    rw [Int32.toInt_mul, d]; exact Int.bmod_eq_of_le (by omega) (by omega)
  have s : (x - x / y * y).toInt = x.toInt % y.toInt := by
    rw [Int32.toInt_sub, m]
    have z : x.toInt - x.toInt / y.toInt * y.toInt = x.toInt % y.toInt := by omega
    rw [z]; exact Int.bmod_eq_of_le (by omega) (by omega)
  rw [s]; exact ⟨q0, q1⟩
theorem hx_pfk {h h1 : hx_h} {x kc q i v : Nat} (hp : ∀ j : Nat, (j : Int) < (h.2.1 x kc).toInt → h.2.2 q j ≠ none) (eh : h1 = hx_pr h q i (some v)) : ∀ j : Nat, (j : Int) < (h1.2.1 x kc).toInt → h1.2.2 q j ≠ none := by
  subst eh
  intro j hj
  by_cases z : j = i
  · subst z; rw [hx_pr_at]; nofun
  · rw [hx_pr_ne _ _ (fun w => z w.2)]; exact hp j hj
theorem hx_pfx {h h1 : hx_h} {x kc q v : Nat} {i : Int32} (hp : ∀ j : Nat, (j : Int) < (h.2.1 x kc).toInt → h.2.2 q j ≠ none) (e : h1.2.1 x kc = i) (h0 : 0 ≤ i.toInt) (eh : h1 = hx_pr h q i.toNatClampNeg (some v)) : ∀ j : Nat, (j : Int) < i.toInt + 1 → h1.2.2 q j ≠ none := by
  subst eh
  intro j hj
  by_cases z : j = i.toNatClampNeg
  · subst z; rw [hx_pr_at]; nofun
  · rw [hx_pr_ne _ _ (fun w => z w.2)]
    refine hp j ?_
    have e2 : h.2.1 x kc = i := e
    rw [e2]; unfold Int32.toNatClampNeg at z; omega
theorem hx_zr {tb : List hx_d} {M : hx_m} {L L1 : List Nat} {h h1 : hx_h} {a t : Nat} {l : List Nat} (l' : List Nat) (fz : ∀ j, l.contains j = false → h.2.1 a j = 0 ∧ h.2.2 a j = none) (hs : hx_S tb M L h L1 h1) (g : hx_g L h a t) (ho : match tb[t]? with | some (.inr _) => False | _ => True) (ok : (l.all (fun j => l'.contains j) && M.all (fun q => !(q.1 == t) || l'.contains q.2)) = true) : ∀ j, l'.contains j = false → h1.2.1 a j = 0 ∧ h1.2.2 a j = none := by
  intro j hj
  rw [Bool.and_eq_true, List.all_eq_true, List.all_eq_true] at ok
  have h2 : l.contains j = false := by
    cases hc : l.contains j with
    | false => rfl
    | true => have := ok.1 j (List.contains_iff_mem.mp hc); rw [this] at hj; cases hj
  have h3 : M.contains (t, j) = false := by
    cases hc : M.contains (t, j) with
    | false => rfl
    | true =>
      have := ok.2 _ (List.contains_iff_mem.mp hc)
      simp only [beq_self_eq_true, Bool.not_true, Bool.false_or] at this
      rw [this] at hj; cases hj
  obtain ⟨u1, u2⟩ := hs.o g ho h3
  obtain ⟨v1, v2⟩ := fz j h2
  exact ⟨u1.trans v1, u2.trans v2⟩
theorem hx_divb {x y : Int32} (h : 2 ≤ y.toInt) : -1073741824 ≤ (x / y).toInt ∧ (x / y).toInt ≤ 1073741824 := by
  have b1 := Int32.le_toInt x
  have b2 := Int32.toInt_lt x
  have hn : (x.toInt.tdiv y.toInt).natAbs ≤ 1073741824 := by
    rw [Int.natAbs_tdiv]
    show x.toInt.natAbs / y.toInt.natAbs ≤ 1073741824
    have : x.toInt.natAbs / y.toInt.natAbs ≤ x.toInt.natAbs / 2 := Nat.div_le_div_left (by omega) (by decide)
    omega
  have e : (x / y).toInt = x.toInt.tdiv y.toInt := by
    rw [Int32.toInt_div]; exact Int.bmod_eq_of_le (by omega) (by omega)
  rw [e]; omega
theorem hx_mul0 {x y : Int32} (h : x.toInt = 0) : (x * y).toInt = 0 := by
  have : x = 0 := Int32.toInt_inj.mp (h.trans (by decide))
  subst this
  rw [Int32.zero_mul]; rfl