/-! further small facts -/
theorem hx_or8 {x y : Int32} (a0 : 0 ≤ x.toInt) (a1 : x.toInt ≤ 255) (b0 : 0 ≤ y.toInt) (b1 : y.toInt ≤ 255) : 0 ≤ (x ||| y).toInt ∧ (x ||| y).toInt ≤ 255 := by
  have e : (x ||| y).toInt = (x.toBitVec ||| y.toBitVec).toInt := rfl
  have ex : x.toInt = x.toBitVec.toInt := rfl
  have ey : y.toInt = y.toBitVec.toInt := rfl
  have bx := x.toBitVec.isLt
  have by' := y.toBitVec.isLt
  rw [ex] at a0 a1
  rw [ey] at b0 b1
  rw [e]
  rw [BitVec.toInt_eq_toNat_cond] at a0 a1 b0 b1 ⊢
  have nx : x.toBitVec.toNat < 2 ^ 8 := by split at a0 <;> split at a1 <;> omega
  have ny : y.toBitVec.toNat < 2 ^ 8 := by split at b0 <;> split at b1 <;> omega
  have nn : (x.toBitVec ||| y.toBitVec).toNat < 2 ^ 8 := by rw [BitVec.toNat_or]; exact Nat.or_lt_two_pow nx ny
  split <;> omega
theorem hx_cs {n : Int32} {k : Int} (k' : Int32) (h : n.toInt = k) (e : k'.toInt = k) : n = k' := Int32.toInt_inj.mp (h.trans e.symm)
theorem hx_shl8 {n : Int32} (h0 : 0 ≤ n.toInt) (h1 : n.toInt ≤ 8) : 1 ≤ ((1 : Int32) <<< (n &&& 31)).toInt ∧ ((1 : Int32) <<< (n &&& 31)).toInt ≤ 256 := by
  rcases (show n.toInt = 0 ∨ n.toInt = 1 ∨ n.toInt = 2 ∨ n.toInt = 3 ∨ n.toInt = 4 ∨ n.toInt = 5 ∨ n.toInt = 6 ∨ n.toInt = 7 ∨ n.toInt = 8 by omega) with z | z | z | z | z | z | z | z | z
  · rw [hx_cs 0 z rfl]; decide
  · rw [hx_cs 1 z rfl]; decide
  · rw [hx_cs 2 z rfl]; decide
  · rw [hx_cs 3 z rfl]; decide
  · rw [hx_cs 4 z rfl]; decide
  · rw [hx_cs 5 z rfl]; decide
  · rw [hx_cs 6 z rfl]; decide
  · rw [hx_cs 7 z rfl]; decide
  · rw [hx_cs 8 z rfl]; decide
theorem hx_shl7 {n : Int32} (h0 : 0 ≤ n.toInt) (h1 : n.toInt ≤ 7) : 1 ≤ ((1 : Int32) <<< (n &&& 31)).toInt ∧ ((1 : Int32) <<< (n &&& 31)).toInt ≤ 128 := by
  rcases (show n.toInt = 0 ∨ n.toInt = 1 ∨ n.toInt = 2 ∨ n.toInt = 3 ∨ n.toInt = 4 ∨ n.toInt = 5 ∨ n.toInt = 6 ∨ n.toInt = 7 by omega) with z | z | z | z | z | z | z | z
  · rw [hx_cs 0 z rfl]; decide
  · rw [hx_cs 1 z rfl]; decide
  · rw [hx_cs 2 z rfl]; decide
  · rw [hx_cs 3 z rfl]; decide
  · rw [hx_cs 4 z rfl]; decide
  · rw [hx_cs 5 z rfl]; decide
  · rw [hx_cs 6 z rfl]; decide
  · rw [hx_cs 7 z rfl]; decide
theorem hx_dv {x y : Int32} (h0 : 0 ≤ x.toInt) (h1 : 1 ≤ y.toInt) : (x / y).toInt = x.toInt / y.toInt := by
  rw [Int32.toInt_div]
  have b := Int32.toInt_lt x
  have e : x.toInt.tdiv y.toInt = x.toInt / y.toInt := Int.tdiv_eq_ediv_of_nonneg h0
  rw [e]
  have p0 : 0 ≤ x.toInt / y.toInt := Int.ediv_nonneg h0 (by omega)
  have p1 : x.toInt / y.toInt ≤ x.toInt := Int.ediv_le_self _ h0
  rw [Int.bmod_def]
  omega
theorem hx_rem {x y : Int32} (h0 : 0 ≤ x.toInt) (h1 : 1 ≤ y.toInt) : 0 ≤ (x - x / y * y).toInt ∧ (x - x / y * y).toInt < y.toInt := by
  have d := hx_dv h0 h1
  have b := Int32.toInt_lt x
  have p0 : 0 ≤ x.toInt / y.toInt := Int.ediv_nonneg h0 (by omega)
  have q0 := Int.emod_nonneg x.toInt (show y.toInt ≠ 0 by omega)
  have q1 := Int.emod_lt_of_pos x.toInt (show 0 < y.toInt by omega)
  have q2 := Int.mul_ediv_add_emod x.toInt y.toInt
  have q3 : x.toInt / y.toInt * y.toInt = x.toInt - x.toInt % y.toInt := by rw [Int.mul_comm]; omega
  have q4 : 0 ≤ x.toInt / y.toInt * y.toInt := Int.mul_nonneg p0 (by omega)
  have m : (x / y * y).toInt = x.toInt / y.toInt * y.toInt := by
    rw [Int32.toInt_mul, d]; exact Int.bmod_eq_of_le (by omega) (by omega)
  have s : (x - x / y * y).toInt = x.toInt % y.toInt := by
    rw [Int32.toInt_sub, m]
    have z : x.toInt - x.toInt / y.toInt * y.toInt = x.toInt % y.toInt := by omega
    rw [z]; exact Int.bmod_eq_of_le (by omega) (by omega)
  rw [s]; exact ⟨q0, q1⟩
theorem hx_l0 {x : Int32} (h : 1 ≤ x.toInt) : ¬ x.toInt64 = 0 := fun z => by
  have : x.toInt64.toInt = 0 := by rw [z]; rfl
  rw [Int32.toInt_toInt64] at this; omega
theorem hx_pfk {h h1 : hx_h} {x kc q i v : Nat} (hp : ∀ j : Nat, (j : Int) < (h.2.1 x kc).toInt → h.2.2 q j ≠ none) (eh : h1 = hx_pr h q i (some v)) : ∀ j : Nat, (j : Int) < (h1.2.1 x kc).toInt → h1.2.2 q j ≠ none := by
  subst eh
  intro j hj
  by_cases z : j = i
  · subst z; rw [hx_pr_at]; nofun
  · rw [hx_pr_ne _ _ (fun w => z w.2)]; exact hp j hj
theorem hx_pfx {h h1 : hx_h} {x kc q v : Nat} {i : Int32} (hp : ∀ j : Nat, (j : Int) < (h.2.1 x kc).toInt → h.2.2 q j ≠ none) (e : h1.2.1 x kc = i) (h0 : 0 ≤ i.toInt) (eh : h1 = hx_pr h q i.toNatClampNeg (some v)) : ∀ j : Nat, (j : Int) < i.toInt + 1 → h1.2.2 q j ≠ none := by
  subst eh
  intro j hj
  by_cases z : j = i.toNatClampNeg
  · subst z; rw [hx_pr_at]; nofun
  · rw [hx_pr_ne _ _ (fun w => z w.2)]
    refine hp j ?_
    have e2 : h.2.1 x kc = i := e
    rw [e2]; unfold Int32.toNatClampNeg at z; omega
theorem hx_fz {x : Int32} (h : x.toInt = 0 ∨ x.toInt = 1) : fits .boolean (.int x) = true := by
  rcases h with h | h
  · have : x = 0 := Int32.toInt_inj.mp (h.trans (by decide))
    subst this; rfl
  · have : x = 1 := Int32.toInt_inj.mp (h.trans (by decide))
    subst this; rfl
theorem hx_nb (x : Int32) : -128 ≤ (vp_nar .byte x).toInt ∧ (vp_nar .byte x).toInt ≤ 127 := by
  show -128 ≤ (x.toInt8.toInt32).toInt ∧ (x.toInt8.toInt32).toInt ≤ 127
  rw [Int8.toInt_toInt32]
  exact ⟨Int8.le_toInt _, by have := Int8.toInt_lt x.toInt8; omega⟩
theorem hx_zr {tb : List hx_d} {M : hx_m} {L L1 : List Nat} {h h1 : hx_h} {a t : Nat} {l : List Nat} (l' : List Nat) (fz : ∀ j, l.contains j = false → h.2.1 a j = 0 ∧ h.2.2 a j = none) (hs : hx_S tb M L h L1 h1) (g : hx_g L h a t) (ho : match tb[t]? with | some (.inr _) => False | _ => True) (ok : (l.all (fun j => l'.contains j) && M.all (fun q => !(q.1 == t) || l'.contains q.2)) = true) : ∀ j, l'.contains j = false → h1.2.1 a j = 0 ∧ h1.2.2 a j = none := by
  intro j hj
  rw [Bool.and_eq_true, List.all_eq_true, List.all_eq_true] at ok
  have h2 : l.contains j = false := by
    cases hc : l.contains j with
    | false => rfl
    | true => have := ok.1 j (List.contains_iff_mem.mp hc); rw [this] at hj; cases hj
  have h3 : M.contains (t, j) = false := by
    cases hc : M.contains (t, j) with
    | false => rfl
    | true =>
      have := ok.2 _ (List.contains_iff_mem.mp hc)
      simp only [beq_self_eq_true, Bool.not_true, Bool.false_or] at this
      rw [this] at hj; cases hj
  obtain ⟨u1, u2⟩ := hs.o g ho h3
  obtain ⟨v1, v2⟩ := fz j h2
  exact ⟨u1.trans v1, u2.trans v2⟩
theorem hx_divb {x y : Int32} (h : 2 ≤ y.toInt) : -1073741824 ≤ (x / y).toInt ∧ (x / y).toInt ≤ 1073741824 := by
  have b1 := Int32.le_toInt x
  have b2 := Int32.toInt_lt x
  have hn : (x.toInt.tdiv y.toInt).natAbs ≤ 1073741824 := by
    rw [Int.natAbs_tdiv]
    show x.toInt.natAbs / y.toInt.natAbs ≤ 1073741824
    have : x.toInt.natAbs / y.toInt.natAbs ≤ x.toInt.natAbs / 2 := Nat.div_le_div_left (by omega) (by decide)
    omega
  have e : (x / y).toInt = x.toInt.tdiv y.toInt := by
    rw [Int32.toInt_div]; exact Int.bmod_eq_of_le (by omega) (by omega)
  rw [e]; omega
theorem hx_mul0 {x y : Int32} (h : x.toInt = 0) : (x * y).toInt = 0 := by
  have : x = 0 := Int32.toInt_inj.mp (h.trans (by decide))
  subst this
  rw [Int32.zero_mul]; rfl