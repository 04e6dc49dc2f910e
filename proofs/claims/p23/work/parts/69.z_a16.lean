/-! A COMPARISON, AS THE CLASS HAS IT: what its parts are -/
theorem hv_bitN {z y : Int32} (k : Nat) (hk : k < 31) (m : Int32) (hm : m.toBitVec = BitVec.twoPow 32 k) (h2 : (BitVec.twoPow 32 k).toInt ≠ 0) (h : 0 ≤ z.toInt) (e : y = z &&& m) : y.toInt ≠ 0 ↔ z.toInt / ((2 ^ k : Nat) : Int) % 2 = 1 := by
  have hz := hv_i32n h
  have h4 : y.toBitVec = z.toBitVec &&& BitVec.twoPow 32 k := by rw [e, ← hm]; rfl
  have hy : y.toInt = y.toBitVec.toInt := rfl
  have hb : z.toBitVec.getLsbD k = decide (z.toBitVec.toNat / 2 ^ k % 2 = 1) := Nat.testBit_eq_decide_div_mod_eq
  have hc : z.toInt / ((2 ^ k : Nat) : Int) % 2 = ((z.toBitVec.toNat / 2 ^ k % 2 : Nat) : Int) := by rw [hz.1]; rfl
  rw [hc, hy, h4, BitVec.and_twoPow, hb]
  by_cases w : z.toBitVec.toNat / 2 ^ k % 2 = 1
  · rw [if_pos (decide_eq_true w), w]
    exact ⟨fun _ => rfl, fun _ => h2⟩
  · rw [if_neg (fun q => w (of_decide_eq_true q))]
    exact ⟨fun q => absurd (by decide) q, fun q => absurd (by omega) w⟩
theorem hv_cc_d {t : hv_tok} (hv : hv_vt t) (h1 : 1 ≤ t.1) : 0 ≤ hv_cc t ∧ hv_cc t % 8 = t.1 - 1 ∧ hv_cc t / 8 % 8 = hv_scd (t.2.1, 1) ∧ (10000 ≤ t.2.2 → hv_cc t / 64 % 2 = 1 ∧ hv_cc t / 128 = t.2.2 - 10000) ∧ (t.2.2 < 10000 → hv_cc t / 64 % 2 = 0 ∧ hv_cc t / 128 = t.2.2) := by
  have hs := hv_scd_b (g := (t.2.1, 1))
  rcases hv with ⟨a, _⟩ | ⟨a, b, c, d, e⟩
  · exfalso; omega
  · unfold hv_cc
    rw [if_neg (by omega)]
    by_cases z : 10000 ≤ t.2.2
    · rw [if_pos z]
      refine ⟨by omega, by omega, by omega, fun _ => by omega, fun _ => by omega⟩
    · rw [if_neg z]
      refine ⟨by omega, by omega, by omega, fun _ => by omega, fun _ => by omega⟩
theorem hv_hd_c {F : Nat → Int} {t : hv_tok} {l r s : Int} (hv : hv_vt t) (h1 : 1 ≤ t.1) (hl : l = F (t.1 - 1).toNat) (hr : r = (if 10000 ≤ t.2.2 then F (t.2.2 - 10000).toNat else t.2.2)) (hs : s = hv_scd (t.2.1, 1)) : ((l < r ∧ s % 2 = 1) ∨ (l = r ∧ s / 2 % 2 = 1) ∨ (r < l ∧ s / 4 % 2 = 1)) ↔ hv_hd F t = true := by
  obtain ⟨a, g, v⟩ := t
  have hg : g ≤ 4 := by
    rcases hv with ⟨_, b⟩ | ⟨_, _, c, _⟩
    · have b' : g ≤ 2 := b; omega
    · exact c
  have hl' : F (a - 1).toNat = l := hl.symm
  have hr' : (if 10000 ≤ v then F (v - 10000).toNat else v) = r := hr.symm
  rcases (show g = 0 ∨ g = 1 ∨ g = 2 ∨ g = 3 ∨ g = 4 by omega) with e | e | e | e | e <;> subst e
  · have hs' : s = 1 := hs
    show _ ↔ decide (F (a - 1).toNat < (if 10000 ≤ v then F (v - 10000).toNat else v)) = true
    rw [hl', hr', decide_eq_true_iff]; omega
  · have hs' : s = 3 := hs
    show _ ↔ decide (F (a - 1).toNat ≤ (if 10000 ≤ v then F (v - 10000).toNat else v)) = true
    rw [hl', hr', decide_eq_true_iff]; omega
  · have hs' : s = 2 := hs
    show _ ↔ decide (F (a - 1).toNat = (if 10000 ≤ v then F (v - 10000).toNat else v)) = true
    rw [hl', hr', decide_eq_true_iff]; omega
  · have hs' : s = 6 := hs
    show _ ↔ decide ((if 10000 ≤ v then F (v - 10000).toNat else v) ≤ F (a - 1).toNat) = true
    rw [hl', hr', decide_eq_true_iff]; omega
  · have hs' : s = 4 := hs
    show _ ↔ decide ((if 10000 ≤ v then F (v - 10000).toNat else v) < F (a - 1).toNat) = true
    rw [hl', hr', decide_eq_true_iff]; omega
