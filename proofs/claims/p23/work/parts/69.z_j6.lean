/-! HEARD -/
/-- the row of those heard: claims, by the numbers of hof -/
def hv_HL (h : hx_h) (qh qc : Nat) (hof : Nat → Int32) (m n : Int) : Prop := ∀ j : Nat, j < 100 → (j : Int) < m → ∃ o, h.2.2 qh j = some o ∧ 0 ≤ (hof j).toInt ∧ (hof j).toInt < n ∧ h.2.2 qc (hof j).toInt.toNat = some o
section HVHL
variable {tb : List hx_d} {M : hx_m} {L L1 : List Nat} {h h1 : hx_h} {qh qc th tc x : Nat} {hof : Nat → Int32} {m n : Int}
theorem hv_HL_S (hs : hx_S tb M L h L1 h1) (gh : hx_g L h qh th) (gc : hx_g L h qc tc) (m1 : M.any (fun q => q.1 == th) = false) (m2 : M.any (fun q => q.1 == tc) = false) (H : hv_HL h qh qc hof m n) : hv_HL h1 qh qc hof m n := by
  intro j hj hjm
  obtain ⟨o, a, b, c, d⟩ := H j hj hjm
  exact ⟨o, by rw [(hs.a gh m1 j).2]; exact a, b, c, by rw [(hs.a gc m2 _).2]; exact d⟩
theorem hv_HL_0 {z : Int} (hz : z = 0) : hv_HL h qh qc hof z n := fun j _ hj => by exfalso; omega
theorem hv_HL_e {f : Nat → Int32} {m' n' : Int} (H : hv_HL h qh qc hof m n) (e : hof = f) (em : m = m') (en : n = n') : hv_HL h qh qc f m' n' := by
  subst e; subst em; subst en; exact H
/-- one more is heard -/
theorem hv_HL_h {o : Nat} {i j : Int32} {m' : Int} (H : hv_HL h qh qc hof m n) (ne : qh ≠ qc) (eh : h1 = hx_pr h qh i.toNatClampNeg (some o)) (h0 : 0 ≤ i.toInt) (hi : i.toInt = m) (j0 : 0 ≤ j.toInt) (j1 : j.toInt < n) (fo : h.2.2 qc j.toNatClampNeg = some o) (em : m' = m + 1) : hv_HL h1 qh qc (hx_up hof m.toNat j) m' n := by
  have e1 : i.toNatClampNeg = m.toNat := by unfold Int32.toNatClampNeg; omega
  subst eh
  intro k hk hkm
  by_cases z : k = m.toNat
  · subst z
    refine ⟨o, by rw [← e1]; exact hx_pr_at _ _ _ _, ?_, ?_, ?_⟩
    · rw [hx_up_at]; exact j0
    · rw [hx_up_at]; exact j1
    · rw [hx_up_at, hx_pr_ne h (some o) (fun q => ne q.1.symm)]; exact fo
  · obtain ⟨o', a, b, c, d⟩ := H k hk (by omega)
    refine ⟨o', ?_, ?_, ?_, ?_⟩
    · rw [hx_pr_ne h (some o) (fun q => z (by rw [q.2, e1]))]; exact a
    · rw [hx_up_ne z]; exact b
    · rw [hx_up_ne z]; exact c
    · rw [hx_up_ne z, hx_pr_ne h (some o) (fun q => ne q.1.symm)]; exact d
/-- one more claim -/
theorem hv_HL_c {p : Nat} {i : Int32} {n' : Int} (H : hv_HL h qh qc hof m n) (ne : qh ≠ qc) (eh : h1 = hx_pr h qc i.toNatClampNeg (some p)) (h0 : 0 ≤ i.toInt) (hi : i.toInt = n) (em : n' = n + 1) : hv_HL h1 qh qc hof m n' := by
  have e1 : i.toNatClampNeg = n.toNat := by unfold Int32.toNatClampNeg; omega
  subst eh
  intro k hk hkm
  obtain ⟨o, a, b, c, d⟩ := H k hk hkm
  refine ⟨o, ?_, b, by omega, ?_⟩
  · rw [hx_pr_ne h (some p) (fun q => ne q.1)]; exact a
  · rw [hx_pr_ne h (some p) (fun q => by have := q.2; omega)]; exact d
end HVHL
theorem hv_HL_X {tb : List hx_d} {M : hx_m} {L L1 : List Nat} {h h1 : hx_h} {qh qc th tc x : Nat} {hof : Nat → Int32} {m n : Int} (hs : hx_S tb M (hx_X L x) h L1 h1) (gh : hx_g (hx_X L x) h qh th) (gc : hx_g (hx_X L x) h qc tc) (m1 : M.any (fun q => q.1 == th) = false) (m2 : M.any (fun q => q.1 == tc) = false) (H : hv_HL h qh qc hof m n) : hv_HL h1 qh qc hof m n := hv_HL_S hs gh gc m1 m2 H
def hv_HC (ff hf df agf : Nat → Int32) (n i d len : Int) : Prop := (0 ≤ i ∧ i < n) ∧ (ff i.toNat).toInt ≠ -1 ∧ (hf i.toNat).toInt = -1 ∧ (df (agf i.toNat).toInt.toNat).toInt = 0 ∧ 0 ≤ d ∧ 3 ≤ len
/-- what hear answers, and what stands behind it -/
def hv_HS (C : Prop) (i nw m0 m1 r : Int32) (J : Int) (hf hf1 uf uf1 hof hof1 : Nat → Int32) : Prop := (r.toInt = -1 ∧ ¬ C ∧ m1 = m0 ∧ hf1 = hf ∧ uf1 = uf ∧ hof1 = hof) ∨ (C ∧ r.toInt = J ∧ (1 ≤ r.toInt ∧ r.toInt ≤ 5) ∧ m1.toInt = m0.toInt + 1 ∧ hf1 = hx_up hf i.toNatClampNeg nw ∧ uf1 = hx_up uf i.toNatClampNeg r ∧ hof1 = hx_up hof m0.toInt.toNat i)
theorem hv_jg_e {F G R : Nat → Int} {o : List hv_tok} {fr bo su sp : Int} (hO : hv_OK o) (h : ∀ k, k < 8 → F k = G k) : hv_jg F R o fr bo su sp = hv_jg G R o fr bo su sp := by
  unfold hv_jg
  rw [hv_pr_e hO h]
/-- the facts of both sides: of those heard the same; of others what was told as they were filed -/
def hv_FR (cF rf nf wf sf hf : Nat → Int32) (n : Int) : Prop := ∀ c : Nat, (c : Int) < n → ((hf c).toInt ≠ -1 → ∀ k, k < 8 → cF (k + 8 * c) = rf (k + 8 * c)) ∧ ((hf c).toInt = -1 → cF (2 + 8 * c) = nf c ∧ cF (3 + 8 * c) = wf c ∧ cF (7 + 8 * c) = sf c)
/-- eight facts of a claim -/
def hv_u8 (f : Nat → Int32) (c : Nat) (v : Nat → Int32) : Nat → Int32 := fun j => if 8 * c ≤ j ∧ j < 8 * c + 8 then v (j - 8 * c) else f j
theorem hv_u8_at {f v : Nat → Int32} {c k : Nat} (hk : k < 8) : hv_u8 f c v (k + 8 * c) = v k := by
  unfold hv_u8
  rw [if_pos (by omega), show k + 8 * c - 8 * c = k by omega]
theorem hv_u8_ne {f v : Nat → Int32} {c d k : Nat} (hk : k < 8) (h : d ≠ c) : hv_u8 f c v (k + 8 * d) = f (k + 8 * d) := by
  unfold hv_u8
  rw [if_neg (by omega)]
/-- a claim's facts, told as it is heard -/
def hv_CU (cF cF1 : Nat → Int32) (c : Nat) (a0 a1 a4 a5 : Int32) (a6 : Int) : Prop := (∀ d k : Nat, k < 8 → d ≠ c → cF1 (k + 8 * d) = cF (k + 8 * d)) ∧ cF1 (0 + 8 * c) = a0 ∧ cF1 (1 + 8 * c) = a1 ∧ cF1 (2 + 8 * c) = cF (2 + 8 * c) ∧ cF1 (3 + 8 * c) = cF (3 + 8 * c) ∧ cF1 (4 + 8 * c) = a4 ∧ cF1 (5 + 8 * c) = a5 ∧ (cF1 (6 + 8 * c)).toInt = a6 ∧ cF1 (7 + 8 * c) = cF (7 + 8 * c)
theorem hv_CU_i {f0 f1 f2 f3 f4 f5 : Nat → Int32} {c : Nat} {v0 v1 v4 v5 v6 a4 a5 : Int32} {a6 : Int} (d1 : f1 = hx_up f0 ((0 : Int32).toNatClampNeg + 8 * c) v0) (d2 : f2 = hx_up f1 ((1 : Int32).toNatClampNeg + 8 * c) v1) (d3 : f3 = hx_up f2 ((4 : Int32).toNatClampNeg + 8 * c) v4) (d4 : f4 = hx_up f3 ((5 : Int32).toNatClampNeg + 8 * c) v5) (d5 : f5 = hx_up f4 ((6 : Int32).toNatClampNeg + 8 * c) v6) (e4 : v4 = a4) (e5 : v5 = a5) (e6 : v6.toInt = a6) : hv_CU f0 f5 c v0 v1 a4 a5 a6 := by
  have k0 : (0 : Int32).toNatClampNeg = 0 := by decide
  have k1 : (1 : Int32).toNatClampNeg = 1 := by decide
  have k4 : (4 : Int32).toNatClampNeg = 4 := by decide
  have k5 : (5 : Int32).toNatClampNeg = 5 := by decide
  have k6 : (6 : Int32).toNatClampNeg = 6 := by decide
  rw [k0] at d1; rw [k1] at d2; rw [k4] at d3; rw [k5] at d4; rw [k6] at d5
  subst d1; subst d2; subst d3; subst d4; subst d5; subst e4; subst e5
  refine ⟨fun d k hk hd => ?_, ?_, ?_, ?_, ?_, ?_, ?_, ?_, ?_⟩
  · rw [hx_up_ne (by omega), hx_up_ne (by omega), hx_up_ne (by omega), hx_up_ne (by omega), hx_up_ne (by omega)]
  · rw [hx_up_ne (by omega), hx_up_ne (by omega), hx_up_ne (by omega), hx_up_ne (by omega), hx_up_at]
  · rw [hx_up_ne (by omega), hx_up_ne (by omega), hx_up_ne (by omega), hx_up_at]
  · rw [hx_up_ne (by omega), hx_up_ne (by omega), hx_up_ne (by omega), hx_up_ne (by omega), hx_up_ne (by omega)]
  · rw [hx_up_ne (by omega), hx_up_ne (by omega), hx_up_ne (by omega), hx_up_ne (by omega), hx_up_ne (by omega)]
  · rw [hx_up_ne (by omega), hx_up_ne (by omega), hx_up_at]
  · rw [hx_up_ne (by omega), hx_up_at]
  · rw [hx_up_at]; exact e6
  · rw [hx_up_ne (by omega), hx_up_ne (by omega), hx_up_ne (by omega), hx_up_ne (by omega), hx_up_ne (by omega)]
def hv_CV (rf rf1 : Nat → Int32) (c : Nat) (a0 a1 a2 a3 a4 a5 : Int32) (a6 : Int) (a7 : Int32) : Prop := (∀ d k : Nat, k < 8 → d ≠ c → rf1 (k + 8 * d) = rf (k + 8 * d)) ∧ rf1 (0 + 8 * c) = a0 ∧ rf1 (1 + 8 * c) = a1 ∧ rf1 (2 + 8 * c) = a2 ∧ rf1 (3 + 8 * c) = a3 ∧ rf1 (4 + 8 * c) = a4 ∧ rf1 (5 + 8 * c) = a5 ∧ (rf1 (6 + 8 * c)).toInt = a6 ∧ rf1 (7 + 8 * c) = a7
theorem hv_CV_i {f0 f1 f2 f3 f4 f5 f6 f7 f8 : Nat → Int32} {c i0 i1 i2 i3 i4 i5 i6 i7 : Nat} {v0 v1 v2 v3 v4 v5 v6 v7 a2 a3 a4 a5 a7 : Int32} {a6 : Int} (d1 : f1 = hx_up f0 i0 v0) (d2 : f2 = hx_up f1 i1 v1) (d3 : f3 = hx_up f2 i2 v2) (d4 : f4 = hx_up f3 i3 v3) (d5 : f5 = hx_up f4 i4 v4) (d6 : f6 = hx_up f5 i5 v5) (d7 : f7 = hx_up f6 i6 v6) (d8 : f8 = hx_up f7 i7 v7) (k0 : i0 = 8 * c) (k1 : i1 = 1 + 8 * c) (k2 : i2 = 2 + 8 * c) (k3 : i3 = 3 + 8 * c) (k4 : i4 = 4 + 8 * c) (k5 : i5 = 5 + 8 * c) (k6 : i6 = 6 + 8 * c) (k7 : i7 = 7 + 8 * c) (e2 : v2 = a2) (e3 : v3 = a3) (e4 : v4 = a4) (e5 : v5 = a5) (e6 : v6.toInt = a6) (e7 : v7 = a7) : hv_CV f0 f8 c v0 v1 a2 a3 a4 a5 a6 a7 := by
  subst d1; subst d2; subst d3; subst d4; subst d5; subst d6; subst d7; subst d8
  subst e2; subst e3; subst e4; subst e5; subst e7
  have n : ∀ {f : Nat → Int32} {i j : Nat} {v : Int32}, i ≠ j → hx_up f i v j = f j := fun h => hx_up_ne (fun z => h z.symm)
  refine ⟨fun d k hk hd => ?_, ?_, ?_, ?_, ?_, ?_, ?_, ?_, ?_⟩
  · rw [n (by omega), n (by omega), n (by omega), n (by omega), n (by omega), n (by omega), n (by omega), n (by omega)]
  · rw [n (by omega), n (by omega), n (by omega), n (by omega), n (by omega), n (by omega), n (by omega), show 0 + 8 * c = i0 by omega, hx_up_at]
  · rw [n (by omega), n (by omega), n (by omega), n (by omega), n (by omega), n (by omega), show 1 + 8 * c = i1 by omega, hx_up_at]
  · rw [n (by omega), n (by omega), n (by omega), n (by omega), n (by omega), show 2 + 8 * c = i2 by omega, hx_up_at]
  · rw [n (by omega), n (by omega), n (by omega), n (by omega), show 3 + 8 * c = i3 by omega, hx_up_at]
  · rw [n (by omega), n (by omega), n (by omega), show 4 + 8 * c = i4 by omega, hx_up_at]
  · rw [n (by omega), n (by omega), show 5 + 8 * c = i5 by omega, hx_up_at]
  · rw [n (by omega), show 6 + 8 * c = i6 by omega, hx_up_at]; exact e6
  · rw [show 7 + 8 * c = i7 by omega, hx_up_at]
