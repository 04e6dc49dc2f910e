/-! JUDGED BY ANOTHER ACT -/
theorem hv_mul9 {a b x : Int32} (ha : 0 ≤ a.toInt ∧ a.toInt ≤ 512) (hb : 0 ≤ b.toInt ∧ b.toInt ≤ 9999) (e : x = a * b) : x.toInt = a.toInt * b.toInt ∧ 0 ≤ x.toInt ∧ x.toInt ≤ 5119488 := by
  have h1 : 0 ≤ a.toInt * b.toInt := Int.mul_nonneg ha.1 hb.1
  have h2 : a.toInt * b.toInt ≤ 512 * 9999 := Int.mul_le_mul ha.2 hb.2 hb.1 (by decide)
  have h3 : x.toInt = a.toInt * b.toInt := by rw [e]; exact i32_mul rfl rfl rfl (by omega) (by omega)
  exact ⟨h3, by omega, by omega⟩
def hv_oJ (cF hof frf bnf agf smf byf flf : Nat → Int32) (a : hv_act) (n : Nat) (j : Nat) : Int := hv_jg (hv_F0 cF (8 * (hof j).toNatClampNeg)) a.2.1 a.2.2 (frf (hof j).toNatClampNeg).toInt (bnf (agf (hof j).toNatClampNeg).toNatClampNeg).toInt (smf (hof j).toNatClampNeg).toInt (hv_sm byf agf flf smf (byf (hof j).toNatClampNeg).toInt (agf (hof j).toNatClampNeg).toInt ((flf (hof j).toNatClampNeg).toInt - a.2.1 1) n)
theorem hv_oJ_e {cF rf nf wf sf hf hof frf bnf agf smf byf flf : Nat → Int32} {m n : Int} {a : hv_act} {N : Nat} (H : hv_FR cF rf nf wf sf hf n) (HO : hv_HO hof hf m n) (hO : hv_OK a.2.2) : ∀ j : Nat, (j : Int) < m → hv_oJ cF hof frf bnf agf smf byf flf a N j = hv_oJ rf hof frf bnf agf smf byf flf a N j := by
  intro j hj
  obtain ⟨x, y, w⟩ := HO j hj
  have k := (H (hof j).toInt.toNat (by omega)).1 w
  exact hv_jg_e hO (fun q hq => congrArg Int32.toInt (k q hq))
def hv_oc (J : Nat → Int) (k : Int) : Nat → Int
  | 0 => 0
  | j + 1 => if J j = k then hv_oc J k j + 1 else hv_oc J k j
def hv_os (J T R : Nat → Int) : Nat → Int
  | 0 => 0
  | j + 1 => hv_os J T R j + (T j * R 9 + R 10 + (if J j = 5 then R 11 else 0))
theorem hv_oc_y {J : Nat → Int} {k l l1 s s1 : Int} (h : s = hv_oc J k l.toNat) (hj : J l.toNat = k) (h0 : 0 ≤ l) (es : s1 = s + 1) (e1 : l1 = l + 1) : s1 = hv_oc J k l1.toNat := by
  rw [show l1.toNat = l.toNat + 1 by omega]
  show s1 = (if J l.toNat = k then hv_oc J k l.toNat + 1 else hv_oc J k l.toNat)
  rw [if_pos hj, ← h]; exact es
theorem hv_oc_n {J : Nat → Int} {k l l1 s s1 : Int} (h : s = hv_oc J k l.toNat) (hj : J l.toNat ≠ k) (h0 : 0 ≤ l) (es : s1 = s) (e1 : l1 = l + 1) : s1 = hv_oc J k l1.toNat := by
  rw [show l1.toNat = l.toNat + 1 by omega]
  show s1 = (if J l.toNat = k then hv_oc J k l.toNat + 1 else hv_oc J k l.toNat)
  rw [if_neg hj, ← h]; exact es
theorem hv_os_s {J T R : Nat → Int} {l l1 s s1 c : Int} (h : s = hv_os J T R l.toNat) (hc : c = T l.toNat * R 9 + R 10 + (if J l.toNat = 5 then R 11 else 0)) (h0 : 0 ≤ l) (es : s1 = s + c) (e1 : l1 = l + 1) : s1 = hv_os J T R l1.toNat := by
  rw [show l1.toNat = l.toNat + 1 by omega, es, hc, h]; rfl
theorem hv_oc_e {J J' : Nat → Int} {k : Int} : ∀ m : Nat, (∀ j, j < m → J j = J' j) → hv_oc J k m = hv_oc J' k m
  | 0, _ => rfl
  | m + 1, h => by
    have ih := hv_oc_e (k := k) m (fun j hj => h j (by omega))
    show (if J m = k then hv_oc J k m + 1 else hv_oc J k m) = (if J' m = k then hv_oc J' k m + 1 else hv_oc J' k m)
    rw [h m (by omega), ih]
theorem hv_os_e {J J' T T' R : Nat → Int} : ∀ m : Nat, (∀ j, j < m → J j = J' j) → (∀ j, j < m → T j = T' j) → hv_os J T R m = hv_os J' T' R m
  | 0, _, _ => rfl
  | m + 1, h, h' => by
    have ih := hv_os_e (R := R) m (fun j hj => h j (by omega)) (fun j hj => h' j (by omega))
    show hv_os J T R m + (T m * R 9 + R 10 + (if J m = 5 then R 11 else 0)) = hv_os J' T' R m + (T' m * R 9 + R 10 + (if J' m = 5 then R 11 else 0))
    rw [h m (by omega), h' m (by omega), ih]
def hv_OT (J T R : Nat → Int) (a n i m r : Int) : Prop := ((a < -1 ∨ n ≤ a ∨ i < 1 ∨ 6 < i) ∧ r = -1) ∨ (¬ (a < -1 ∨ n ≤ a ∨ i < 1 ∨ 6 < i) ∧ ((i = 6 ∧ r = hv_os J T R m.toNat) ∨ (i ≠ 6 ∧ r = hv_oc J i m.toNat)))
theorem hv_OT_eq {J J' T T' R : Nat → Int} {a n i m r r' : Int} (h : hv_OT J T R a n i m r) (h' : hv_OT J' T' R a n i m r') (eJ : ∀ j : Nat, (j : Int) < m → J j = J' j) (eT : ∀ j : Nat, (j : Int) < m → T j = T' j) : r = r' := by
  rcases h with ⟨z, e⟩ | ⟨z, h⟩ <;> rcases h' with ⟨z', e'⟩ | ⟨z', h'⟩
  · exact e.trans e'.symm
  · exact absurd z z'
  · exact absurd z' z
  · rcases h with ⟨y, e⟩ | ⟨y, e⟩ <;> rcases h' with ⟨y', e'⟩ | ⟨y', e'⟩
    · rw [e, e']; exact hv_os_e _ (fun j hj => eJ j (by omega)) (fun j hj => eT j (by omega))
    · exact absurd y y'
    · exact absurd y' y
    · rw [e, e']; exact hv_oc_e _ (fun j hj => eJ j (by omega))
