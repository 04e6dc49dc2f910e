/-! RINGS: the best of all, as it is looked for by both sides -/
def hz_of (n l : Int) (g : Nat → Int) (o : Int × Int × (Nat → Int)) : Int × Int × (Nat → Int) := if l = 0 ∨ l < o.1 ∨ (l = o.1 ∧ o.2.1 ≤ n) then o else (l, n, g)
def hz_g (a b c d : Int) : Nat → Int := fun i => if i = 0 then a else if i = 1 then b else if i = 2 then c else d
def hz_F4 (V : Int → Int) (a b c l : Int) (o : Int × Int × (Nat → Int)) : Nat → Int × Int × (Nat → Int)
  | 0 => o
  | k + 1 => if a + 1 + (k : Int) = b ∨ a + 1 + (k : Int) = c ∨ hz_mi l (V (40 * c + (a + 1 + k))) = 0 then hz_F4 V a b c l o k else hz_of 4 (hz_mi (hz_mi l (V (40 * c + (a + 1 + k)))) (V (40 * (a + 1 + k) + a))) (hz_g a b c (a + 1 + k)) (hz_F4 V a b c l o k)
def hz_F3 (V : Int → Int) (np a b l : Int) (o : Int × Int × (Nat → Int)) : Nat → Int × Int × (Nat → Int)
  | 0 => o
  | k + 1 => if a + 1 + (k : Int) = b ∨ hz_mi l (V (40 * b + (a + 1 + k))) = 0 then hz_F3 V np a b l o k else hz_F4 V a b (a + 1 + k) (hz_mi l (V (40 * b + (a + 1 + k)))) (hz_of 3 (hz_mi (hz_mi l (V (40 * b + (a + 1 + k)))) (V (40 * (a + 1 + k) + a))) (hz_g a b (a + 1 + k) 0) (hz_F3 V np a b l o k)) (np - a - 1).toNat
def hz_F2 (V : Int → Int) (np a : Int) (o : Int × Int × (Nat → Int)) : Nat → Int × Int × (Nat → Int)
  | 0 => o
  | k + 1 => if V (40 * a + (a + 1 + k)) = 0 then hz_F2 V np a o k else hz_F3 V np a (a + 1 + k) (V (40 * a + (a + 1 + k))) (hz_of 2 (hz_mi (V (40 * a + (a + 1 + k))) (V (40 * (a + 1 + k) + a))) (hz_g a (a + 1 + k) 0 0) (hz_F2 V np a o k)) (np - a - 1).toNat
def hz_F1 (V : Int → Int) (np : Int) : Nat → Int × Int × (Nat → Int)
  | 0 => (0, 0, fun _ => 0)
  | k + 1 => hz_F2 V np k (hz_F1 V np k) (np - k - 1).toNat
theorem hz_of_lo {n l : Int} {g : Nat → Int} {o : Int × Int × (Nat → Int)} (h : l < o.1) : hz_of n l g o = o := by unfold hz_of; rw [if_pos (Or.inr (Or.inl h))]
theorem hz_mi_l {a b : Int} : hz_mi a b ≤ a ∧ hz_mi a b ≤ b := by unfold hz_mi; split <;> omega
theorem hz_F4_lo {V : Int → Int} {a b c l : Int} {o : Int × Int × (Nat → Int)} (h : l < o.1) : ∀ k : Nat, hz_F4 V a b c l o k = o := by
  intro k
  induction k with
  | zero => rfl
  | succ k ih =>
    simp only [hz_F4, ih]
    split
    · rfl
    · have h1 := hz_mi_l (a := l) (b := V (40 * c + (a + 1 + k)))
      have h2 := hz_mi_l (a := hz_mi l (V (40 * c + (a + 1 + k)))) (b := V (40 * (a + 1 + k) + a))
      exact hz_of_lo (by omega)
theorem hz_F3_lo {V : Int → Int} {np a b l : Int} {o : Int × Int × (Nat → Int)} (h : l < o.1) : ∀ k : Nat, hz_F3 V np a b l o k = o := by
  intro k
  induction k with
  | zero => rfl
  | succ k ih =>
    simp only [hz_F3, ih]
    split
    · rfl
    · have h1 := hz_mi_l (a := l) (b := V (40 * b + (a + 1 + k)))
      have h2 := hz_mi_l (a := hz_mi l (V (40 * b + (a + 1 + k)))) (b := V (40 * (a + 1 + k) + a))
      rw [hz_of_lo (o := o) (by omega)]
      exact hz_F4_lo (by omega) _
/-- the state as the heap has it -/
def hz_SR (o : Int × Int × (Nat → Int)) (bl bs : Int) (br : Nat → Int32) : Prop := o.1 = bl ∧ o.2.1 = bs ∧ (0 ≤ bl ∧ (bl = 0 → bs = 0) ∧ 0 ≤ bs ∧ bs ≤ 4) ∧ ∀ i : Nat, (i : Int) < bs → (br i).toInt = o.2.2 i
theorem hz_SR_0 {br : Nat → Int32} {bl bs : Int} {np : Int} {V : Int → Int} (h1 : bl = 0) (h2 : bs = 0) : hz_SR (hz_F1 V np 0) bl bs br := by
  subst h1; subst h2
  exact ⟨rfl, rfl, by omega, fun i hi => by exfalso; omega⟩
theorem hz_SR_n {o : Int × Int × (Nat → Int)} {n l bl bs : Int} {g : Nat → Int} {br : Nat → Int32} (h : hz_SR o bl bs br) (hc : l = 0 ∨ l < bl ∨ (l = bl ∧ bs ≤ n)) : hz_SR (hz_of n l g o) bl bs br := by
  unfold hz_of
  rw [if_pos (by rw [h.1, h.2.1]; exact hc)]
  exact h
theorem hz_SR_y {o : Int × Int × (Nat → Int)} {n l bl bs bl1 bs1 : Int} {g : Nat → Int} {br br1 : Nat → Int32} (h : hz_SR o bl bs br) (hc : ¬ (l = 0 ∨ l < bl ∨ (l = bl ∧ bs ≤ n))) (e1 : bl1 = l) (e2 : bs1 = n) (hn : 0 ≤ n ∧ n ≤ 4) (hg : ∀ i : Nat, (i : Int) < n → (br1 i).toInt = g i) : hz_SR (hz_of n l g o) bl1 bs1 br1 := by
  subst e1; subst e2
  have hb := h.2.2.1
  unfold hz_of
  rw [if_neg (by rw [h.1, h.2.1]; exact hc)]
  exact ⟨rfl, rfl, by omega, hg⟩
section HZF
variable {V : Int → Int} {np a b c d d1 l bl bs : Int} {o : Int × Int × (Nat → Int)} {br : Nat → Int32}
theorem hz_F4_n (h : hz_SR (hz_F4 V a b c l o (d - a - 1).toNat) bl bs br) (hd : a + 1 ≤ d) (hs : d = b ∨ d = c ∨ hz_mi l (V (40 * c + d)) = 0) (e : d1 = d + 1) : hz_SR (hz_F4 V a b c l o (d1 - a - 1).toNat) bl bs br := by
  subst e
  have e1 : (d + 1 - a - 1).toNat = (d - a - 1).toNat + 1 := by omega
  have e2 : a + 1 + (((d - a - 1).toNat : Nat) : Int) = d := by omega
  rw [e1]; simp only [hz_F4, e2]; rw [if_pos hs]; exact h
theorem hz_F4_y (h : hz_SR (hz_of 4 (hz_mi (hz_mi l (V (40 * c + d))) (V (40 * d + a))) (hz_g a b c d) (hz_F4 V a b c l o (d - a - 1).toNat)) bl bs br) (hd : a + 1 ≤ d) (hs : ¬ (d = b ∨ d = c ∨ hz_mi l (V (40 * c + d)) = 0)) (e : d1 = d + 1) : hz_SR (hz_F4 V a b c l o (d1 - a - 1).toNat) bl bs br := by
  subst e
  have e1 : (d + 1 - a - 1).toNat = (d - a - 1).toNat + 1 := by omega
  have e2 : a + 1 + (((d - a - 1).toNat : Nat) : Int) = d := by omega
  rw [e1]; simp only [hz_F4, e2]; rw [if_neg hs]; exact h
theorem hz_F4_p (h : hz_SR (hz_F4 V a b c l o (d - a - 1).toNat) bl bs br) (hd : a + 1 ≤ d) (hp : V (40 * c + d) < bl) (e : d1 = d + 1) : hz_SR (hz_F4 V a b c l o (d1 - a - 1).toNat) bl bs br := by
  by_cases hs : d = b ∨ d = c ∨ hz_mi l (V (40 * c + d)) = 0
  · exact hz_F4_n h hd hs e
  · refine hz_F4_y ?_ hd hs e
    have h1 := hz_mi_l (a := l) (b := V (40 * c + d))
    have h2 := hz_mi_l (a := hz_mi l (V (40 * c + d))) (b := V (40 * d + a))
    exact hz_SR_n h (Or.inr (Or.inl (by omega)))
theorem hz_F3_n (h : hz_SR (hz_F3 V np a b l o (d - a - 1).toNat) bl bs br) (hd : a + 1 ≤ d) (hs : d = b ∨ hz_mi l (V (40 * b + d)) = 0) (e : d1 = d + 1) : hz_SR (hz_F3 V np a b l o (d1 - a - 1).toNat) bl bs br := by
  subst e
  have e1 : (d + 1 - a - 1).toNat = (d - a - 1).toNat + 1 := by omega
  have e2 : a + 1 + (((d - a - 1).toNat : Nat) : Int) = d := by omega
  rw [e1]; simp only [hz_F3, e2]; rw [if_pos hs]; exact h
theorem hz_F3_y (h : hz_SR (hz_F4 V a b d (hz_mi l (V (40 * b + d))) (hz_of 3 (hz_mi (hz_mi l (V (40 * b + d))) (V (40 * d + a))) (hz_g a b d 0) (hz_F3 V np a b l o (d - a - 1).toNat)) (np - a - 1).toNat) bl bs br) (hd : a + 1 ≤ d) (hs : ¬ (d = b ∨ hz_mi l (V (40 * b + d)) = 0)) (e : d1 = d + 1) : hz_SR (hz_F3 V np a b l o (d1 - a - 1).toNat) bl bs br := by
  subst e
  have e1 : (d + 1 - a - 1).toNat = (d - a - 1).toNat + 1 := by omega
  have e2 : a + 1 + (((d - a - 1).toNat : Nat) : Int) = d := by omega
  rw [e1]; simp only [hz_F3, e2]; rw [if_neg hs]; exact h
theorem hz_F3_p (h : hz_SR (hz_F3 V np a b l o (d - a - 1).toNat) bl bs br) (hd : a + 1 ≤ d) (hp : V (40 * b + d) < bl) (e : d1 = d + 1) : hz_SR (hz_F3 V np a b l o (d1 - a - 1).toNat) bl bs br := by
  by_cases hs : d = b ∨ hz_mi l (V (40 * b + d)) = 0
  · exact hz_F3_n h hd hs e
  · refine hz_F3_y ?_ hd hs e
    have h1 := hz_mi_l (a := l) (b := V (40 * b + d))
    have h2 := hz_mi_l (a := hz_mi l (V (40 * b + d))) (b := V (40 * d + a))
    rw [hz_of_lo (by rw [h.1]; omega), hz_F4_lo (by rw [h.1]; omega)]
    exact h
theorem hz_F2_n (h : hz_SR (hz_F2 V np a o (d - a - 1).toNat) bl bs br) (hd : a + 1 ≤ d) (hs : V (40 * a + d) = 0) (e : d1 = d + 1) : hz_SR (hz_F2 V np a o (d1 - a - 1).toNat) bl bs br := by
  subst e
  have e1 : (d + 1 - a - 1).toNat = (d - a - 1).toNat + 1 := by omega
  have e2 : a + 1 + (((d - a - 1).toNat : Nat) : Int) = d := by omega
  rw [e1]; simp only [hz_F2, e2]; rw [if_pos hs]; exact h
theorem hz_F2_y (h : hz_SR (hz_F3 V np a d (V (40 * a + d)) (hz_of 2 (hz_mi (V (40 * a + d)) (V (40 * d + a))) (hz_g a d 0 0) (hz_F2 V np a o (d - a - 1).toNat)) (np - a - 1).toNat) bl bs br) (hd : a + 1 ≤ d) (hs : ¬ V (40 * a + d) = 0) (e : d1 = d + 1) : hz_SR (hz_F2 V np a o (d1 - a - 1).toNat) bl bs br := by
  subst e
  have e1 : (d + 1 - a - 1).toNat = (d - a - 1).toNat + 1 := by omega
  have e2 : a + 1 + (((d - a - 1).toNat : Nat) : Int) = d := by omega
  rw [e1]; simp only [hz_F2, e2]; rw [if_neg hs]; exact h
theorem hz_F2_p (h : hz_SR (hz_F2 V np a o (d - a - 1).toNat) bl bs br) (hd : a + 1 ≤ d) (hp : V (40 * a + d) < bl) (e : d1 = d + 1) : hz_SR (hz_F2 V np a o (d1 - a - 1).toNat) bl bs br := by
  by_cases hs : V (40 * a + d) = 0
  · exact hz_F2_n h hd hs e
  · refine hz_F2_y ?_ hd hs e
    have h1 := hz_mi_l (a := V (40 * a + d)) (b := V (40 * d + a))
    rw [hz_of_lo (by rw [h.1]; omega), hz_F3_lo (by rw [h.1]; omega)]
    exact h
theorem hz_F1_s (h : hz_SR (hz_F2 V np a (hz_F1 V np a.toNat) (np - a - 1).toNat) bl bs br) (h0 : 0 ≤ a) (e : d1 = a + 1) : hz_SR (hz_F1 V np d1.toNat) bl bs br := by
  subst e
  have e1 : (a + 1).toNat = a.toNat + 1 := by omega
  have e2 : ((a.toNat : Nat) : Int) = a := by omega
  rw [e1]; simp only [hz_F1, e2]; exact h
end HZF
/-! what a ring is: of those that are kept -/
def hz_RG (V : Int → Int) (np : Int) (o : Int × Int × (Nat → Int)) : Prop := 0 ≤ o.1 ∧ (o.2.1 = 0 ∨ (2 ≤ o.2.1 ∧ o.2.1 ≤ 4 ∧ 1 ≤ o.1 ∧ (∀ i : Nat, (i : Int) < o.2.1 → 0 ≤ o.2.2 i ∧ o.2.2 i < np) ∧ (∀ i j : Nat, (i : Int) < o.2.1 → (j : Int) < o.2.1 → i ≠ j → o.2.2 i ≠ o.2.2 j) ∧ (∀ i : Nat, (i : Int) < o.2.1 → o.1 ≤ V (40 * o.2.2 i + o.2.2 (((i : Int) + 1) % o.2.1).toNat)) ∧ ∃ i : Nat, (i : Int) < o.2.1 ∧ o.1 = V (40 * o.2.2 i + o.2.2 (((i : Int) + 1) % o.2.1).toNat)))
theorem hz_mi_c {a b : Int} : hz_mi a b = a ∨ hz_mi a b = b := by unfold hz_mi; split <;> omega
theorem hz_g_0 {a b c d : Int} : hz_g a b c d 0 = a := by unfold hz_g; rw [if_pos rfl]
theorem hz_g_1 {a b c d : Int} : hz_g a b c d 1 = b := by unfold hz_g; rw [if_neg (by decide), if_pos rfl]
theorem hz_g_2 {a b c d : Int} : hz_g a b c d 2 = c := by unfold hz_g; rw [if_neg (by decide), if_neg (by decide), if_pos rfl]
theorem hz_g_3 {a b c d : Int} : hz_g a b c d 3 = d := by unfold hz_g; rw [if_neg (by decide), if_neg (by decide), if_neg (by decide)]
theorem hz_RG_2 {V : Int → Int} {np a b : Int} {o : Int × Int × (Nat → Int)} (h : hz_RG V np o) (ha : 0 ≤ a ∧ a < np) (hb : 0 ≤ b ∧ b < np) (n1 : a ≠ b) (hl : 0 ≤ hz_mi (V (40 * a + b)) (V (40 * b + a))) : hz_RG V np (hz_of 2 (hz_mi (V (40 * a + b)) (V (40 * b + a))) (hz_g a b 0 0) o) := by
  have m1 := hz_mi_l (a := V (40 * a + b)) (b := V (40 * b + a))
  have m2 := hz_mi_c (a := V (40 * a + b)) (b := V (40 * b + a))
  unfold hz_of
  split
  · exact h
  · rename_i hc
    refine ⟨by show 0 ≤ hz_mi _ _; omega, Or.inr ⟨(by show (2 : Int) ≤ 2; decide), (by show (2 : Int) ≤ 4; decide), by show 1 ≤ hz_mi _ _; omega, ?_, ?_, ?_, ?_⟩⟩
    · intro i hi
      have hi : (i : Int) < 2 := hi
      rcases (show i = 0 ∨ i = 1 by omega) with z | z <;> subst z
      · exact ha
      · exact hb
    · intro i j hi hj hij
      have hi : (i : Int) < 2 := hi
      have hj : (j : Int) < 2 := hj
      rcases (show i = 0 ∨ i = 1 by omega) with z | z <;> rcases (show j = 0 ∨ j = 1 by omega) with y | y <;> subst z <;> subst y
      · exact absurd rfl hij
      · exact n1
      · exact fun e => n1 e.symm
      · exact absurd rfl hij
    · intro i hi
      have hi : (i : Int) < 2 := hi
      rcases (show i = 0 ∨ i = 1 by omega) with z | z <;> subst z
      · exact m1.1
      · simpa [hz_g] using m1.2
    · rcases m2 with z | z
      · exact ⟨0, (show ((0 : Nat) : Int) < 2 by decide), z⟩
      · exact ⟨1, (show ((1 : Nat) : Int) < 2 by decide), (by simpa [hz_g] using z)⟩
theorem hz_RG_3 {V : Int → Int} {np a b c : Int} {o : Int × Int × (Nat → Int)} (h : hz_RG V np o) (ha : 0 ≤ a ∧ a < np) (hb : 0 ≤ b ∧ b < np) (hc : 0 ≤ c ∧ c < np) (n1 : a ≠ b) (n2 : a ≠ c) (n3 : b ≠ c) (hl : 0 ≤ hz_mi (hz_mi (V (40 * a + b)) (V (40 * b + c))) (V (40 * c + a))) : hz_RG V np (hz_of 3 (hz_mi (hz_mi (V (40 * a + b)) (V (40 * b + c))) (V (40 * c + a))) (hz_g a b c 0) o) := by
  have m1 := hz_mi_l (a := V (40 * a + b)) (b := V (40 * b + c))
  have m2 := hz_mi_c (a := V (40 * a + b)) (b := V (40 * b + c))
  have m3 := hz_mi_l (a := hz_mi (V (40 * a + b)) (V (40 * b + c))) (b := V (40 * c + a))
  have m4 := hz_mi_c (a := hz_mi (V (40 * a + b)) (V (40 * b + c))) (b := V (40 * c + a))
  unfold hz_of
  split
  · exact h
  · rename_i hk
    refine ⟨by show 0 ≤ hz_mi _ _; omega, Or.inr ⟨(by show (2 : Int) ≤ 3; decide), (by show (3 : Int) ≤ 4; decide), by show 1 ≤ hz_mi _ _; omega, ?_, ?_, ?_, ?_⟩⟩
    · intro i hi
      have hi : (i : Int) < 3 := hi
      rcases (show i = 0 ∨ i = 1 ∨ i = 2 by omega) with z | z | z <;> subst z
      · exact ha
      · exact hb
      · exact hc
    · intro i j hi hj hij
      have hi : (i : Int) < 3 := hi
      have hj : (j : Int) < 3 := hj
      rcases (show i = 0 ∨ i = 1 ∨ i = 2 by omega) with z | z | z <;> rcases (show j = 0 ∨ j = 1 ∨ j = 2 by omega) with y | y | y <;> subst z <;> subst y <;> first | exact absurd rfl hij | exact n1 | exact n2 | exact n3 | exact fun e => n1 e.symm | exact fun e => n2 e.symm | exact fun e => n3 e.symm
    · intro i hi
      have hi : (i : Int) < 3 := hi
      rcases (show i = 0 ∨ i = 1 ∨ i = 2 by omega) with z | z | z <;> subst z
      · exact Int.le_trans m3.1 m1.1
      · exact Int.le_trans m3.1 m1.2
      · simpa [hz_g] using m3.2
    · rcases m4 with z | z
      · rcases m2 with y | y
        · exact ⟨0, (show ((0 : Nat) : Int) < 3 by decide), z.trans y⟩
        · exact ⟨1, (show ((1 : Nat) : Int) < 3 by decide), z.trans y⟩
      · exact ⟨2, (show ((2 : Nat) : Int) < 3 by decide), (by simpa [hz_g] using z)⟩
theorem hz_RG_4 {V : Int → Int} {np a b c d : Int} {o : Int × Int × (Nat → Int)} (h : hz_RG V np o) (ha : 0 ≤ a ∧ a < np) (hb : 0 ≤ b ∧ b < np) (hc : 0 ≤ c ∧ c < np) (hd : 0 ≤ d ∧ d < np) (n1 : a ≠ b) (n2 : a ≠ c) (n3 : b ≠ c) (n4 : a ≠ d) (n5 : b ≠ d) (n6 : c ≠ d) (hl : 0 ≤ hz_mi (hz_mi (hz_mi (V (40 * a + b)) (V (40 * b + c))) (V (40 * c + d))) (V (40 * d + a))) : hz_RG V np (hz_of 4 (hz_mi (hz_mi (hz_mi (V (40 * a + b)) (V (40 * b + c))) (V (40 * c + d))) (V (40 * d + a))) (hz_g a b c d) o) := by
  have m1 := hz_mi_l (a := V (40 * a + b)) (b := V (40 * b + c))
  have m2 := hz_mi_c (a := V (40 * a + b)) (b := V (40 * b + c))
  have m3 := hz_mi_l (a := hz_mi (V (40 * a + b)) (V (40 * b + c))) (b := V (40 * c + d))
  have m4 := hz_mi_c (a := hz_mi (V (40 * a + b)) (V (40 * b + c))) (b := V (40 * c + d))
  have m5 := hz_mi_l (a := hz_mi (hz_mi (V (40 * a + b)) (V (40 * b + c))) (V (40 * c + d))) (b := V (40 * d + a))
  have m6 := hz_mi_c (a := hz_mi (hz_mi (V (40 * a + b)) (V (40 * b + c))) (V (40 * c + d))) (b := V (40 * d + a))
  unfold hz_of
  split
  · exact h
  · rename_i hk
    refine ⟨by show 0 ≤ hz_mi _ _; omega, Or.inr ⟨(by show (2 : Int) ≤ 4; decide), (by show (4 : Int) ≤ 4; decide), by show 1 ≤ hz_mi _ _; omega, ?_, ?_, ?_, ?_⟩⟩
    · intro i hi
      have hi : (i : Int) < 4 := hi
      rcases (show i = 0 ∨ i = 1 ∨ i = 2 ∨ i = 3 by omega) with z | z | z | z <;> subst z
      · exact ha
      · exact hb
      · exact hc
      · exact hd
    · intro i j hi hj hij
      have hi : (i : Int) < 4 := hi
      have hj : (j : Int) < 4 := hj
      rcases (show i = 0 ∨ i = 1 ∨ i = 2 ∨ i = 3 by omega) with z | z | z | z <;> rcases (show j = 0 ∨ j = 1 ∨ j = 2 ∨ j = 3 by omega) with y | y | y | y <;> subst z <;> subst y <;> first | exact absurd rfl hij | exact n1 | exact n2 | exact n3 | exact n4 | exact n5 | exact n6 | exact fun e => n1 e.symm | exact fun e => n2 e.symm | exact fun e => n3 e.symm | exact fun e => n4 e.symm | exact fun e => n5 e.symm | exact fun e => n6 e.symm
    · intro i hi
      have hi : (i : Int) < 4 := hi
      rcases (show i = 0 ∨ i = 1 ∨ i = 2 ∨ i = 3 by omega) with z | z | z | z <;> subst z
      · exact Int.le_trans m5.1 (Int.le_trans m3.1 m1.1)
      · exact Int.le_trans m5.1 (Int.le_trans m3.1 m1.2)
      · exact Int.le_trans m5.1 m3.2
      · simpa [hz_g] using m5.2
    · rcases m6 with z | z
      · rcases m4 with y | y
        · rcases m2 with w | w
          · exact ⟨0, (show ((0 : Nat) : Int) < 4 by decide), z.trans (y.trans w)⟩
          · exact ⟨1, (show ((1 : Nat) : Int) < 4 by decide), z.trans (y.trans w)⟩
        · exact ⟨2, (show ((2 : Nat) : Int) < 4 by decide), z.trans y⟩
      · exact ⟨3, (show ((3 : Nat) : Int) < 4 by decide), (by simpa [hz_g] using z)⟩
theorem hz_F4_R {V : Int → Int} {np a b c : Int} {o : Int × Int × (Nat → Int)} (hV : ∀ x, 0 ≤ V x) (h : hz_RG V np o) (ha : 0 ≤ a ∧ a < np) (hb : 0 ≤ b ∧ b < np) (hc : 0 ≤ c ∧ c < np) (n1 : a ≠ b) (n2 : a ≠ c) (n3 : b ≠ c) : ∀ k : Nat, (k : Int) ≤ np - a - 1 → hz_RG V np (hz_F4 V a b c (hz_mi (V (40 * a + b)) (V (40 * b + c))) o k) := by
  intro k
  induction k with
  | zero => intro _; exact h
  | succ k ih =>
    intro hk
    simp only [hz_F4]
    split
    · exact ih (by omega)
    · rename_i hs
      have q0 : ∀ x y : Int, 0 ≤ x → 0 ≤ y → 0 ≤ hz_mi x y := fun x y hx hy => by unfold hz_mi; split <;> omega
      exact hz_RG_4 (ih (by omega)) ha hb hc ⟨by omega, by omega⟩ n1 n2 n3 (by omega) (fun e => hs (Or.inl e.symm)) (fun e => hs (Or.inr (Or.inl e.symm))) (q0 _ _ (q0 _ _ (q0 _ _ (hV _) (hV _)) (hV _)) (hV _))
theorem hz_F3_R {V : Int → Int} {np a b : Int} {o : Int × Int × (Nat → Int)} (hV : ∀ x, 0 ≤ V x) (h : hz_RG V np o) (ha : 0 ≤ a ∧ a < np) (hb : 0 ≤ b ∧ b < np) (n1 : a ≠ b) : ∀ k : Nat, (k : Int) ≤ np - a - 1 → hz_RG V np (hz_F3 V np a b (V (40 * a + b)) o k) := by
  intro k
  induction k with
  | zero => intro _; exact h
  | succ k ih =>
    intro hk
    simp only [hz_F3]
    split
    · exact ih (by omega)
    · rename_i hs
      have q0 : ∀ x y : Int, 0 ≤ x → 0 ≤ y → 0 ≤ hz_mi x y := fun x y hx hy => by unfold hz_mi; split <;> omega
      exact hz_F4_R hV (hz_RG_3 (ih (by omega)) ha hb ⟨by omega, by omega⟩ n1 (by omega) (fun e => hs (Or.inl e.symm)) (q0 _ _ (q0 _ _ (hV _) (hV _)) (hV _))) ha hb ⟨by omega, by omega⟩ n1 (by omega) (fun e => hs (Or.inl e.symm)) _ (by omega)
theorem hz_F2_R {V : Int → Int} {np a : Int} {o : Int × Int × (Nat → Int)} (hV : ∀ x, 0 ≤ V x) (h : hz_RG V np o) (ha : 0 ≤ a ∧ a < np) : ∀ k : Nat, (k : Int) ≤ np - a - 1 → hz_RG V np (hz_F2 V np a o k) := by
  intro k
  induction k with
  | zero => intro _; exact h
  | succ k ih =>
    intro hk
    simp only [hz_F2]
    split
    · exact ih (by omega)
    · have q0 : ∀ x y : Int, 0 ≤ x → 0 ≤ y → 0 ≤ hz_mi x y := fun x y hx hy => by unfold hz_mi; split <;> omega
      exact hz_F3_R hV (hz_RG_2 (ih (by omega)) ha ⟨by omega, by omega⟩ (by omega) (q0 _ _ (hV _) (hV _))) ha ⟨by omega, by omega⟩ (by omega) _ (by omega)
theorem hz_F1_R {V : Int → Int} {np : Int} (hV : ∀ x, 0 ≤ V x) : ∀ k : Nat, (k : Int) ≤ np → hz_RG V np (hz_F1 V np k) := by
  intro k
  induction k with
  | zero => intro _; exact ⟨Int.le_refl _, Or.inl rfl⟩
  | succ k ih => intro hk; exact hz_F2_R hV (ih (by omega)) ⟨by omega, by omega⟩ _ (by omega)
