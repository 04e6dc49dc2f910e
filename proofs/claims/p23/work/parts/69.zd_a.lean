/-! PLAN: the best of all combinations, as both sides look for it -/
def hp_dg (n k i : Nat) : Int := ((k / 13 ^ (n - 1 - i) % 13 : Nat) : Int)
def hp_s (w : Nat → Int) : Nat → Int
  | 0 => 0
  | i + 1 => hp_s w i + w i
def hp_m (w : Nat → Int) : Nat → Int
  | 0 => 0
  | i + 1 => if hp_m w i < w i then w i else hp_m w i
abbrev hp_S := Int × Int × (Nat → Int)
def hp_w (a : Nat → Int) (u : Int) (m : Nat → Int) (i : Nat) : Int := a i + m i * u
def hp_k (a r : Nat → Int) (u : Int) (m : Nat → Int) (i : Nat) : Int := hz_ru (r i) (hp_w a u m i)
/-- one combination more -/
def hp_v (a r : Nat → Int) (u M : Int) (n : Nat) (m : Nat → Int) (s : hp_S) : hp_S := if hp_s (hp_w a u m) n ≤ M ∧ (hp_m (hp_k a r u m) n < s.1 ∨ (hp_m (hp_k a r u m) n = s.1 ∧ hp_s (hp_k a r u m) n < s.2.1)) then (hp_m (hp_k a r u m) n, hp_s (hp_k a r u m) n, m) else s
def hp_F (f : Nat → hp_S → hp_S) (k0 : Nat) : Nat → hp_S → hp_S
  | 0, s => s
  | N + 1, s => f (k0 + N) (hp_F f k0 N s)
theorem hp_F_add {f : Nat → hp_S → hp_S} {k0 a : Nat} {s : hp_S} : ∀ b : Nat, hp_F f k0 (a + b) s = hp_F f (k0 + a) b (hp_F f k0 a s) := by
  intro b
  induction b with
  | zero => rfl
  | succ b ih =>
    show f (k0 + (a + b)) (hp_F f k0 (a + b) s) = f (k0 + a + b) (hp_F f (k0 + a) b (hp_F f k0 a s))
    rw [ih, Nat.add_assoc]
theorem hp_F_id {f : Nat → hp_S → hp_S} {k0 : Nat} {s : hp_S} : ∀ N : Nat, (∀ j, j < N → f (k0 + j) s = s) → hp_F f k0 N s = s := by
  intro N
  induction N with
  | zero => intro _; rfl
  | succ N ih =>
    intro h
    show f (k0 + N) (hp_F f k0 N s) = s
    rw [ih (fun j hj => h j (by omega)), h N (by omega)]
/-- the combination of a number -/
def hp_f (a r : Nat → Int) (u M : Int) (n : Nat) (k : Nat) (s : hp_S) : hp_S := hp_v a r u M n (hp_dg n k) s
theorem hp_s_c {w w' : Nat → Int} : ∀ n : Nat, (∀ i, i < n → w i = w' i) → hp_s w n = hp_s w' n := by
  intro n
  induction n with
  | zero => intro _; rfl
  | succ n ih => intro h; simp only [hp_s]; rw [ih (fun i hi => h i (by omega)), h n (by omega)]
theorem hp_m_c {w w' : Nat → Int} : ∀ n : Nat, (∀ i, i < n → w i = w' i) → hp_m w n = hp_m w' n := by
  intro n
  induction n with
  | zero => intro _; rfl
  | succ n ih => intro h; simp only [hp_m]; rw [ih (fun i hi => h i (by omega)), h n (by omega)]
theorem hp_m_ge {w : Nat → Int} {i : Nat} : ∀ n : Nat, i < n → w i ≤ hp_m w n := by
  intro n
  induction n with
  | zero => intro h; omega
  | succ n ih =>
    intro h
    simp only [hp_m]
    by_cases z : i = n
    · subst z; split <;> omega
    · have := ih (by omega); split <;> omega
theorem hp_s_le {w w' : Nat → Int} : ∀ n : Nat, (∀ i, i < n → w i ≤ w' i) → hp_s w n ≤ hp_s w' n := by
  intro n
  induction n with
  | zero => intro _; exact Int.le_refl _
  | succ n ih => intro h; have := ih (fun i hi => h i (by omega)); have := h n (by omega); simp only [hp_s]; omega
/-- what is spent at the least, the first p places as they are -/
theorem hp_s_lo {w a : Nat → Int} {p : Nat} {x : Int} (hp : x ≤ w p) (ha : ∀ i, a i ≤ w i) : ∀ n : Nat, p < n → hp_s w p + x + (hp_s a n - hp_s a (p + 1)) ≤ hp_s w n := by
  intro n
  induction n with
  | zero => intro h; omega
  | succ n ih =>
    intro h
    by_cases z : p = n
    · subst z; simp only [hp_s]; omega
    · have := ih (by omega); have := ha n; simp only [hp_s] at *; omega
section HPV
variable {a r : Nat → Int} {u M : Int} {n : Nat} {m m' : Nat → Int} {s : hp_S}
theorem hp_v_no1 (h : M < hp_s (hp_w a u m) n) : hp_v a r u M n m s = s := by unfold hp_v; rw [if_neg (fun z => by have := z.1; omega)]
theorem hp_v_no2 {i : Nat} (hi : i < n) (h : s.1 < hp_k a r u m i) : hp_v a r u M n m s = s := by
  unfold hp_v
  have := hp_m_ge (w := hp_k a r u m) n hi
  rw [if_neg (fun z => by have := z.2; omega)]
end HPV
/-- the combinations that begin alike -/
def hp_B (n p K : Nat) (m : Nat → Int) : Prop := ∀ k, K * 13 ^ (n - p) ≤ k → k < (K + 1) * 13 ^ (n - p) → ∀ i, i < p → hp_dg n k i = m i
theorem hp_dv {k D K : Nat} (hD : 0 < D) (h0 : K * D ≤ k) (h1 : k < (K + 1) * D) : k / D = K := by
  have a : K ≤ k / D := (Nat.le_div_iff_mul_le hD).mpr h0
  have b : k / D < K + 1 := (Nat.div_lt_iff_lt_mul hD).mpr h1
  omega
theorem hp_B_s {n p K j : Nat} {m m' : Nat → Int} (h : hp_B n p K m) (hp : p < n) (hj : j < 13) (e0 : ∀ i, i < p → m' i = m i) (e1 : m' p = (j : Int)) : hp_B n (p + 1) (13 * K + j) m' := by
  intro k h0 h1 i hi
  have eD : 13 ^ (n - p) = 13 * 13 ^ (n - (p + 1)) := by rw [show n - p = (n - (p + 1)) + 1 by omega, Nat.pow_succ, Nat.mul_comm]
  have hD : 0 < 13 ^ (n - (p + 1)) := Nat.pow_pos (by decide)
  generalize eG : 13 ^ (n - (p + 1)) = D at *
  by_cases z : i = p
  · subst z
    have q := hp_dv hD h0 h1
    unfold hp_dg
    rw [show n - 1 - i = n - (i + 1) by omega, eG, q, e1]
    congr 1
    omega
  · rw [e0 i (by omega)]
    refine h k ?_ ?_ i (by omega)
    · rw [eD]
      have : K * (13 * D) = (13 * K) * D := by rw [← Nat.mul_assoc, Nat.mul_comm K 13]
      rw [this]
      exact Nat.le_trans (Nat.mul_le_mul_right D (by omega)) h0
    · rw [eD]
      have : (K + 1) * (13 * D) = (13 * K + 13) * D := by rw [← Nat.mul_assoc]; congr 1; omega
      rw [this]
      exact Nat.lt_of_lt_of_le h1 (Nat.mul_le_mul_right D (by omega))
theorem hp_B_0 {n : Nat} {m : Nat → Int} : hp_B n 0 0 m := fun k _ _ i hi => absurd hi (Nat.not_lt_zero i)
/-- the next of the thirteen is done -/
theorem hp_F_blk {f : Nat → hp_S → hp_S} {K j D : Nat} {s : hp_S} : hp_F f (K * (13 * D)) ((j + 1) * D) s = hp_F f ((13 * K + j) * D) D (hp_F f (K * (13 * D)) (j * D) s) := by
  have e1 : (j + 1) * D = j * D + D := by rw [Nat.add_mul, Nat.one_mul]
  have e2 : (13 * K + j) * D = K * (13 * D) + j * D := by rw [Nat.add_mul, ← Nat.mul_assoc, Nat.mul_comm K 13]
  rw [e1, e2]
  exact hp_F_add D
/-- what is left of the thirteen changes nothing -/
theorem hp_F_end {f : Nat → hp_S → hp_S} {K j D : Nat} {s s' : hp_S} (hj : j ≤ 13) (hs : hp_F f (K * (13 * D)) (j * D) s = s') (h : ∀ k, (13 * K + j) * D ≤ k → k < (13 * K + 13) * D → f k s' = s') : hp_F f (K * (13 * D)) (13 * D) s = s' := by
  have e1 : 13 * D = j * D + (13 - j) * D := by rw [← Nat.add_mul]; congr 1; omega
  have e2 : (13 * K + j) * D = K * (13 * D) + j * D := by rw [Nat.add_mul, ← Nat.mul_assoc, Nat.mul_comm K 13]
  have e3 : (13 * K + 13) * D = K * (13 * D) + j * D + (13 - j) * D := by rw [← e2, ← Nat.add_mul]; congr 1; omega
  have key := hp_F_add (f := f) (k0 := K * (13 * D)) (a := j * D) (s := s) ((13 - j) * D)
  rw [← e1, hs] at key
  rw [key]
  exact hp_F_id _ (fun i hi => h _ (by omega) (by omega))
/-! PLAN, told step by step -/
def hp_SR (s : hp_S) (bl ba : Int) (wk : Nat → Int32) (a : Nat → Int) (u : Int) (n : Int) : Prop := s.1 = bl ∧ s.2.1 = ba ∧ (bl < 1000000000 → ∀ i : Nat, (i : Int) < n → (wk i).toInt = hp_w a u s.2.2 i)
theorem hp_SR_n {s : hp_S} {bl ba L A : Int} {wk : Nat → Int32} {a : Nat → Int} {u n : Int} {m : Nat → Int} (h : hp_SR s bl ba wk a u n) (hc : ¬ (L < bl ∨ (L = bl ∧ A < ba))) : hp_SR (if L < s.1 ∨ (L = s.1 ∧ A < s.2.1) then (L, A, m) else s) bl ba wk a u n := by
  rw [if_neg (by rw [h.1, h.2.1]; exact hc)]
  exact h
theorem hp_SR_y {s : hp_S} {bl ba L A : Int} {wk wk1 : Nat → Int32} {a : Nat → Int} {u n : Int} {m : Nat → Int} (h : hp_SR s bl ba wk a u n) (hc : L < bl ∨ (L = bl ∧ A < ba)) (hw : ∀ i : Nat, (i : Int) < n → (wk1 i).toInt = hp_w a u m i) : hp_SR (if L < s.1 ∨ (L = s.1 ∧ A < s.2.1) then (L, A, m) else s) L A wk1 a u n := by
  rw [if_pos (by rw [h.1, h.2.1]; exact hc)]
  exact ⟨rfl, rfl, fun _ => hw⟩
theorem hp_s_s {a : Nat → Int} {k k1 s s1 b : Int} {v : Int32} (h : s = hp_s a k.toNat - b) (h0 : 0 ≤ k) (hv : v.toInt = a k.toNat) (e : s1 = s + v.toInt) (e1 : k1 = k + 1) : s1 = hp_s a k1.toNat - b := by
  subst e1
  have e2 : (k + 1).toNat = k.toNat + 1 := by omega
  rw [e2]; simp only [hp_s]; omega
theorem hp_mul {a b x : Int32} (ha : 0 ≤ a.toInt ∧ a.toInt ≤ 13) (hb : 0 ≤ b.toInt ∧ b.toInt ≤ 99) (e : x = a * b) : x.toInt = a.toInt * b.toInt ∧ 0 ≤ x.toInt ∧ x.toInt ≤ 1287 := by
  have h1 : 0 ≤ a.toInt * b.toInt := Int.mul_nonneg ha.1 hb.1
  have h2 : a.toInt * b.toInt ≤ 13 * 99 := Int.mul_le_mul ha.2 hb.2 hb.1 (by decide)
  have h3 : x.toInt = a.toInt * b.toInt := by rw [e]; exact i32_mul rfl rfl rfl (by omega) (by omega)
  exact ⟨h3, by omega, by omega⟩
theorem hp_ss {w w' : Nat → Int} {p : Nat} {x y : Int} (h : x = hp_s w p) (e : ∀ i, i < p → w' i = w i) (hy : y = x + w' p) : y = hp_s w' (p + 1) := by
  simp only [hp_s]; rw [hp_s_c p e, ← h, hy]
theorem hp_mm {w w' : Nat → Int} {p : Nat} {x y : Int} (h : x = hp_m w p) (e : ∀ i, i < p → w' i = w i) (hy : (x < w' p ∧ y = w' p) ∨ (w' p ≤ x ∧ y = x)) : y = hp_m w' (p + 1) := by
  simp only [hp_m]; rw [hp_m_c p e, ← h]
  split <;> omega
theorem hp_B_e {n p K : Nat} {m : Nat → Int} (h : hp_B n p K m) (e : n = p) : ∀ i, i < p → hp_dg n K i = m i := by
  subst e
  exact h K (by rw [Nat.sub_self]; omega) (by rw [Nat.sub_self]; omega)
theorem hp_leaf {a r : Nat → Int} {u M L A : Int} {n p K : Nat} {m : Nat → Int} {s : hp_S} (e : n = p) (hd : ∀ i, i < p → hp_dg n K i = m i) (hL : L = hp_m (hp_k a r u m) p) (hA : A = hp_s (hp_k a r u m) p) (hT : hp_s (hp_w a u m) p ≤ M) : hp_F (hp_f a r u M n) (K * 13 ^ (n - p)) (13 ^ (n - p)) s = (if L < s.1 ∨ (L = s.1 ∧ A < s.2.1) then (L, A, hp_dg n K) else s) := by
  subst e
  rw [Nat.sub_self]
  show hp_f a r u M n (K * 1 + 0) s = _
  rw [Nat.mul_one, Nat.add_zero]
  have e1 : hp_s (hp_w a u (hp_dg n K)) n = hp_s (hp_w a u m) n := hp_s_c n (fun i hi => by unfold hp_w; rw [hd i hi])
  have e2 : hp_m (hp_k a r u (hp_dg n K)) n = hp_m (hp_k a r u m) n := hp_m_c n (fun i hi => by unfold hp_k hp_w; rw [hd i hi])
  have e3 : hp_s (hp_k a r u (hp_dg n K)) n = hp_s (hp_k a r u m) n := hp_s_c n (fun i hi => by unfold hp_k hp_w; rw [hd i hi])
  unfold hp_f hp_v
  rw [e1, e2, e3, ← hL, ← hA]
  by_cases z : L < s.1 ∨ (L = s.1 ∧ A < s.2.1)
  · rw [if_pos ⟨hT, z⟩, if_pos z]
  · rw [if_neg (fun y => z y.2), if_neg z]
theorem hp_pw {n p : Nat} (hp : p < n) : 13 ^ (n - p) = 13 * 13 ^ (n - (p + 1)) := by rw [show n - p = (n - (p + 1)) + 1 by omega, Nat.pow_succ, Nat.mul_comm]
theorem hp_dg_0 {n k i : Nat} : 0 ≤ hp_dg n k i := by unfold hp_dg; omega
/-- in the parent's block -/
theorem hp_in {n p K j k : Nat} (hp : p < n) (hj : j ≤ 13) (h0 : (13 * K + j) * 13 ^ (n - (p + 1)) ≤ k) (h1 : k < (13 * K + 13) * 13 ^ (n - (p + 1))) : K * 13 ^ (n - p) ≤ k ∧ k < (K + 1) * 13 ^ (n - p) ∧ (j : Int) ≤ hp_dg n k p := by
  have hD : 0 < 13 ^ (n - (p + 1)) := Nat.pow_pos (by decide)
  rw [hp_pw hp]
  unfold hp_dg
  rw [show n - 1 - p = n - (p + 1) by omega]
  generalize 13 ^ (n - (p + 1)) = D at *
  have e1 : K * (13 * D) = (13 * K) * D := by rw [← Nat.mul_assoc, Nat.mul_comm K 13]
  have e2 : (K + 1) * (13 * D) = (13 * K + 13) * D := by rw [← Nat.mul_assoc]; congr 1; omega
  have l0 : 13 * K + j ≤ k / D := (Nat.le_div_iff_mul_le hD).mpr h0
  have l1 : k / D < 13 * K + 13 := (Nat.div_lt_iff_lt_mul hD).mpr h1
  rw [e1, e2]
  exact ⟨Nat.le_trans (Nat.mul_le_mul_right D (by omega)) h0, h1, by omega⟩
theorem hp_inf {a r : Nat → Int} {u M x : Int} {n p K j k : Nat} {m : Nat → Int} {s : hp_S} (hB : hp_B n p K m) (hp : p < n) (hj : j ≤ 13) (hu : 0 ≤ u) (hx : x = hp_s (hp_w a u m) p) (hM : M < x + (a p + (j : Int) * u) + (hp_s a n - hp_s a (p + 1))) (h0 : (13 * K + j) * 13 ^ (n - (p + 1)) ≤ k) (h1 : k < (13 * K + 13) * 13 ^ (n - (p + 1))) : hp_f a r u M n k s = s := by
  obtain ⟨k0, k1, hd⟩ := hp_in hp hj h0 h1
  have eS : hp_s (hp_w a u (hp_dg n k)) p = x := by rw [hx]; exact hp_s_c p (fun i hi => by unfold hp_w; rw [hB k k0 k1 i hi])
  have lw : a p + (j : Int) * u ≤ hp_w a u (hp_dg n k) p := by
    unfold hp_w
    have := Int.mul_le_mul_of_nonneg_right hd hu
    omega
  have la : ∀ i, a i ≤ hp_w a u (hp_dg n k) i := fun i => by
    unfold hp_w
    have := Int.mul_nonneg (hp_dg_0 (n := n) (k := k) (i := i)) hu
    omega
  have := hp_s_lo lw la n hp
  unfold hp_f
  exact hp_v_no1 (by omega)
theorem hp_skip {a r : Nat → Int} {u M y : Int} {n p K j : Nat} {s s' : hp_S} (hp : p < n) (hj : j < 13) (hs : hp_F (hp_f a r u M n) (K * (13 * 13 ^ (n - (p + 1)))) (j * 13 ^ (n - (p + 1))) s = s') (hy : y = hz_ru (r p) (a p + (j : Int) * u)) (hl : s'.1 < y) : hp_F (hp_f a r u M n) (K * (13 * 13 ^ (n - (p + 1)))) ((j + 1) * 13 ^ (n - (p + 1))) s = s' := by
  have hD : 0 < 13 ^ (n - (p + 1)) := Nat.pow_pos (by decide)
  rw [hp_F_blk, hs]
  refine hp_F_id _ (fun i hi => ?_)
  have q : ((13 * K + j) * 13 ^ (n - (p + 1)) + i) / 13 ^ (n - (p + 1)) = 13 * K + j := hp_dv hD (by omega) (by rw [Nat.add_mul (13 * K + j) 1, Nat.one_mul]; omega)
  unfold hp_f
  refine hp_v_no2 hp ?_
  have e : hp_dg n ((13 * K + j) * 13 ^ (n - (p + 1)) + i) p = (j : Int) := by
    unfold hp_dg
    rw [show n - 1 - p = n - (p + 1) by omega, q]
    congr 1
    omega
  unfold hp_k hp_w
  rw [e, ← hy]
  exact hl
/-- what the first combination makes sure of -/
theorem hp_f_le {a r : Nat → Int} {u M : Int} {n k : Nat} {s : hp_S} : (hp_f a r u M n k s).1 ≤ s.1 := by
  unfold hp_f hp_v
  split
  · rename_i h
    show hp_m (hp_k a r u (hp_dg n k)) n ≤ s.1
    omega
  · exact Int.le_refl _
theorem hp_F_le {a r : Nat → Int} {u M : Int} {n k0 : Nat} {s : hp_S} : ∀ N : Nat, (hp_F (hp_f a r u M n) k0 N s).1 ≤ s.1 := by
  intro N
  induction N with
  | zero => exact Int.le_refl _
  | succ N ih => exact Int.le_trans hp_f_le ih
theorem hp_m_le {w : Nat → Int} {b : Int} (hb : 0 ≤ b) : ∀ n : Nat, (∀ i, i < n → w i ≤ b) → hp_m w n ≤ b := by
  intro n
  induction n with
  | zero => intro _; exact hb
  | succ n ih =>
    intro h
    have := ih (fun i hi => h i (by omega))
    have := h n (by omega)
    simp only [hp_m]
    split <;> omega
def hp_s0 : hp_S := (1000000000, 1000000000, fun _ => 0)
def hp_B9 (a r : Nat → Int) (u M : Int) (n : Nat) : hp_S := hp_F (hp_f a r u M n) 0 (13 ^ n) hp_s0
theorem hp_some {a r : Nat → Int} {u M : Int} {n : Nat} (hM : hp_s a n ≤ M) (hr : ∀ i, i < n → r i ≤ 609999) : (hp_B9 a r u M n).1 ≤ 609999 := by
  have hN : 0 < 13 ^ n := Nat.pow_pos (by decide)
  have e1 : 13 ^ n = 1 + (13 ^ n - 1) := by omega
  unfold hp_B9
  rw [e1, hp_F_add]
  refine Int.le_trans (hp_F_le _) ?_
  show (hp_f a r u M n (0 + 0) hp_s0).1 ≤ 609999
  have hd : ∀ i, hp_dg n (0 + 0) i = 0 := fun i => by unfold hp_dg; simp
  have e2 : hp_s (hp_w a u (hp_dg n (0 + 0))) n = hp_s a n := hp_s_c n (fun i _ => by unfold hp_w; rw [hd i]; omega)
  have e3 : hp_m (hp_k a r u (hp_dg n (0 + 0))) n ≤ 609999 := hp_m_le (by decide) n (fun i hi => by
    unfold hp_k
    have := hz_ru_b (s := r i) (b := hp_w a u (hp_dg n (0 + 0)) i)
    have := hr i hi
    omega)
  unfold hp_f hp_v
  rw [if_pos ⟨by rw [e2]; exact hM, Or.inl (by show _ < (1000000000 : Int); omega)⟩]
  exact e3
/-- the open claims of a person, in their order -/
def hp_ol (ag : Nat → Int32) (Rn : Nat → Int) (q : Int) : Nat → List Nat
  | 0 => []
  | k + 1 => if (ag k).toInt = q ∧ 0 < Rn k then hp_ol ag Rn q k ++ [k] else hp_ol ag Rn q k
def hp_ge (L : List Nat) (i : Nat) : Nat := (L[i]?).getD 0
theorem hp_ge_o {L : List Nat} {i k : Nat} (h : i < L.length) : hp_ge (L ++ [k]) i = hp_ge L i := by unfold hp_ge; rw [List.getElem?_append_left h]
theorem hp_ge_n {L : List Nat} {k : Nat} : hp_ge (L ++ [k]) L.length = k := by unfold hp_ge; rw [List.getElem?_append_right (Nat.le_refl _), Nat.sub_self]; rfl
theorem hp_ol_b {ag : Nat → Int32} {Rn : Nat → Int} {q : Int} : ∀ n : Nat, ∀ i, i < (hp_ol ag Rn q n).length → hp_ge (hp_ol ag Rn q n) i < n ∧ 0 < Rn (hp_ge (hp_ol ag Rn q n) i) := by
  intro n
  induction n with
  | zero => intro i h; exact absurd h (Nat.not_lt_zero _)
  | succ n ih =>
    intro i h
    simp only [hp_ol] at h ⊢
    by_cases z : (ag n).toInt = q ∧ 0 < Rn n
    · rw [if_pos z] at h ⊢
      rw [List.length_append] at h
      have h : i < (hp_ol ag Rn q n).length + 1 := h
      by_cases y : i < (hp_ol ag Rn q n).length
      · rw [hp_ge_o y]; have := ih i y; exact ⟨by omega, this.2⟩
      · have e : i = (hp_ol ag Rn q n).length := by omega
        subst e
        rw [hp_ge_n]; exact ⟨by omega, z.2⟩
    · rw [if_neg z] at h ⊢
      have := ih i h; exact ⟨by omega, this.2⟩
theorem hp_ol_m {ag : Nat → Int32} {Rn : Nat → Int} {q : Int} {a : Nat} : ∀ b : Nat, a ≤ b → (hp_ol ag Rn q a).length ≤ (hp_ol ag Rn q b).length := by
  intro b
  induction b with
  | zero => intro h; have : a = 0 := by omega
            subst this; exact Nat.le_refl _
  | succ b ih =>
    intro h
    by_cases z : a = b + 1
    · subst z; exact Nat.le_refl _
    · have := ih (by omega)
      simp only [hp_ol]
      split
      · rw [List.length_append]; omega
      · exact this
/-- the open claims gone through so far stand in three arrays -/
def hp_OQ (ag : Nat → Int32) (Rn ls : Nat → Int) (q : Int) (k : Nat) (op re le : Nat → Int32) : Prop := ∀ i, i < (hp_ol ag Rn q k).length → (op i).toInt = (hp_ge (hp_ol ag Rn q k) i : Nat) ∧ (re i).toInt = Rn (hp_ge (hp_ol ag Rn q k) i) ∧ (le i).toInt = hz_mi (ls (hp_ge (hp_ol ag Rn q k) i)) (Rn (hp_ge (hp_ol ag Rn q k) i))
theorem hp_OQ_0 {ag : Nat → Int32} {Rn ls : Nat → Int} {q : Int} {op re le : Nat → Int32} : hp_OQ ag Rn ls q 0 op re le := fun i h => absurd h (Nat.not_lt_zero _)
theorem hp_OQ_n {ag : Nat → Int32} {Rn ls : Nat → Int} {q k k1 o : Int} {op re le : Nat → Int32} (h : hp_OQ ag Rn ls q k.toNat op re le) (ho : o = ((hp_ol ag Rn q k.toNat).length : Int)) (h0 : 0 ≤ k) (hn : ¬ ((ag k.toNat).toInt = q ∧ 0 < Rn k.toNat)) (e : k1 = k + 1) : hp_OQ ag Rn ls q k1.toNat op re le ∧ o = ((hp_ol ag Rn q k1.toNat).length : Int) := by
  subst e
  have e : (k + 1).toNat = k.toNat + 1 := by omega
  have el : hp_ol ag Rn q (k.toNat + 1) = hp_ol ag Rn q k.toNat := by simp only [hp_ol]; rw [if_neg hn]
  unfold hp_OQ
  rw [e, el]
  exact ⟨h, ho⟩
theorem hp_OQ_y {ag : Nat → Int32} {Rn ls : Nat → Int} {q k k1 o o1 : Int} {op op1 re re1 le le1 : Nat → Int32} {ix : Nat} {x y z : Int32} (h : hp_OQ ag Rn ls q k.toNat op re le) (ho : o = ((hp_ol ag Rn q k.toNat).length : Int)) (h0 : 0 ≤ k) (hq : (ag k.toNat).toInt = q) (hr : 0 < Rn k.toNat) (ei : (ix : Int) = o) (e1 : op1 = hx_up op ix x) (e2 : re1 = hx_up re ix y) (e3 : le1 = hx_up le ix z) (hx : x.toInt = k) (hy : y.toInt = Rn k.toNat) (hz : z.toInt = hz_mi (ls k.toNat) (Rn k.toNat)) (eo : o1 = o + 1) (e : k1 = k + 1) : hp_OQ ag Rn ls q k1.toNat op1 re1 le1 ∧ o1 = ((hp_ol ag Rn q k1.toNat).length : Int) := by
  subst e
  have e : (k + 1).toNat = k.toNat + 1 := by omega
  have el : hp_ol ag Rn q (k.toNat + 1) = hp_ol ag Rn q k.toNat ++ [k.toNat] := by simp only [hp_ol]; rw [if_pos ⟨hq, hr⟩]
  unfold hp_OQ
  rw [e, el, List.length_append]
  have ix9 : ix = (hp_ol ag Rn q k.toNat).length := by omega
  subst ix9
  refine ⟨fun i hi => ?_, by show o1 = (((hp_ol ag Rn q k.toNat).length + 1 : Nat) : Int); omega⟩
  have hi : i < (hp_ol ag Rn q k.toNat).length + 1 := hi
  rw [e1, e2, e3]
  by_cases w : i = (hp_ol ag Rn q k.toNat).length
  · subst w
    rw [hp_ge_n, hx_up_at, hx_up_at, hx_up_at]
    exact ⟨by omega, hy, hz⟩
  · rw [hp_ge_o (by omega), hx_up_ne w, hx_up_ne w, hx_up_ne w]
    exact h i (by omega)
/-- what plan() answers, and what stands behind it -/
def hp_PS (C : Prop) (n : Nat) (c : Nat → Nat) (a r : Nat → Int) (u M : Int) (rr td td1 : Int) (cl cl1 wk wk1 ws ws1 : Nat → Int32) : Prop := (((¬ C ∧ rr = -1) ∨ (C ∧ 4 < n ∧ rr = -1) ∨ (C ∧ n ≤ 4 ∧ (0 < n ∧ M < hp_s a n) ∧ rr = -2)) ∧ td1 = td ∧ cl1 = cl ∧ wk1 = wk ∧ ws1 = ws) ∨ ((C ∧ n ≤ 4 ∧ ¬ (0 < n ∧ M < hp_s a n)) ∧ rr = (hp_B9 a r u (if n = 0 then 0 else M) n).1 ∧ td1 = n ∧ ∀ i : Nat, i < n → (cl1 i).toInt = c i ∧ (wk1 i).toInt = hp_w a u (hp_B9 a r u (if n = 0 then 0 else M) n).2.2 i ∧ (ws1 i).toInt = hz_ru (r i) (hp_w a u (hp_B9 a r u (if n = 0 then 0 else M) n).2.2 i))
/-- three arrays alike below the count -/
def hp_EA (td : Int) (cl cl' wk wk' ws ws' : Nat → Int32) : Prop := ∀ i : Nat, (i : Int) < td → (cl i).toInt = (cl' i).toInt ∧ (wk i).toInt = (wk' i).toInt ∧ (ws i).toInt = (ws' i).toInt
theorem hp_PS_eq {C : Prop} {n : Nat} {c : Nat → Nat} {a r : Nat → Int} {u M rr rr' td td' td1 td1' : Int} {cl cl1 wk wk1 ws ws1 cl' cl1' wk' wk1' ws' ws1' : Nat → Int32} (h : hp_PS C n c a r u M rr td td1 cl cl1 wk wk1 ws ws1) (h' : hp_PS C n c a r u M rr' td' td1' cl' cl1' wk' wk1' ws' ws1') (et : td = td') (ea : hp_EA td cl cl' wk wk' ws ws') : rr = rr' ∧ td1 = td1' ∧ hp_EA td1 cl1 cl1' wk1 wk1' ws1 ws1' := by
  rcases h with ⟨a1, a2, a3, a4, a5⟩ | ⟨a1, a2, a3, a4⟩ <;> rcases h' with ⟨b1, b2, b3, b4, b5⟩ | ⟨b1, b2, b3, b4⟩
  · subst a3; subst a4; subst a5; subst b3; subst b4; subst b5
    refine ⟨?_, by omega, by rw [a2]; exact ea⟩
    rcases a1 with ⟨x, y⟩ | ⟨x, z, y⟩ | ⟨x, z, w, y⟩ <;> rcases b1 with ⟨x', y'⟩ | ⟨x', z', y'⟩ | ⟨x', z', w', y'⟩ <;> first | exact y.trans y'.symm | exact absurd x' x | exact absurd x x' | (exfalso; omega)
  · exfalso
    rcases a1 with ⟨x, y⟩ | ⟨x, z, y⟩ | ⟨x, z, w, y⟩
    · exact x b1.1
    · have := b1.2.1; omega
    · exact b1.2.2 w
  · exfalso
    rcases b1 with ⟨x, y⟩ | ⟨x, z, y⟩ | ⟨x, z, w, y⟩
    · exact x a1.1
    · have := a1.2.1; omega
    · exact a1.2.2 w
  · refine ⟨a2.trans b2.symm, a3.trans b3.symm, fun i hi => ?_⟩
    have g := a4 i (by omega)
    have g' := b4 i (by omega)
    exact ⟨g.1.trans g'.1.symm, g.2.1.trans g'.2.1.symm, g.2.2.trans g'.2.2.symm⟩
/-- planned() -/
def hp_PD (k w td : Int) (cl wk ws : Nat → Int32) (r : Int) : Prop := ((k < 0 ∨ td ≤ k) ∧ r = -1) ∨ ((0 ≤ k ∧ k < td) ∧ ((w = 0 ∧ r = (cl k.toNat).toInt) ∨ (w = 1 ∧ r = (wk k.toNat).toInt) ∨ (w = 2 ∧ r = (ws k.toNat).toInt) ∨ ((w < 0 ∨ 2 < w) ∧ r = -1)))
theorem hp_PD_eq {k w td td' r r' : Int} {cl wk ws cl' wk' ws' : Nat → Int32} (h : hp_PD k w td cl wk ws r) (h' : hp_PD k w td' cl' wk' ws' r') (et : td = td') (ea : hp_EA td cl cl' wk wk' ws ws') : r = r' := by
  subst et
  unfold hp_PD at h h'
  by_cases z : 0 ≤ k ∧ k < td
  · have := ea k.toNat (by omega); omega
  · omega
theorem hp_PS_s {C : Prop} (hC : C) {n : Nat} (hn : n ≤ 4) {c : Nat → Nat} {a r : Nat → Int} {u M rr td td1 o : Int} {cl cl1 wk wk1 ws ws1 : Nat → Int32} (ho : o = n) (h : (rr = -2 ∧ (1 ≤ o ∧ M < hp_s a o.toNat) ∧ td1 = td ∧ cl1 = cl ∧ wk1 = wk ∧ ws1 = ws) ∨ (¬ (1 ≤ o ∧ M < hp_s a o.toNat) ∧ rr = (hp_B9 a r u (if o.toNat = 0 then 0 else M) o.toNat).1 ∧ td1 = o ∧ ∀ i : Nat, (i : Int) < o → (cl1 i).toInt = c i ∧ (wk1 i).toInt = hp_w a u (hp_B9 a r u (if o.toNat = 0 then 0 else M) o.toNat).2.2 i ∧ (ws1 i).toInt = hz_ru (r i) (hp_w a u (hp_B9 a r u (if o.toNat = 0 then 0 else M) o.toNat).2.2 i))) : hp_PS C n c a r u M rr td td1 cl cl1 wk wk1 ws ws1 := by
  subst ho
  rw [Int.toNat_natCast] at h
  rcases h with ⟨h1, h2, h3, h4, h5, h6⟩ | ⟨h1, h2, h3, h4⟩
  · exact Or.inl ⟨Or.inr (Or.inr ⟨hC, hn, ⟨by omega, h2.2⟩, h1⟩), h3, h4, h5, h6⟩
  · exact Or.inr ⟨⟨hC, hn, fun z => h1 ⟨by omega, z.2⟩⟩, h2, h3, fun i hi => h4 i (by omega)⟩

/-! PLAN, the reference's: the odometer -/
def hp_d (n k i : Nat) : Nat := k / 13 ^ (n - 1 - i) % 13
theorem hp_dg_d {n k i : Nat} : hp_dg n k i = ((hp_d n k i : Nat) : Int) := rfl
theorem hp_lo {n k : Nat} : ∀ e : Nat, e ≤ n → (∀ i, n - e ≤ i → i < n → hp_d n k i = 12) → k % 13 ^ e + 1 = 13 ^ e := by
  intro e
  induction e with
  | zero => intro _ _; rw [Nat.pow_zero, Nat.mod_one]
  | succ e ih =>
    intro he h
    have q := ih (by omega) (fun i h0 h1 => h i (by omega) h1)
    have d := h (n - 1 - e) (by omega) (by omega)
    unfold hp_d at d
    rw [show n - 1 - (n - 1 - e) = e by omega] at d
    rw [Nat.mod_pow_succ, d, Nat.pow_succ]
    omega
theorem hp_dv1 {A t : Nat} (h : A % 13 ≠ 12) (ht : 1 ≤ t) : (A + 1) / 13 ^ t = A / 13 ^ t := by
  obtain ⟨s, e⟩ : ∃ s, t = s + 1 := ⟨t - 1, by omega⟩
  subst e
  rw [Nat.pow_succ, Nat.mul_comm, ← Nat.div_div_eq_div_mul, ← Nat.div_div_eq_div_mul]
  congr 1
  omega
/-- one further -/
theorem hp_inc {n k i : Nat} (hi : i < n) (h12 : ∀ j, i < j → j < n → hp_d n k j = 12) (hne : hp_d n k i ≠ 12) : ∀ j, j < n → hp_d n (k + 1) j = (if j < i then hp_d n k j else if j = i then hp_d n k i + 1 else 0) := by
  intro j hj
  have q := hp_lo (n := n) (k := k) (n - 1 - i) (by omega) (fun x h0 h1 => h12 x (by omega) h1)
  unfold hp_d at hne ⊢
  obtain ⟨e, he⟩ : ∃ e, e = n - 1 - i := ⟨_, rfl⟩
  rw [← he] at q hne ⊢
  have hD : 0 < 13 ^ e := Nat.pow_pos (by decide)
  have ek : k = 13 ^ e * (k / 13 ^ e) + k % 13 ^ e := (Nat.div_add_mod k (13 ^ e)).symm
  have ek1 : k + 1 = 13 ^ e * (k / 13 ^ e + 1) := by rw [Nat.mul_add, Nat.mul_one]; omega
  by_cases z : j = i
  · subst z
    rw [if_neg (by omega), if_pos rfl, ← he, ek1, Nat.mul_div_cancel_left _ hD]
    omega
  · by_cases y : j < i
    · rw [if_pos y]
      have eP : 13 ^ (n - 1 - j) = 13 ^ e * 13 ^ (i - j) := by rw [← Nat.pow_add]; congr 1; omega
      rw [eP, ← Nat.div_div_eq_div_mul, ← Nat.div_div_eq_div_mul, ek1, Nat.mul_div_cancel_left _ hD, hp_dv1 hne (by omega)]
    · rw [if_neg y, if_neg z]
      have eP : 13 ^ e = 13 ^ (n - 1 - j) * (13 * 13 ^ (e - (n - 1 - j) - 1)) := by rw [← Nat.pow_succ', ← Nat.pow_add]; congr 1; omega
      rw [ek1, eP, Nat.mul_assoc, Nat.mul_div_cancel_left _ (Nat.pow_pos (by decide)), Nat.mul_assoc, Nat.mul_mod_right]
theorem hp_all {n k : Nat} (h : ∀ j, j < n → hp_d n k j = 12) (hk : k < 13 ^ n) : k + 1 = 13 ^ n := by
  have q := hp_lo (n := n) (k := k) n (Nat.le_refl _) (fun i _ h1 => h i h1)
  rw [Nat.mod_eq_of_lt hk] at q
  exact q
theorem hp_none {a r : Nat → Int} {u M : Int} {n : Nat} (hu : 0 ≤ u) (h : M < hp_s a n) (k : Nat) (s : hp_S) : hp_f a r u M n k s = s := by
  unfold hp_f
  refine hp_v_no1 (Int.lt_of_lt_of_le h (hp_s_le n (fun i _ => ?_)))
  unfold hp_w
  have := Int.mul_nonneg (hp_dg_0 (n := n) (k := k) (i := i)) hu
  omega
theorem hp_no {a r : Nat → Int} {u M : Int} {n : Nat} (hu : 0 ≤ u) (h : M < hp_s a n) : hp_B9 a r u M n = hp_s0 := hp_F_id _ (fun j _ => hp_none hu h _ _)
theorem hp_B9_0 {a r : Nat → Int} {u : Int} : (hp_B9 a r u 0 0).1 = 0 := rfl
def hp_SM (s : hp_S) (bl ba : Int) (bm : Nat → Int32) (n : Nat) : Prop := s.1 = bl ∧ s.2.1 = ba ∧ (bl < 1000000000 → ∀ i, i < n → (bm i).toInt = s.2.2 i)
/-- where the odometer stands -/
def hp_OD (a r : Nat → Int) (u M : Int) (n : Nat) (l4 l5 l6 : Int) (mo bm : Nat → Int32) : Prop := ∃ k : Nat, k ≤ 13 ^ n ∧ hp_SM (hp_F (hp_f a r u M n) 0 k hp_s0) l4 l5 bm n ∧ ((l6 = 1 ∧ k < 13 ^ n ∧ ∀ i, i < n → (mo i).toInt = hp_dg n k i) ∨ (l6 = 0 ∧ k = 13 ^ n))
theorem hp_OD_0 {a r : Nat → Int} {u M : Int} {n : Nat} {mo bm : Nat → Int32} (h : ∀ i : Nat, i < n → mo i = 0) : hp_OD a r u M n 1000000000 1000000000 1 mo bm :=
  ⟨0, Nat.zero_le _, ⟨rfl, rfl, fun h => absurd h (by decide)⟩, Or.inl ⟨rfl, Nat.pow_pos (by decide), fun i hi => by rw [h i hi]; unfold hp_dg; simp⟩⟩
/-- the combination that stands is weighed -/
theorem hp_SM_s {a r : Nat → Int} {u M tot L A l4 l5 l41 l51 : Int} {n k : Nat} {mo bm bm1 : Nat → Int32} (h : hp_SM (hp_F (hp_f a r u M n) 0 k hp_s0) l4 l5 bm n) (hd : ∀ i, i < n → (mo i).toInt = hp_dg n k i) (ht : tot = hp_s (hp_w a u fun i => (mo i).toInt) n) (hL : L = hp_m (hp_k a r u fun i => (mo i).toInt) n) (hA : A = hp_s (hp_k a r u fun i => (mo i).toInt) n) (hc : (tot ≤ M ∧ (L < l4 ∨ (L = l4 ∧ A < l5)) ∧ l41 = L ∧ l51 = A ∧ ∀ i, i < n → bm1 i = mo i) ∨ (¬ (tot ≤ M ∧ (L < l4 ∨ (L = l4 ∧ A < l5))) ∧ l41 = l4 ∧ l51 = l5 ∧ bm1 = bm)) : hp_SM (hp_F (hp_f a r u M n) 0 (k + 1) hp_s0) l41 l51 bm1 n := by
  have e1 : hp_s (hp_w a u (hp_dg n k)) n = tot := by rw [ht]; exact hp_s_c n (fun i hi => by unfold hp_w; rw [← hd i hi])
  have e2 : hp_m (hp_k a r u (hp_dg n k)) n = L := by rw [hL]; exact hp_m_c n (fun i hi => by unfold hp_k hp_w; rw [← hd i hi])
  have e3 : hp_s (hp_k a r u (hp_dg n k)) n = A := by rw [hA]; exact hp_s_c n (fun i hi => by unfold hp_k hp_w; rw [← hd i hi])
  show hp_SM (hp_f a r u M n (0 + k) (hp_F (hp_f a r u M n) 0 k hp_s0)) l41 l51 bm1 n
  rw [Nat.zero_add]
  generalize hp_F (hp_f a r u M n) 0 k hp_s0 = S at h ⊢
  unfold hp_f hp_v
  rw [e1, e2, e3, h.1, h.2.1]
  rcases hc with ⟨c1, c2, c3, c4, c5⟩ | ⟨c1, c2, c3, c4⟩
  · rw [if_pos ⟨c1, c2⟩]
    exact ⟨c3.symm, c4.symm, fun _ i hi => by rw [c5 i hi]; exact hd i hi⟩
  · rw [if_neg c1, c2, c3, c4]
    exact h
theorem hp_OD_y {a r : Nat → Int} {u M l4 l5 l6 : Int} {n k i : Nat} {mo1 bm : Nat → Int32} (h : hp_SM (hp_F (hp_f a r u M n) 0 (k + 1) hp_s0) l4 l5 bm n) (hk : k < 13 ^ n) (hi : i < n) (h12 : ∀ j, i < j → j < n → hp_dg n k j = 12) (hne : hp_dg n k i ≠ 12) (hm : ∀ j, j < n → (mo1 j).toInt = (if j < i then hp_dg n k j else if j = i then hp_dg n k i + 1 else 0)) (e : l6 = 1) : hp_OD a r u M n l4 l5 l6 mo1 bm := by
  have q := hp_inc (n := n) (k := k) hi (fun j h0 h1 => by have := h12 j h0 h1; rw [hp_dg_d] at this; omega) (fun z => hne (by rw [hp_dg_d, z]; rfl))
  have hlt : k + 1 < 13 ^ n := by
    refine Nat.lt_of_le_of_ne hk (fun z => ?_)
    have q0 := q i hi
    rw [if_neg (Nat.lt_irrefl _), if_pos rfl] at q0
    unfold hp_d at q0
    rw [z, ← Nat.pow_sub_mul_pow 13 (show n - 1 - i ≤ n by omega), Nat.mul_div_cancel _ (Nat.pow_pos (by decide)), show n - (n - 1 - i) = i + 1 by omega, Nat.pow_succ, Nat.mul_mod_left] at q0
    omega
  refine ⟨k + 1, hk, h, Or.inl ⟨e, hlt, fun j hj => ?_⟩⟩
  rw [hm j hj, show hp_dg n (k + 1) j = ((hp_d n (k + 1) j : Nat) : Int) from rfl, q j hj]
  by_cases y : j < i
  · rw [if_pos y, if_pos y, hp_dg_d]
  · rw [if_neg y, if_neg y]
    by_cases w : j = i
    · rw [if_pos w, if_pos w, hp_dg_d]; rfl
    · rw [if_neg w, if_neg w]; rfl
theorem hp_OD_n {a r : Nat → Int} {u M l4 l5 l6 : Int} {n k : Nat} {mo1 bm : Nat → Int32} (h : hp_SM (hp_F (hp_f a r u M n) 0 (k + 1) hp_s0) l4 l5 bm n) (hk : k < 13 ^ n) (h12 : ∀ j, j < n → hp_dg n k j = 12) (e : l6 = 0) : hp_OD a r u M n l4 l5 l6 mo1 bm :=
  ⟨k + 1, hk, h, Or.inr ⟨e, hp_all (n := n) (k := k) (fun j hj => by have := h12 j hj; rw [hp_dg_d] at this; omega) hk⟩⟩
theorem hp_OD_e {a r : Nat → Int} {u M l4 l5 : Int} {n : Nat} {mo bm : Nat → Int32} (h : hp_OD a r u M n l4 l5 0 mo bm) : hp_SM (hp_B9 a r u M n) l4 l5 bm n := by
  obtain ⟨k, _, h1, h2⟩ := h
  rcases h2 with z | ⟨_, z⟩
  · exact absurd z.1 (by decide)
  · subst z; exact h1
theorem hp_ssI {w : Nat → Int} {k k1 x y : Int} (h : x = hp_s w k.toNat) (h0 : 0 ≤ k) (hy : y = x + w k.toNat) (e : k1 = k + 1) : y = hp_s w k1.toNat := by
  subst e
  have e : (k + 1).toNat = k.toNat + 1 := by omega
  rw [e]; simp only [hp_s]; omega
theorem hp_mmI {w : Nat → Int} {k k1 x y : Int} (h : x = hp_m w k.toNat) (h0 : 0 ≤ k) (hy : (x < w k.toNat ∧ y = w k.toNat) ∨ (w k.toNat ≤ x ∧ y = x)) (e : k1 = k + 1) : y = hp_m w k1.toNat := by
  subst e
  have e : (k + 1).toNat = k.toNat + 1 := by omega
  rw [e]; simp only [hp_m]; rw [← h]
  split <;> omega
theorem hp_z_s {f f1 : Nat → Int32} {k k1 : Int} {ix : Nat} (h : ∀ i : Nat, (i : Int) < k → f i = 0) (ei : (ix : Int) = k) (e : f1 = hx_up f ix 0) (e1 : k1 = k + 1) : ∀ i : Nat, (i : Int) < k1 → f1 i = 0 := by
  subst e1
  intro i hi
  rw [e]
  by_cases z : i = ix
  · subst z; exact hx_up_at
  · rw [hx_up_ne z]; exact h i (by omega)
/-- one place of the odometer goes back to nought -/
theorem hp_E_s {mo mo1 : Nat → Int32} {n k : Nat} {l l1 : Int} {ix : Nat} (h : ∀ j : Nat, j < n → (mo j).toInt = (if (j : Int) ≤ l then hp_dg n k j else 0)) (g : ∀ j : Nat, l < (j : Int) → j < n → hp_dg n k j = 12) (h0 : 0 ≤ l) (hl : l < n) (ei : (ix : Int) = l) (h12 : (mo ix).toInt = 12) (e : mo1 = hx_up mo ix 0) (e1 : l1 = l - 1) : (∀ j : Nat, j < n → (mo1 j).toInt = (if (j : Int) ≤ l1 then hp_dg n k j else 0)) ∧ ∀ j : Nat, l1 < (j : Int) → j < n → hp_dg n k j = 12 := by
  subst e1
  have hix : ix < n := by omega
  have q := h ix hix
  rw [if_pos (by omega), h12] at q
  refine ⟨fun j hj => ?_, fun j h1 h2 => ?_⟩
  · rw [e]
    by_cases z : j = ix
    · subst z; rw [hx_up_at, if_neg (by omega)]; decide
    · rw [hx_up_ne z, h j hj]
      by_cases y : (j : Int) ≤ l
      · rw [if_pos y, if_pos (by omega)]
      · rw [if_neg y, if_neg (by omega)]
  · by_cases z : j = ix
    · subst z; exact q.symm
    · exact g j (by omega) h2
/-- and the next one goes on -/
theorem hp_E_u {mo mo1 : Nat → Int32} {n k : Nat} {l : Int} {ix : Nat} {v : Int32} (h : ∀ j : Nat, j < n → (mo j).toInt = (if (j : Int) ≤ l then hp_dg n k j else 0)) (h0 : 0 ≤ l) (hl : l < n) (ei : (ix : Int) = l) (e : mo1 = hx_up mo ix v) (ev : v.toInt = (mo ix).toInt + 1) : ∀ j : Nat, j < n → (mo1 j).toInt = (if j < ix then hp_dg n k j else if j = ix then hp_dg n k ix + 1 else 0) := by
  intro j hj
  rw [e]
  by_cases z : j = ix
  · subst z
    rw [hx_up_at, ev, h j hj, if_pos (by omega), if_neg (Nat.lt_irrefl _), if_pos rfl]
  · rw [hx_up_ne z, h j hj]
    by_cases y : j < ix
    · rw [if_pos (by omega), if_pos y]
    · rw [if_neg (by omega), if_neg y, if_neg z]
