/-! PURE FACTS for the reference's reader of texts and its small stack -/
def hx_up (f : Nat → Int32) (k : Nat) (v : Int32) : Nat → Int32 := fun j => if j = k then v else f j
theorem hx_up_at {f : Nat → Int32} {k : Nat} {v : Int32} : hx_up f k v k = v := by simp [hx_up]
theorem hx_up_ne {f : Nat → Int32} {k j : Nat} {v : Int32} (h : j ≠ k) : hx_up f k v j = f j := by simp [hx_up, h]
theorem hx_pi_fun (h : hx_h) (a k : Nat) (x : Int32) : (hx_pi h a k x).2.1 a = hx_up (h.2.1 a) k x := by
  funext j
  simp [hx_pi, hx_up]
/-- a comparison as the stack's steps have it -/
def hx_okc (s : Int) : Bool := decide (1000000 ≤ s) && decide (s < 9000000) && decide (s % 100000 < 10008)
/-- how high the stack stands behind n steps; none: they can't be gone through -/
def hx_rp (f : Nat → Int32) : Nat → Option Nat
  | 0 => some 0
  | n + 1 => match hx_rp f n with
    | none => none
    | some d => if hx_okc (f n).toInt = true then some (d + 1) else if (f n).toInt = 2 then (if 1 ≤ d then some d else none) else if (f n).toInt = 0 ∨ (f n).toInt = 1 then (if 2 ≤ d then some (d - 1) else none) else none
theorem hx_rp_s {f : Nat → Int32} {n : Nat} : hx_rp f (n + 1) = (match hx_rp f n with
    | none => none
    | some d => if hx_okc (f n).toInt = true then some (d + 1) else if (f n).toInt = 2 then (if 1 ≤ d then some d else none) else if (f n).toInt = 0 ∨ (f n).toInt = 1 then (if 2 ≤ d then some (d - 1) else none) else none) := rfl
theorem hx_rp_congr {f g : Nat → Int32} : ∀ n, (∀ j, j < n → f j = g j) → hx_rp f n = hx_rp g n := by
  intro n
  induction n with
  | zero => intro _; rfl
  | succ n ih =>
    intro h
    rw [hx_rp_s, hx_rp_s, ih (fun j hj => h j (by omega)), h n (by omega)]
theorem hx_rp_up {f : Nat → Int32} {n : Nat} {v : Int32} : hx_rp (hx_up f n v) n = hx_rp f n := hx_rp_congr n (fun j hj => hx_up_ne (by omega))
theorem hx_rp_c {f : Nat → Int32} {n d : Nat} {v : Int32} (h : hx_rp f n = some d) (hv : hx_okc v.toInt = true) : hx_rp (hx_up f n v) (n + 1) = some (d + 1) := by
  rw [hx_rp_s, hx_rp_up, h, hx_up_at]
  simp [hv]
theorem hx_rp_j {f : Nat → Int32} {n d : Nat} {v : Int32} (h : hx_rp f n = some d) (hv : v.toInt = 0 ∨ v.toInt = 1) (hd : 2 ≤ d) : hx_rp (hx_up f n v) (n + 1) = some (d - 1) := by
  rw [hx_rp_s, hx_rp_up, h, hx_up_at]
  rcases hv with hv | hv <;> rw [hv] <;> simp [hx_okc, hd]
/-- the words of the reference -/
def P_words : Nat → Int32 := fun j => ([111, 114, 0, 0, 0, 0, 0, 97, 110, 100, 0, 0, 0, 0, 110, 111, 116, 0, 0, 0, 0, 111, 97, 116, 104, 0, 0, 0, 100, 101, 110, 105, 101, 100, 0, 110, 111, 116, 101, 0, 0, 0, 119, 105, 116, 110, 101, 115, 115, 111, 119, 110, 0, 0, 0, 0, 111, 116, 104, 101, 114, 0, 0, 97, 108, 105, 107, 101, 0, 0, 99, 108, 97, 105, 109, 101, 100, 109, 111, 115, 116, 0, 0, 0, 115, 112, 108, 105, 116, 0, 0, 119, 101, 101, 107, 0, 0, 0, 107, 101, 101, 112, 0, 0, 0, 108, 97, 116, 101, 0, 0, 0, 103, 97, 111, 108, 0, 0, 0, 108, 111, 110, 103, 101, 115, 116, 97, 103, 101, 0, 0, 0, 0, 99, 111, 115, 116, 0, 0, 0, 112, 114, 111, 118, 101, 0, 0, 115, 117, 109, 109, 111, 110, 115, 104, 101, 97, 114, 105, 110, 103, 111, 114, 100, 101, 114, 0, 0, 115, 101, 105, 122, 117, 114, 101] : List Int32).getD j 0
def hx_wd (f : Nat → Int32) : Prop := ∀ j, j < 175 → f j = P_words j
theorem hx_okc_i {s : Int} (h1 : 1000000 ≤ s) (h2 : s < 9000000) (h3 : s % 100000 < 10008) : hx_okc s = true := by simp [hx_okc, h1, h2, h3]
/-- every ACT's proof can be gone through -/
def hx_RP (prf psf : Nat → Int32) (a : Int) : Prop := ∀ p : Int, 0 ≤ p → p ≤ a → (psf p.toNat).toInt ≤ 128 ∧ hx_rp (fun k => prf (128 * p.toNat + k)) (psf p.toNat).toInt.toNat = some 1
/-- a row of rules: WEEK is 1 at least, costs are 999 at most -/
def hx_rk (rd : Nat → Int32) : Prop := 1 ≤ (rd 2).toInt ∧ ∀ j : Nat, 9 ≤ j → j < 13 → (rd j).toInt ≤ 999
def hx_WK (rf : Nat → Int32) (a : Int) : Prop := ∀ p : Int, 0 ≤ p → p ≤ a → hx_rk (fun j => rf (13 * p.toNat + j))
/-- how often summons were tried, at most -/
def hx_TR (f : Nat → Int32) (n : Int) : Prop := ∀ c : Nat, c < 100 → (f c).toInt ≤ n
theorem hx_TR_le {f : Nat → Int32} {n m : Int} (h : hx_TR f n) (l : n ≤ m) : hx_TR f m := fun c hc => Int.le_trans (h c hc) l
def hx_PL (plf : Nat → Int32) (c a : Int) : Prop := ∀ k : Int, 0 ≤ k → k < c → 0 ≤ (plf k.toNat).toInt ∧ (plf k.toNat).toInt ≤ a
def hx_hc (f : Nat → Int32) : Nat → Nat
  | 0 => 0
  | n + 1 => hx_hc f n + (if (f n).toInt = -1 then 0 else 1)
theorem hx_hc_le {f : Nat → Int32} : ∀ n, hx_hc f n ≤ n := by
  intro n
  induction n with
  | zero => exact Nat.le_refl _
  | succ n ih => simp only [hx_hc]; split <;> omega
theorem hx_hc_lt {f : Nat → Int32} : ∀ n i, i < n → (f i).toInt = -1 → hx_hc f n < n := by
  intro n
  induction n with
  | zero => intro i h; omega
  | succ n ih =>
    intro i h hf
    simp only [hx_hc]
    by_cases z : i = n
    · subst z; rw [if_pos hf]; have := hx_hc_le (f := f) i; omega
    · have := ih i (by omega) hf
      split <;> omega
theorem hx_hc_congr {f g : Nat → Int32} : ∀ n, (∀ j, j < n → f j = g j) → hx_hc f n = hx_hc g n := by
  intro n
  induction n with
  | zero => intro _; rfl
  | succ n ih => intro h; simp only [hx_hc, ih (fun j hj => h j (by omega)), h n (by omega)]
theorem hx_hc_up {f : Nat → Int32} {v : Int32} : ∀ n i, i < n → (f i).toInt = -1 → v.toInt ≠ -1 → hx_hc (hx_up f i v) n = hx_hc f n + 1 := by
  intro n
  induction n with
  | zero => intro i h; omega
  | succ n ih =>
    intro i h hf hv
    simp only [hx_hc]
    by_cases z : i = n
    · subst z
      rw [hx_up_at, if_neg hv, if_pos hf, hx_hc_congr (f := hx_up f i v) (g := f) i (fun j hj => hx_up_ne (by omega))]
    · rw [ih i (by omega) hf hv, hx_up_ne (by omega)]
      omega
/-- a claim is heard -/
theorem hx_hear {hf hf1 : Nat → Int32} {m m1 c i v x : Int32} (h : m.toInt = hx_hc hf c.toInt.toNat) (hi0 : 0 ≤ i.toInt) (hi : i.toInt < c.toInt) (hx : x = hf i.toNatClampNeg) (hx1 : x.toInt = -1) (hv : v.toInt ≠ -1) (e : hf1 = hx_up hf i.toNatClampNeg v) (hm : m1.toInt = m.toInt + 1) : m1.toInt = hx_hc hf1 c.toInt.toNat := by
  subst e
  have hc : i.toNatClampNeg < c.toInt.toNat := by unfold Int32.toNatClampNeg; omega
  rw [hx_hc_up _ _ hc (by rw [← hx]; exact hx1) hv]
  omega
theorem hx_hear_lt {hf : Nat → Int32} {m c i x : Int32} (h : m.toInt = hx_hc hf c.toInt.toNat) (hi0 : 0 ≤ i.toInt) (hi : i.toInt < c.toInt) (hx : x = hf i.toNatClampNeg) (hx1 : x.toInt = -1) : m.toInt < c.toInt := by
  have hc : i.toNatClampNeg < c.toInt.toNat := by unfold Int32.toNatClampNeg; omega
  have := hx_hc_lt (f := hf) _ _ hc (by rw [← hx]; exact hx1)
  omega
/-- a claim is filed -/
theorem hx_filed {hf hf1 : Nat → Int32} {m c c1 i v : Int32} (h : m.toInt = hx_hc hf c.toInt.toNat) (h0 : 0 ≤ c.toInt) (hi : i = c) (hv : v.toInt = -1) (e : hf1 = hx_up hf i.toNatClampNeg v) (hc : c1.toInt = c.toInt + 1) : m.toInt = hx_hc hf1 c1.toInt.toNat := by
  subst e; subst hi
  have e1 : c1.toInt.toNat = i.toNatClampNeg + 1 := by unfold Int32.toNatClampNeg; omega
  have e2 : i.toInt.toNat = i.toNatClampNeg := rfl
  rw [e1]
  simp only [hx_hc, hx_up_at, hv]
  rw [hx_hc_congr (g := hf) _ (fun j hj => hx_up_ne (by omega)), ← e2]
  simpa using h
theorem hx_PL_up {plf plf1 : Nat → Int32} {c c1 a : Int} {i v : Int32} (h : hx_PL plf c a) (hi : i.toInt = c) (h0 : 0 ≤ c) (hv : 0 ≤ v.toInt ∧ v.toInt ≤ a) (e : plf1 = hx_up plf i.toNatClampNeg v) (hc : c1 = c + 1) : hx_PL plf1 c1 a := by
  subst e; subst hc
  intro k hk0 hk
  by_cases z : k = c
  · have : k.toNat = i.toNatClampNeg := by unfold Int32.toNatClampNeg; omega
    rw [this, hx_up_at]; exact hv
  · have : k.toNat ≠ i.toNatClampNeg := by unfold Int32.toNatClampNeg; omega
    rw [hx_up_ne this]; exact h k hk0 (by omega)
def hx_rk1 (rd : Nat → Int32) (k : Int) : Prop := (k ≤ 2 ∨ 1 ≤ (rd 2).toInt) ∧ ∀ j : Nat, 9 ≤ j → (j : Int) < k → (rd j).toInt ≤ 999
theorem hx_rk1_0 {rd : Nat → Int32} : hx_rk1 rd 0 := ⟨Or.inl (by decide), fun j h9 h => absurd h (by omega)⟩
theorem hx_rk1_e {rd : Nat → Int32} {k : Int} (h : hx_rk1 rd k) (hk : 13 ≤ k) : hx_rk rd := ⟨h.1.resolve_left (by omega), fun j h9 h13 => h.2 j h9 (by omega)⟩
theorem hx_rd2 {rd rd1 : Nat → Int32} {i v : Int32} {k k1 : Int} (h : hx_rk1 rd k) (e : rd1 = hx_up rd i.toNatClampNeg v) (hi : i.toInt = k) (h0 : 0 ≤ k) (hv : i.toInt = 2 → 1 ≤ v.toInt) (hc : 9 ≤ i.toInt → v.toInt ≤ 999) (e1 : k1 = k + 1) : hx_rk1 rd1 k1 := by
  subst e; subst e1
  refine ⟨?_, fun j h9 hj => ?_⟩
  · by_cases z : 2 = i.toNatClampNeg
    · rw [← z, hx_up_at]; exact Or.inr (hv (by unfold Int32.toNatClampNeg at z; omega))
    · rw [hx_up_ne z]
      unfold Int32.toNatClampNeg at z
      rcases h.1 with h | h
      · exact Or.inl (by omega)
      · exact Or.inr h
  · by_cases z : j = i.toNatClampNeg
    · subst z; rw [hx_up_at]; exact hc (by unfold Int32.toNatClampNeg at h9; omega)
    · rw [hx_up_ne z]; exact h.2 j h9 (by unfold Int32.toNatClampNeg at z; omega)
theorem hx_rp_wo {sf sf1 sf2 sf3 : Nat → Int32} {v1 v2 v3 s0 s1 s2 s3 : Int32} (e0 : s0.toInt = 0) (h1 : s1.toInt = s0.toInt + 1 ∧ sf1 = hx_up sf s0.toNatClampNeg v1) (h2 : s2.toInt = s1.toInt + 1 ∧ sf2 = hx_up sf1 s1.toNatClampNeg v2) (h3 : s3.toInt = s2.toInt + 1 ∧ sf3 = hx_up sf2 s2.toNatClampNeg v3) (o1 : hx_okc v1.toInt = true) (o2 : hx_okc v2.toInt = true) (o3 : v3.toInt = 1) : hx_rp sf3 s3.toInt.toNat = some 1 := by
  have a0 : s0.toNatClampNeg = 0 := by unfold Int32.toNatClampNeg; omega
  have a1 : s1.toNatClampNeg = 1 := by unfold Int32.toNatClampNeg; omega
  have a2 : s2.toNatClampNeg = 2 := by unfold Int32.toNatClampNeg; omega
  have a3 : s3.toInt.toNat = 3 := by omega
  rw [a0] at h1; rw [a1] at h2; rw [a2] at h3; rw [a3, h3.2, h2.2, h1.2]
  have r1 : hx_rp (hx_up sf 0 v1) 1 = some 1 := hx_rp_c (d := 0) rfl o1
  have r2 := hx_rp_c r1 o2
  exact hx_rp_j (d := 2) r2 (Or.inr o3) (by decide)
/-- a proof is kept in its row -/
def hx_kp (sf prf g : Nat → Int32) (a k : Int) : Prop := (∀ j : Nat, (j : Int) < k → g (128 * a.toNat + j) = sf j) ∧ ∀ m : Nat, ((m : Int) < 128 * a ∨ 128 * a + k ≤ m) → g m = prf m
theorem hx_kp0 {sf prf : Nat → Int32} {a : Int} : hx_kp sf prf prf a 0 := ⟨fun j hj => absurd hj (by omega), fun _ _ => rfl⟩
theorem hx_kp_s {sf prf g g1 : Nat → Int32} {a k k1 : Int} {i v l : Int32} (h : hx_kp sf prf g a k) (ha : 0 ≤ a) (hk : 0 ≤ k) (hi : i.toInt = 128 * a + k) (hv : v = sf l.toNatClampNeg) (hl : l.toInt = k) (e : g1 = hx_up g i.toNatClampNeg v) (e1 : k1 = k + 1) : hx_kp sf prf g1 a k1 := by
  subst e; subst e1
  have ei : i.toNatClampNeg = 128 * a.toNat + k.toNat := by unfold Int32.toNatClampNeg; omega
  have el : l.toNatClampNeg = k.toNat := by unfold Int32.toNatClampNeg; omega
  rw [el] at hv
  refine ⟨fun j hj => ?_, fun m hm => ?_⟩
  · by_cases z : j = k.toNat
    · subst z; rw [ei, hx_up_at, hv]
    · rw [hx_up_ne (by omega)]; exact h.1 j (by omega)
  · rw [hx_up_ne (by omega)]; exact h.2 m (by omega)
theorem hx_remz {x y : Int32} (h0 : 0 ≤ x.toInt) (h1 : 1 ≤ y.toInt) : (x - x / y * y).toInt = x.toInt % y.toInt := by
  have d := hx_dv h0 h1
  have b := Int32.toInt_lt x
  have p0 : 0 ≤ x.toInt / y.toInt := Int.ediv_nonneg h0 (by omega)
  have q0 := Int.emod_nonneg x.toInt (show y.toInt ≠ 0 by omega)
  have q1 := Int.emod_lt_of_pos x.toInt (show 0 < y.toInt by omega)
  have q2 := Int.mul_ediv_add_emod x.toInt y.toInt
  have q3 : x.toInt / y.toInt * y.toInt = x.toInt - x.toInt % y.toInt := by rw [Int.mul_comm]; omega
  have q4 : 0 ≤ x.toInt / y.toInt * y.toInt := Int.mul_nonneg p0 (by omega)
  have m : (x / y * y).toInt = x.toInt / y.toInt * y.toInt := by
    rw [Int32.toInt_mul, d]; exact Int.bmod_eq_of_le (by omega) (by omega)
  rw [Int32.toInt_sub, m]
  have z : x.toInt - x.toInt / y.toInt * y.toInt = x.toInt % y.toInt := by omega
  rw [z]; exact Int.bmod_eq_of_le (by omega) (by omega)