/-! WHAT IS WRITTEN, AS THE CLASS HAS IT -/
theorem hv_i32n {x : Int32} (h : 0 ≤ x.toInt) : x.toInt = (x.toBitVec.toNat : Int) ∧ x.toBitVec.toNat < 2147483648 := by
  have e : x.toInt = x.toBitVec.toInt := rfl
  have b := x.toBitVec.isLt
  rw [e] at h ⊢
  rw [BitVec.toInt_eq_toNat_cond] at h ⊢
  by_cases c : 2 * x.toBitVec.toNat < 2 ^ 32
  · rw [if_pos c]
    exact ⟨rfl, by omega⟩
  · rw [if_neg c] at h
    exfalso; omega
theorem hv_orr {x y : Int32} (k m p : Nat) (hp : p = 2 ^ k) (x0 : 0 ≤ x.toInt) (x1 : x.toInt < (p : Int)) (y0 : y.toInt = (p : Int) * (m : Int)) (s : x.toInt + y.toInt < 2147483648) : (x ||| y).toInt = x.toInt + y.toInt := by
  have hy0 : 0 ≤ y.toInt := by rw [y0]; exact Int.mul_nonneg (Int.natCast_nonneg _) (Int.natCast_nonneg _)
  obtain ⟨ex, bx⟩ := hv_i32n x0
  obtain ⟨ey, by'⟩ := hv_i32n hy0
  have h1 : y.toBitVec.toNat = 2 ^ k * m := by
    have h2 : (y.toBitVec.toNat : Int) = ((p * m : Nat) : Int) := by rw [← ey, y0, Int.natCast_mul]
    rw [← hp]
    exact Int.ofNat_inj.mp h2
  have hx : x.toBitVec.toNat < 2 ^ k := by rw [← hp]; omega
  have e : (x ||| y).toInt = (x.toBitVec ||| y.toBitVec).toInt := rfl
  have en : (x.toBitVec ||| y.toBitVec).toNat = x.toBitVec.toNat + y.toBitVec.toNat := by
    rw [BitVec.toNat_or, h1, Nat.or_comm, ← Nat.two_pow_add_eq_or_of_lt hx m]
    omega
  rw [e, BitVec.toInt_eq_toNat_cond, en, if_pos (by omega)]
  omega
theorem hv_sh3 {x : Int32} (h0 : 0 ≤ x.toInt) (h1 : x.toInt ≤ 10007) : (x <<< ((3 : Int32) &&& 31)).toInt = 8 * x.toInt := by
  obtain ⟨ex, bx⟩ := hv_i32n h0
  have e : (x <<< ((3 : Int32) &&& 31)).toBitVec = x.toBitVec <<< 3 := rfl
  have e2 : (x <<< ((3 : Int32) &&& 31)).toInt = (x <<< ((3 : Int32) &&& 31)).toBitVec.toInt := rfl
  rw [e2, e, BitVec.toInt_eq_toNat_cond, BitVec.toNat_shiftLeft, Nat.shiftLeft_eq]
  rw [ex] at h1 ⊢
  split <;> omega
theorem hv_sh7 {x : Int32} (h0 : 0 ≤ x.toInt) (h1 : x.toInt ≤ 10007) : (x <<< ((7 : Int32) &&& 31)).toInt = 128 * x.toInt := by
  obtain ⟨ex, bx⟩ := hv_i32n h0
  have e : (x <<< ((7 : Int32) &&& 31)).toBitVec = x.toBitVec <<< 7 := rfl
  have e2 : (x <<< ((7 : Int32) &&& 31)).toInt = (x <<< ((7 : Int32) &&& 31)).toBitVec.toInt := rfl
  rw [e2, e, BitVec.toInt_eq_toNat_cond, BitVec.toNat_shiftLeft, Nat.shiftLeft_eq]
  rw [ex] at h1 ⊢
  split <;> omega
theorem hv_tm {a b d v1 v2 v3 v4 v5 c : Int32} (cb : Nat) (hc : c.toInt = 64 * (cb : Int)) (hcb : cb ≤ 1) (a0 : 0 ≤ a.toInt ∧ a.toInt ≤ 7) (b0 : 0 ≤ b.toInt ∧ b.toInt ≤ 7) (d0 : 0 ≤ d.toInt ∧ d.toInt ≤ 9999) (e1 : v1 = b <<< ((3 : Int32) &&& 31)) (e2 : v2 = a ||| v1) (e3 : v3 = v2 ||| c) (e4 : v4 = d <<< ((7 : Int32) &&& 31)) (e5 : v5 = v3 ||| v4) : v5.toInt = a.toInt + 8 * b.toInt + 64 * (cb : Int) + 128 * d.toInt := by
  have h1 : v1.toInt = 8 * b.toInt := by rw [e1]; exact hv_sh3 b0.1 (by omega)
  have h2 : v2.toInt = a.toInt + v1.toInt := by rw [e2]; exact hv_orr 3 b.toInt.toNat 8 rfl a0.1 (by omega) (by omega) (by omega)
  have h3 : v3.toInt = v2.toInt + c.toInt := by rw [e3]; exact hv_orr 6 cb 64 rfl (by omega) (by omega) (by omega) (by omega)
  have h4 : v4.toInt = 128 * d.toInt := by rw [e4]; exact hv_sh7 d0.1 (by omega)
  have h5 : v5.toInt = v3.toInt + v4.toInt := by rw [e5]; exact hv_orr 7 d.toInt.toNat 128 rfl (by omega) (by omega) (by omega) (by omega)
  omega
def hv_cc (t : hv_tok) : Int := if t.1 = 0 then (if t.2.1 = 0 then -2 else if t.2.1 = 1 then -1 else -3) else (t.1 - 1) + 8 * hv_scd (t.2.1, 1) + (if 10000 ≤ t.2.2 then 64 + 128 * (t.2.2 - 10000) else 128 * t.2.2)
def hv_ls (f : Nat → Int32) : Nat → List Int
  | 0 => []
  | k + 1 => (f k).toInt :: hv_ls f k
theorem hv_ls_c {f g : Nat → Int32} : ∀ k, (∀ j, j < k → f j = g j) → hv_ls f k = hv_ls g k := by
  intro k
  induction k with
  | zero => intro _; rfl
  | succ k ih =>
    intro h
    show (f k).toInt :: hv_ls f k = (g k).toInt :: hv_ls g k
    rw [h k (by omega), ih (fun j hj => h j (by omega))]
theorem hv_ls_len {f : Nat → Int32} : ∀ k, (hv_ls f k).length = k := by
  intro k
  induction k with
  | zero => rfl
  | succ k ih => show (hv_ls f k).length + 1 = k + 1; rw [ih]
theorem hv_ls_l {e : hv_tok → Int} {f : Nat → Int32} {n : Nat} {o : List hv_tok} (h : hv_ls f n = o.map e) : o.length = n := by
  have h2 := congrArg List.length h
  rw [hv_ls_len, List.length_map] at h2
  exact h2.symm
theorem hv_ls_u {e : hv_tok → Int} {f f1 : Nat → Int32} {n n1 : Nat} {o : List hv_tok} {v : Int32} {t : hv_tok} (h : hv_ls f n = o.map e) (hv : v.toInt = e t) (h1 : n1 = n + 1) (h2 : f1 = hx_up f n v) : hv_ls f1 n1 = (t :: o).map e := by
  subst h1; subst h2
  show (hx_up f n v n).toInt :: hv_ls (hx_up f n v) n = e t :: o.map e
  rw [hx_up_at, hv, ← h, hv_ls_c n (fun j hj => hx_up_ne (by omega))]
/-- what a method answers of what it has read -/
def hv_K (e : hv_tok → Int) (sp : hv_R) (r ft p t : Int) (ls : List Int) : Prop := (r = 1 ∧ ft = 0 ∧ 0 ≤ p ∧ 0 ≤ t ∧ ∃ o, ls = o.map e ∧ sp = .inr (p.toNat, t.toNat, o)) ∨ (r = 0 ∧ 1 ≤ ft ∧ sp = .inl ft.toNat)
section HVK
variable {e : hv_tok → Int} {sp sp' : hv_R} {r ft p t : Int} {ls : List Int}
theorem hv_K_1 (h : hv_K e sp r ft p t ls) (z : 1 ≤ r) : ft = 0 ∧ 0 ≤ p ∧ 0 ≤ t ∧ ∃ o, ls = o.map e ∧ sp = .inr (p.toNat, t.toNat, o) := by
  rcases h with ⟨_, w⟩ | ⟨a, _⟩
  · exact w
  · exfalso; omega
theorem hv_K_0 (h : hv_K e sp r ft p t ls) (z : r ≤ 0) : 1 ≤ ft ∧ sp = .inl ft.toNat := by
  rcases h with ⟨a, _⟩ | ⟨_, w⟩
  · exfalso; omega
  · exact w
theorem hv_K_b (h : hv_K e sp r ft p t ls) : r = 0 ∨ r = 1 := by
  rcases h with ⟨a, _⟩ | ⟨a, _⟩
  · exact Or.inr a
  · exact Or.inl a
theorem hv_K_c (h : hv_K e sp r ft p t ls) (z : sp' = sp) : hv_K e sp' r ft p t ls := z ▸ h
theorem hv_K_f {x : Nat} (hr : r = 0) (hf : ft = (x : Int)) (hx : 1 ≤ x) (h : sp = .inl x) : hv_K e sp r ft p t ls := Or.inr ⟨hr, by omega, by rw [h, hf, Int.toNat_natCast]⟩
theorem hv_K_t {x y : Nat} {o : List hv_tok} (hr : r = 1) (hf : ft = 0) (hp : p = (x : Int)) (ht : t = (y : Int)) (hl : ls = o.map e) (h : sp = .inr (x, y, o)) : hv_K e sp r ft p t ls := Or.inl ⟨hr, hf, by omega, by omega, o, hl, by rw [h, hp, ht, Int.toNat_natCast, Int.toNat_natCast]⟩
end HVK
section HVT
variable {T : Nat → Int32} {n p t u D : Nat} {o o1 : List hv_tok} {p1 t1 : Nat} {w : Int} {s : Nat} {a b : Bool} {x : Nat}
theorem hv_term_1 (h : ¬ (3 ≤ hv_wd T n p ∧ hv_wd T n p ≤ 10)) : hv_term T n p t o = .inl (1 + 8 * p) := if_neg h
theorem hv_term_2 (h : 3 ≤ hv_wd T n p ∧ hv_wd T n p ≤ 10) (ht : 20 ≤ t) : hv_term T n p t o = .inl (5 + 8 * p) := by
  unfold hv_term; rw [if_pos h, if_pos ht]
theorem hv_term_3 (h : 3 ≤ hv_wd T n p ∧ hv_wd T n p ≤ 10) (ht : t < 20) (hs : (hv_sg T n (hv_sk T n (hv_we T n p))).2 = 0) : hv_term T n p t o = .inl (1 + 8 * hv_sk T n (hv_we T n p)) := by
  unfold hv_term hv_lf; rw [if_pos h, if_neg (by omega), if_pos hs]
theorem hv_term_o (h : 3 ≤ hv_wd T n p ∧ hv_wd T n p ≤ 10) (ht : t < 20) (hs : (hv_sg T n (hv_sk T n (hv_we T n p))).2 ≠ 0) (hu : u = hv_sk T n (hv_sk T n (hv_we T n p) + (hv_sg T n (hv_sk T n (hv_we T n p))).2)) : hv_term T n p t o = hv_rt T n (hv_wd T n p) (hv_sg T n (hv_sk T n (hv_we T n p))).1 u t o := by
  subst hu
  unfold hv_term hv_lf; rw [if_pos h, if_neg (by omega), if_neg hs]
theorem hv_rt_1 (h : ¬ (3 ≤ hv_wd T n u ∧ hv_wd T n u ≤ 10)) (hd : u < n → hv_dg T u = false) : hv_rt T n w s u t o = .inl (1 + 8 * u) := by
  unfold hv_rt; rw [if_neg h, if_neg (fun z => by rw [hd z.1] at z; exact absurd z.2 (by decide))]
theorem hv_rt_2 (h : 3 ≤ hv_wd T n u ∧ hv_wd T n u ≤ 10) : hv_rt T n w s u t o = .inr (hv_we T n u, t + 1, (w - 2, s, 10000 + (hv_wd T n u - 3)) :: o) := by
  unfold hv_rt; rw [if_pos h]
theorem hv_dg_w (hd : hv_dg T u = true) : hv_wd T n u = -1 := hv_wd_n (fun _ => by
  simp only [hv_dg, decide_eq_true_eq] at hd
  show decide _ = false
  exact decide_eq_false (fun z => by omega))
theorem hv_rt_3 (hn : u < n) (hd : hv_dg T u = true) (h4 : 4 < hv_de T n u - u) : hv_rt T n w s u t o = .inl (2 + 8 * u) := by
  unfold hv_rt; rw [if_neg (by rw [hv_dg_w hd]; omega), if_pos ⟨hn, hd⟩, if_neg (by omega)]
theorem hv_rt_4 (hn : u < n) (hd : hv_dg T u = true) (h4 : hv_de T n u - u ≤ 4) : hv_rt T n w s u t o = .inr (hv_de T n u, t + 1, (w - 2, s, hv_dv T u (hv_de T n u - u)) :: o) := by
  unfold hv_rt; rw [if_neg (by rw [hv_dg_w hd]; omega), if_pos ⟨hn, hd⟩, if_pos h4]
theorem hv_scd_b {g : Nat × Nat} : 0 ≤ hv_scd g ∧ hv_scd g ≤ 6 ∧ (hv_scd g = 0 ↔ g.2 = 0) := by
  unfold hv_scd
  by_cases z : g.2 = 0
  · rw [if_pos z]; exact ⟨by omega, by omega, by simp [z]⟩
  · rw [if_neg z]
    split <;> exact ⟨by omega, by omega, by omega⟩
theorem hv_scd_1 {g : Nat × Nat} (h : g.2 ≠ 0) : hv_scd (g.1, 1) = hv_scd g := by
  unfold hv_scd
  rw [if_neg h]
  rfl
theorem hv_cc_w {g : Nat × Nat} {l r v : Int} (h : g.2 ≠ 0) (hl : w = 3 + l) (h0 : 0 ≤ l) (hr : 0 ≤ r) (hv : v = l + 8 * hv_scd g + 64 + 128 * r) : v = hv_cc (w - 2, g.1, 10000 + r) := by
  unfold hv_cc
  dsimp only
  rw [if_neg (by omega), if_pos (by omega), hv_scd_1 h]
  omega
theorem hv_cc_n {g : Nat × Nat} {l r v : Int} (h : g.2 ≠ 0) (hl : w = 3 + l) (h0 : 0 ≤ l) (hr : r ≤ 9999) (hv : v = l + 8 * hv_scd g + 128 * r) : v = hv_cc (w - 2, g.1, r) := by
  unfold hv_cc
  dsimp only
  rw [if_neg (by omega), if_neg (by omega), hv_scd_1 h]
  omega
theorem hv_one_g (h : hv_one T n D p t o = .inr (p1, t1, o1)) (ht : t ≤ 20) : p < p1 ∧ p1 ≤ n ∧ t ≤ t1 ∧ t1 ≤ 20 ∧ 3 * o1.length + 3 + p + t ≤ 3 * o.length + p1 + t1 := by
  have g := hv_one_b _ _ _ _ _ h
  unfold hv_G at g
  dsimp only at g
  exact ⟨g.1, g.2.1, g.2.2.1, by omega, g.2.2.2.2⟩
theorem hv_LE_g (h : hv_LE T n D false false p t o = .inr (p1, t1, o1)) (ht : t ≤ 20) : p < p1 ∧ p1 ≤ n ∧ t ≤ t1 ∧ t1 ≤ 20 ∧ 3 * o1.length + 3 + p + t ≤ 3 * o.length + p1 + t1 := by
  have g := hv_LE_b h
  have wf : hv_w1 false = 0 := rfl
  rw [wf] at g
  have g4 := g.2.2.2.1
  dsimp only at g4
  exact ⟨g.1, g.2.1, g.2.2.1, by omega, by have := g.2.2.2.2.1; dsimp only at this; omega⟩
theorem hv_one_t (h1 : hv_wd T n (hv_sk T n p) ≠ 2) (h2 : ¬ (hv_sk T n p < n ∧ (T (hv_sk T n p)).toInt = 40)) : hv_one T n D p t o = hv_term T n (hv_sk T n p) t o := by
  cases D with
  | zero => unfold hv_one; rw [if_neg h1, if_neg h2]
  | succ D => unfold hv_one; rw [if_neg h1, if_neg h2]
theorem hv_one_d (h : hv_wd T n (hv_sk T n p) = 2 ∨ (hv_sk T n p < n ∧ (T (hv_sk T n p)).toInt = 40)) : hv_one T n 0 p t o = .inl (4 + 8 * hv_sk T n p) := by
  unfold hv_one
  rcases h with h | h
  · rw [if_pos h]
  · rw [if_pos h]
    split <;> rfl
theorem hv_one_n0 (h1 : hv_wd T n (hv_sk T n p) = 2) (hr : hv_one T n D (hv_sk T n p + 3) t o = .inl x) : hv_one T n (D + 1) p t o = .inl x := by
  rw [hv_one, if_pos h1, hr]; rfl
theorem hv_one_n1 (h1 : hv_wd T n (hv_sk T n p) = 2) (hr : hv_one T n D (hv_sk T n p + 3) t o = .inr (p1, t1, o1)) : hv_one T n (D + 1) p t o = .inr (p1, t1, (0, 2, 0) :: o1) := by
  rw [hv_one, if_pos h1, hr]; rfl
theorem hv_one_p0 (h1 : hv_wd T n (hv_sk T n p) ≠ 2) (h2 : hv_sk T n p < n ∧ (T (hv_sk T n p)).toInt = 40) (hr : hv_LE T n D false false (hv_sk T n p + 1) t o = .inl x) : hv_one T n (D + 1) p t o = .inl x := by
  unfold hv_LE at hr
  rw [hv_one, if_neg h1, if_pos h2, hr]; rfl
theorem hv_one_p1 (h1 : hv_wd T n (hv_sk T n p) ≠ 2) (h2 : hv_sk T n p < n ∧ (T (hv_sk T n p)).toInt = 40) (hr : hv_LE T n D false false (hv_sk T n p + 1) t o = .inr (p1, t1, o1)) (hc : hv_sk T n p1 < n ∧ (T (hv_sk T n p1)).toInt = 41) : hv_one T n (D + 1) p t o = .inr (hv_sk T n p1 + 1, t1, o1) := by
  unfold hv_LE at hr
  rw [hv_one, if_neg h1, if_pos h2, hr, hv_bd_r]
  exact if_pos hc
theorem hv_one_p2 (h1 : hv_wd T n (hv_sk T n p) ≠ 2) (h2 : hv_sk T n p < n ∧ (T (hv_sk T n p)).toInt = 40) (hr : hv_LE T n D false false (hv_sk T n p + 1) t o = .inr (p1, t1, o1)) (hc : ¬ (hv_sk T n p1 < n ∧ (T (hv_sk T n p1)).toInt = 41)) : hv_one T n (D + 1) p t o = .inl (1 + 8 * hv_sk T n p1) := by
  unfold hv_LE at hr
  rw [hv_one, if_neg h1, if_pos h2, hr, hv_bd_r]
  exact if_neg hc
theorem hv_LE_f (hr : hv_one T n D p t o = .inl x) : hv_LE T n D a b p t o = .inl x := by
  rw [hv_LE_t, hr]; rfl
theorem hv_LE_1 (hr : hv_one T n D p t o = .inr (p1, t1, o1)) (h : hv_wd T n (hv_sk T n p1) = 1) : hv_LE T n D a b p t o = hv_LE T n D true b (hv_sk T n p1 + 3) t1 (hv_j a 1 o1) := by
  rw [hv_LE_t, hr, hv_bd_r]
  exact if_pos h
theorem hv_LE_0 (hr : hv_one T n D p t o = .inr (p1, t1, o1)) (h1 : hv_wd T n (hv_sk T n p1) ≠ 1) (h : hv_wd T n (hv_sk T n p1) = 0) : hv_LE T n D a b p t o = hv_LE T n D false true (hv_sk T n p1 + 2) t1 (hv_j b 0 (hv_j a 1 o1)) := by
  rw [hv_LE_t, hr, hv_bd_r]
  exact (if_neg h1).trans (if_pos h)
theorem hv_LE_e (hr : hv_one T n D p t o = .inr (p1, t1, o1)) (h1 : hv_wd T n (hv_sk T n p1) ≠ 1) (h : hv_wd T n (hv_sk T n p1) ≠ 0) : hv_LE T n D a b p t o = .inr (hv_sk T n p1, t1, hv_j b 0 (hv_j a 1 o1)) := by
  rw [hv_LE_t, hr, hv_bd_r]
  exact (if_neg h1).trans (if_neg h)
end HVT
