/-! THE READER OF TEXTS, AS A FUNCTION OF THE TEXT: blanks, words, digits -/
def hv_sc (P : Nat → Bool) : Nat → Nat → Nat
  | 0, p => p
  | k + 1, p => if P p = true then hv_sc P k (p + 1) else p
theorem hv_sc_a {P : Nat → Bool} : ∀ (k p : Nat), p ≤ hv_sc P k p ∧ hv_sc P k p ≤ p + k ∧ (∀ j, p ≤ j → j < hv_sc P k p → P j = true) ∧ (hv_sc P k p < p + k → P (hv_sc P k p) = false) := by
  intro k
  induction k with
  | zero => intro p; exact ⟨Nat.le_refl _, Nat.le_refl _, fun j h1 h2 => absurd h2 (Nat.not_lt.mpr h1), fun h => absurd h (Nat.lt_irrefl _)⟩
  | succ k ih =>
    intro p
    by_cases e : P p = true
    · have hs : hv_sc P (k + 1) p = hv_sc P k (p + 1) := by
        show (if P p = true then hv_sc P k (p + 1) else p) = _
        rw [if_pos e]
      obtain ⟨a, b, c, d⟩ := ih (p + 1)
      rw [hs]
      refine ⟨by omega, by omega, fun j h1 h2 => ?_, fun h => d (by omega)⟩
      by_cases z : j = p
      · rw [z]; exact e
      · exact c j (by omega) h2
    · have hs : hv_sc P (k + 1) p = p := by
        show (if P p = true then hv_sc P k (p + 1) else p) = _
        rw [if_neg e]
      rw [hs]
      exact ⟨Nat.le_refl _, by omega, fun j h1 h2 => by exfalso; omega, fun _ => by simpa using e⟩
def hv_sn (P : Nat → Bool) (n p : Nat) : Nat := hv_sc P (n - p) p
section HVS
variable {P : Nat → Bool} {n p : Nat}
theorem hv_sn_s (h : p < n) (e : P p = true) : hv_sn P n p = hv_sn P n (p + 1) := by
  unfold hv_sn
  rw [show n - p = (n - (p + 1)) + 1 by omega]
  show (if P p = true then hv_sc P (n - (p + 1)) (p + 1) else p) = _
  rw [if_pos e]
theorem hv_sn_e (h : p < n → P p = false) : hv_sn P n p = p := by
  unfold hv_sn
  rcases Nat.lt_or_ge p n with z | z
  · rw [show n - p = (n - (p + 1)) + 1 by omega]
    show (if P p = true then hv_sc P (n - (p + 1)) (p + 1) else p) = _
    rw [if_neg (by rw [h z]; decide)]
  · rw [show n - p = 0 by omega]; rfl
theorem hv_sn_ge : p ≤ hv_sn P n p := (hv_sc_a _ _).1
theorem hv_sn_le (h : p ≤ n) : hv_sn P n p ≤ n := by
  have := (hv_sc_a (P := P) (n - p) p).2.1
  unfold hv_sn
  omega
theorem hv_sn_in {j : Nat} (h1 : p ≤ j) (h2 : j < hv_sn P n p) : P j = true := (hv_sc_a _ _).2.2.1 j h1 h2
theorem hv_sn_st (h : hv_sn P n p < n) : P (hv_sn P n p) = false := by
  rcases Nat.lt_or_ge p n with z | z
  · exact (hv_sc_a (P := P) (n - p) p).2.2.2 (by unfold hv_sn at h; omega)
  · rw [hv_sn_e (fun h => by omega)] at h; exfalso; omega
theorem hv_sn_id : hv_sn P n (hv_sn P n p) = hv_sn P n p := hv_sn_e (fun h => hv_sn_st h)
theorem hv_sn_lt (h : p < hv_sn P n p) : hv_sn P n p ≤ n := by
  rcases Nat.lt_or_ge p n with z | z
  · exact hv_sn_le (by omega)
  · rw [hv_sn_e (fun h => by omega)] at h; exfalso; omega
end HVS
def hv_bl (T : Nat → Int32) (q : Nat) : Bool := decide ((T q).toInt = 32)
def hv_lt (T : Nat → Int32) (q : Nat) : Bool := decide (97 ≤ (T q).toInt ∧ (T q).toInt ≤ 122)
def hv_dg (T : Nat → Int32) (q : Nat) : Bool := decide (48 ≤ (T q).toInt ∧ (T q).toInt ≤ 57)
def hv_sk (T : Nat → Int32) (n p : Nat) : Nat := hv_sn (hv_bl T) n p
def hv_we (T : Nat → Int32) (n p : Nat) : Nat := hv_sn (hv_lt T) n p
def hv_de (T : Nat → Int32) (n p : Nat) : Nat := hv_sn (hv_dg T) n p
def hv_tx (T : Nat → Int32) : Nat → Nat → List Int
  | _, 0 => []
  | p, k + 1 => (T p).toInt :: hv_tx T (p + 1) k
theorem hv_tx_len {T : Nat → Int32} : ∀ (k p : Nat), (hv_tx T p k).length = k := by
  intro k
  induction k with
  | zero => intro p; rfl
  | succ k ih => intro p; show (hv_tx T (p + 1) k).length + 1 = k + 1; rw [ih]
theorem hv_tx_get {T : Nat → Int32} : ∀ (k p i : Nat), i < k → (hv_tx T p k).getD i 0 = (T (p + i)).toInt := by
  intro k
  induction k with
  | zero => intro p i h; exfalso; omega
  | succ k ih =>
    intro p i h
    cases i with
    | zero => rfl
    | succ i =>
      show (hv_tx T (p + 1) k).getD i 0 = _
      rw [ih (p + 1) i (by omega), show p + 1 + i = p + (i + 1) by omega]
theorem hv_tx_eq {T : Nat → Int32} : ∀ (l : List Int) (p : Nat), (∀ i, i < l.length → (T (p + i)).toInt = l.getD i 0) → hv_tx T p l.length = l := by
  intro l
  induction l with
  | nil => intro p _; rfl
  | cons a l ih =>
    intro p h
    show (T p).toInt :: hv_tx T (p + 1) l.length = a :: l
    have h0 : (T p).toInt = a := h 0 (by simp)
    rw [h0, ih (p + 1) (fun i hi => by
      have := h (i + 1) (by simp; exact hi)
      rw [show p + 1 + i = p + (i + 1) by omega, this]
      rfl)]
def hv_wl : List (List Int) := [[111, 114], [97, 110, 100], [110, 111, 116],
  [111, 97, 116, 104], [100, 101, 110, 105, 101, 100], [110, 111, 116, 101], [119, 105, 116, 110, 101, 115, 115], [111, 119, 110], [111, 116, 104, 101, 114], [97, 108, 105, 107, 101], [99, 108, 97, 105, 109, 101, 100],
  [109, 111, 115, 116], [115, 112, 108, 105, 116], [119, 101, 101, 107], [107, 101, 101, 112], [108, 97, 116, 101], [103, 97, 111, 108], [108, 111, 110, 103, 101, 115, 116], [97, 103, 101], [99, 111, 115, 116], [112, 114, 111, 118, 101],
  [115, 117, 109, 109, 111, 110, 115], [104, 101, 97, 114, 105, 110, 103], [111, 114, 100, 101, 114], [115, 101, 105, 122, 117, 114, 101]]
def hv_fi (l : List Int) : List (List Int) → Int → Int
  | [], _ => -1
  | w :: ws, i => if l = w then i else hv_fi l ws (i + 1)
def hv_ix (l : List Int) : Int := hv_fi l hv_wl 0
theorem hv_fi_c {l : List Int} : ∀ (ws : List (List Int)) (i : Int), (hv_fi l ws i = -1 ∧ ∀ k : Nat, k < ws.length → l ≠ ws.getD k []) ∨ ∃ k : Nat, k < ws.length ∧ hv_fi l ws i = i + (k : Int) ∧ l = ws.getD k [] := by
  intro ws
  induction ws with
  | nil => intro i; exact Or.inl ⟨rfl, fun k hk => absurd hk (Nat.not_lt_zero _)⟩
  | cons w ws ih =>
    intro i
    by_cases e : l = w
    · refine Or.inr ⟨0, by simp, ?_, e⟩
      show (if l = w then i else hv_fi l ws (i + 1)) = i + ((0 : Nat) : Int)
      rw [if_pos e]; omega
    · have hs : hv_fi l (w :: ws) i = hv_fi l ws (i + 1) := by
        show (if l = w then i else hv_fi l ws (i + 1)) = _
        rw [if_neg e]
      rw [hs]
      rcases ih (i + 1) with ⟨h1, h2⟩ | ⟨k, h1, h2, h3⟩
      · refine Or.inl ⟨h1, fun k hk => ?_⟩
        cases k with
        | zero => exact e
        | succ k => exact h2 k (by simpa using hk)
      · exact Or.inr ⟨k + 1, by simp; exact h1, by rw [h2]; omega, h3⟩
def hv_wd (T : Nat → Int32) (n p : Nat) : Int := hv_ix (hv_tx T p (hv_we T n p - p))
theorem hv_ix_w : ∀ w : Nat, w < 25 → hv_ix (hv_wl.getD w []) = (w : Int) := by decide +kernel
theorem hv_ix_l : ∀ w : Nat, w < 25 → 2 ≤ (hv_wl.getD w []).length ∧ (hv_wl.getD w []).length ≤ 7 ∧ (1 ≤ w → 3 ≤ (hv_wl.getD w []).length) := by decide +kernel
theorem hv_ix_c (l : List Int) : (hv_ix l = -1 ∧ ∀ k : Nat, k < 25 → l ≠ hv_wl.getD k []) ∨ ∃ k : Nat, k < 25 ∧ hv_ix l = (k : Int) ∧ l = hv_wl.getD k [] := by
  rcases hv_fi_c (l := l) hv_wl 0 with z | ⟨k, a, b, c⟩
  · exact Or.inl z
  · exact Or.inr ⟨k, a, by show hv_fi l hv_wl 0 = _; rw [b]; omega, c⟩
section HVW
variable {T : Nat → Int32} {n p : Nat}
theorem hv_wd_b : -1 ≤ hv_wd T n p ∧ hv_wd T n p ≤ 24 := by
  rcases hv_ix_c (hv_tx T p (hv_we T n p - p)) with ⟨a, _⟩ | ⟨k, a, b, _⟩
  · unfold hv_wd; omega
  · unfold hv_wd; omega
theorem hv_wd_k {w : Nat} (h : hv_wd T n p = (w : Int)) : w < 25 ∧ hv_tx T p (hv_we T n p - p) = hv_wl.getD w [] ∧ hv_we T n p = p + (hv_wl.getD w []).length ∧ hv_we T n p ≤ n := by
  unfold hv_wd at h
  rcases hv_ix_c (hv_tx T p (hv_we T n p - p)) with ⟨a, _⟩ | ⟨k, a, b, c⟩
  · exfalso; omega
  · have e : k = w := by omega
    subst e
    have hl := congrArg List.length c
    rw [hv_tx_len] at hl
    have h2 := hv_ix_l k a
    have hg : p ≤ hv_we T n p := hv_sn_ge
    exact ⟨a, c, by omega, hv_sn_lt (p := p) (by show p < hv_we T n p; omega)⟩
theorem hv_wd_3 (h : 1 ≤ hv_wd T n p) : p + 3 ≤ hv_we T n p ∧ hv_we T n p ≤ n ∧ hv_we T n p ≤ p + 7 := by
  have hb := hv_wd_b (T := T) (n := n) (p := p)
  obtain ⟨a, b, c, d⟩ := hv_wd_k (T := T) (n := n) (p := p) (w := (hv_wd T n p).toNat) (by omega)
  have h2 := hv_ix_l _ a
  have h3 := h2.2.2 (by omega)
  omega
theorem hv_wd_0 (h : hv_wd T n p = 0) : hv_we T n p = p + 2 ∧ hv_we T n p ≤ n := by
  obtain ⟨a, b, c, d⟩ := hv_wd_k (T := T) (n := n) (p := p) (w := 0) (by omega)
  have h2 : (hv_wl.getD 0 []).length = 2 := rfl
  omega
theorem hv_wd_1 (h : hv_wd T n p = 1) : hv_we T n p = p + 3 ∧ hv_we T n p ≤ n := by
  obtain ⟨a, b, c, d⟩ := hv_wd_k (T := T) (n := n) (p := p) (w := 1) (by omega)
  have h2 : (hv_wl.getD 1 []).length = 3 := rfl
  omega
theorem hv_wd_2 (h : hv_wd T n p = 2) : hv_we T n p = p + 3 ∧ hv_we T n p ≤ n := by
  obtain ⟨a, b, c, d⟩ := hv_wd_k (T := T) (n := n) (p := p) (w := 2) (by omega)
  have h2 : (hv_wl.getD 2 []).length = 3 := rfl
  omega
/-- no word where no letter is -/
theorem hv_wd_n (h : p < n → hv_lt T p = false) : hv_wd T n p = -1 := by
  have e : hv_we T n p = p := hv_sn_e h
  unfold hv_wd
  rw [e, Nat.sub_self]
  rcases hv_ix_c (hv_tx T p 0) with ⟨a, _⟩ | ⟨k, a, b, c⟩
  · exact a
  · have hl := congrArg List.length c
    rw [hv_tx_len] at hl
    have h2 := hv_ix_l k a
    exfalso; omega
theorem hv_sk_ge : p ≤ hv_sk T n p := hv_sn_ge
theorem hv_sk_le (h : p ≤ n) : hv_sk T n p ≤ n := hv_sn_le h
theorem hv_sk_id : hv_sk T n (hv_sk T n p) = hv_sk T n p := hv_sn_id
theorem hv_sk_e (h : n ≤ p) : hv_sk T n p = p := hv_sn_e (fun z => by exfalso; omega)
theorem hv_de_gt (h : p < n) (e : hv_dg T p = true) : p + 1 ≤ hv_de T n p ∧ hv_de T n p ≤ n := by
  have h1 : hv_de T n p = hv_de T n (p + 1) := hv_sn_s h e
  have h2 : p + 1 ≤ hv_de T n (p + 1) := hv_sn_ge
  have h3 : hv_de T n (p + 1) ≤ n := hv_sn_le (by omega)
  omega
end HVW
def hv_dv (T : Nat → Int32) (p : Nat) : Nat → Int
  | 0 => 0
  | k + 1 => 10 * hv_dv T p k + ((T (p + k)).toInt - 48)
theorem hv_dv_b {T : Nat → Int32} {p : Nat} : ∀ k, (∀ j, p ≤ j → j < p + k → hv_dg T j = true) → 0 ≤ hv_dv T p k ∧ hv_dv T p k < 10 ^ k := by
  intro k
  induction k with
  | zero => intro _; exact ⟨Int.le_refl _, by show (0 : Int) < 10 ^ 0; decide⟩
  | succ k ih =>
    intro h
    have h1 := ih (fun j a b => h j a (by omega))
    have h2 := h (p + k) (by omega) (by omega)
    simp only [hv_dg, decide_eq_true_eq] at h2
    show 0 ≤ 10 * hv_dv T p k + ((T (p + k)).toInt - 48) ∧ 10 * hv_dv T p k + ((T (p + k)).toInt - 48) < 10 ^ (k + 1)
    rw [Int.pow_succ]
    omega
/-! THE RESULTS -/
abbrev hv_tok : Type := Int × Nat × Int
abbrev hv_R : Type := Nat ⊕ (Nat × Nat × List hv_tok)
def hv_bd {α β : Type} (r : Nat ⊕ α) (f : α → Nat ⊕ β) : Nat ⊕ β := match r with
  | .inl x => .inl x
  | .inr a => f a
theorem hv_bd_l {α β : Type} {x : Nat} {f : α → Nat ⊕ β} : hv_bd (.inl x) f = .inl x := rfl
theorem hv_bd_r {α β : Type} {a : α} {f : α → Nat ⊕ β} : hv_bd (.inr a) f = f a := rfl
theorem hv_bd_i {α β : Type} {r : Nat ⊕ α} {f : α → Nat ⊕ β} {q : β} (h : hv_bd r f = .inr q) : ∃ a, r = .inr a ∧ f a = .inr q := by
  cases r with
  | inl x => cases h
  | inr a => exact ⟨a, rfl, h⟩
/-- a SIGN: its number and how many bytes; none: 0 -/
def hv_sg (T : Nat → Int32) (n q : Nat) : Nat × Nat :=
  if q < n then
    if (T q).toInt = 61 then (2, 1)
    else if (T q).toInt = 60 then (if q + 1 < n ∧ (T (q + 1)).toInt = 61 then (1, 2) else (0, 1))
    else if (T q).toInt = 62 then (if q + 1 < n ∧ (T (q + 1)).toInt = 61 then (3, 2) else (4, 1))
    else (0, 0)
  else (0, 0)
def hv_rt (T : Nat → Int32) (n : Nat) (w : Int) (s u t : Nat) (o : List hv_tok) : hv_R :=
  if 3 ≤ hv_wd T n u ∧ hv_wd T n u ≤ 10 then .inr (hv_we T n u, t + 1, (w - 2, s, 10000 + (hv_wd T n u - 3)) :: o)
  else if u < n ∧ hv_dg T u = true then (if hv_de T n u - u ≤ 4 then .inr (hv_de T n u, t + 1, (w - 2, s, hv_dv T u (hv_de T n u - u)) :: o) else .inl (2 + 8 * u))
  else .inl (1 + 8 * u)
def hv_lf (T : Nat → Int32) (n : Nat) (w : Int) (q t : Nat) (o : List hv_tok) : hv_R :=
  if (hv_sg T n q).2 = 0 then .inl (1 + 8 * q) else hv_rt T n w (hv_sg T n q).1 (hv_sk T n (q + (hv_sg T n q).2)) t o
def hv_term (T : Nat → Int32) (n p t : Nat) (o : List hv_tok) : hv_R :=
  if 3 ≤ hv_wd T n p ∧ hv_wd T n p ≤ 10 then (if 20 ≤ t then .inl (5 + 8 * p) else hv_lf T n (hv_wd T n p) (hv_sk T n (hv_we T n p)) t o) else .inl (1 + 8 * p)
def hv_j (b : Bool) (s : Nat) (o : List hv_tok) : List hv_tok := if b = true then (0, s, 0) :: o else o
def hv_lp (T : Nat → Int32) (n : Nat) (one : Nat → Nat → List hv_tok → hv_R) : Nat → Bool → Bool → Nat → Nat → List hv_tok → hv_R
  | 0, _, _, _, _, _ => .inl 0
  | f + 1, a, w, p, t, o => hv_bd (one p t o) (fun q =>
    if hv_wd T n (hv_sk T n q.1) = 1 then hv_lp T n one f true w (hv_sk T n q.1 + 3) q.2.1 (hv_j a 1 q.2.2)
    else if hv_wd T n (hv_sk T n q.1) = 0 then hv_lp T n one f false true (hv_sk T n q.1 + 2) q.2.1 (hv_j w 0 (hv_j a 1 q.2.2))
    else .inr (hv_sk T n q.1, q.2.1, hv_j w 0 (hv_j a 1 q.2.2)))
theorem hv_lp_s {T : Nat → Int32} {n : Nat} {one : Nat → Nat → List hv_tok → hv_R} {f : Nat} {a w : Bool} {p t : Nat} {o : List hv_tok} : hv_lp T n one (f + 1) a w p t o = hv_bd (one p t o) (fun q =>
    if hv_wd T n (hv_sk T n q.1) = 1 then hv_lp T n one f true w (hv_sk T n q.1 + 3) q.2.1 (hv_j a 1 q.2.2)
    else if hv_wd T n (hv_sk T n q.1) = 0 then hv_lp T n one f false true (hv_sk T n q.1 + 2) q.2.1 (hv_j w 0 (hv_j a 1 q.2.2))
    else .inr (hv_sk T n q.1, q.2.1, hv_j w 0 (hv_j a 1 q.2.2))) := rfl
def hv_par (T : Nat → Int32) (n : Nat) (q : Nat × Nat × List hv_tok) : hv_R :=
  if hv_sk T n q.1 < n ∧ (T (hv_sk T n q.1)).toInt = 41 then .inr (hv_sk T n q.1 + 1, q.2.1, q.2.2) else .inl (1 + 8 * hv_sk T n q.1)
def hv_one (T : Nat → Int32) (n : Nat) : Nat → Nat → Nat → List hv_tok → hv_R
  | 0, p, t, o => if hv_wd T n (hv_sk T n p) = 2 then .inl (4 + 8 * hv_sk T n p) else if hv_sk T n p < n ∧ (T (hv_sk T n p)).toInt = 40 then .inl (4 + 8 * hv_sk T n p) else hv_term T n (hv_sk T n p) t o
  | D + 1, p, t, o => if hv_wd T n (hv_sk T n p) = 2 then hv_bd (hv_one T n D (hv_sk T n p + 3) t o) (fun q => .inr (q.1, q.2.1, (0, 2, 0) :: q.2.2))
    else if hv_sk T n p < n ∧ (T (hv_sk T n p)).toInt = 40 then hv_bd (hv_lp T n (hv_one T n D) (n + 2) false false (hv_sk T n p + 1) t o) (hv_par T n)
    else hv_term T n (hv_sk T n p) t o
def hv_LE (T : Nat → Int32) (n D : Nat) (a w : Bool) (p t : Nat) (o : List hv_tok) : hv_R := hv_lp T n (hv_one T n D) (n + 2) a w p t o
/-- how far it comes, and how much is written -/
def hv_G (n p t : Nat) (o : List hv_tok) (q : Nat × Nat × List hv_tok) : Prop := p < q.1 ∧ q.1 ≤ n ∧ t ≤ q.2.1 ∧ q.2.1 ≤ max t 20 ∧ 3 * q.2.2.length + 3 + p + t ≤ 3 * o.length + q.1 + q.2.1
section HVB
variable {T : Nat → Int32} {n : Nat}
theorem hv_sg_b (q : Nat) : ((hv_sg T n q).2 = 0 ∨ (1 ≤ (hv_sg T n q).2 ∧ q + (hv_sg T n q).2 ≤ n)) ∧ (hv_sg T n q).2 ≤ 2 ∧ (hv_sg T n q).1 ≤ 4 := by
  unfold hv_sg
  repeat' split
  all_goals (dsimp only; omega)
theorem hv_term_b {p t : Nat} {o : List hv_tok} {q : Nat × Nat × List hv_tok} (h : hv_term T n p t o = .inr q) : p < q.1 ∧ q.1 ≤ n ∧ q.2.1 = t + 1 ∧ t < 20 ∧ q.2.2.length = o.length + 1 ∧ p + 5 ≤ q.1 ∧ hv_G n p t o q := by
  have key : p + 5 ≤ q.1 ∧ q.1 ≤ n ∧ q.2.1 = t + 1 ∧ t < 20 ∧ q.2.2.length = o.length + 1 := by
    unfold hv_term at h
    split at h
    · next hw =>
      split at h
      · cases h
      · next ht =>
        have hl := hv_wd_3 (T := T) (n := n) (p := p) (by omega)
        have hs1 := hv_sk_ge (T := T) (n := n) (p := hv_we T n p)
        unfold hv_lf at h
        split at h
        · cases h
        · next hz =>
          have hsg := hv_sg_b (T := T) (n := n) (hv_sk T n (hv_we T n p))
          have hs2 := hv_sk_ge (T := T) (n := n) (p := hv_sk T n (hv_we T n p) + (hv_sg T n (hv_sk T n (hv_we T n p))).2)
          unfold hv_rt at h
          split at h
          · next hv =>
            have hl2 := hv_wd_3 (T := T) (n := n) (p := hv_sk T n (hv_sk T n (hv_we T n p) + (hv_sg T n (hv_sk T n (hv_we T n p))).2)) (by omega)
            have h2 := Sum.inr.inj h
            subst h2
            show p + 5 ≤ hv_we T n _ ∧ hv_we T n _ ≤ n ∧ t + 1 = t + 1 ∧ t < 20 ∧ o.length + 1 = o.length + 1
            omega
          · split at h
            · next hd =>
              have hl2 := hv_de_gt (T := T) hd.1 hd.2
              split at h
              · have h2 := Sum.inr.inj h
                subst h2
                show p + 5 ≤ hv_de T n _ ∧ hv_de T n _ ≤ n ∧ t + 1 = t + 1 ∧ t < 20 ∧ o.length + 1 = o.length + 1
                omega
              · cases h
            · cases h
    · cases h
  obtain ⟨a, b, c, d, e⟩ := key
  exact ⟨by omega, b, c, d, e, a, by unfold hv_G; omega⟩
/-- what waits to be written: an and, an or -/
def hv_w1 (a : Bool) : Nat := if a = true then 1 else 0
theorem hv_w1_j {a : Bool} {s : Nat} {o : List hv_tok} : (hv_j a s o).length = o.length + hv_w1 a := by
  unfold hv_j hv_w1
  split <;> simp
theorem hv_lp_b {one : Nat → Nat → List hv_tok → hv_R} (hone : ∀ p t o q, one p t o = .inr q → hv_G n p t o q) : ∀ (f : Nat) (a w : Bool) (p t : Nat) (o : List hv_tok) (q : Nat × Nat × List hv_tok), hv_lp T n one f a w p t o = .inr q → p < q.1 ∧ q.1 ≤ n ∧ t ≤ q.2.1 ∧ q.2.1 ≤ max t 20 ∧ 3 * q.2.2.length + 3 + p + t ≤ 3 * o.length + 3 * hv_w1 a + 3 * hv_w1 w + q.1 + q.2.1 ∧ hv_sk T n q.1 = q.1 ∧ hv_wd T n q.1 ≠ 0 ∧ hv_wd T n q.1 ≠ 1 := by
  intro f
  induction f with
  | zero => intro a w p t o q h; cases h
  | succ f ih =>
    intro a w p t o q h
    rw [hv_lp_s] at h
    obtain ⟨r, h1, h2⟩ := hv_bd_i h
    obtain ⟨g1, g2, g3, g4, g5⟩ := hone p t o r h1
    have hs := hv_sk_ge (T := T) (n := n) (p := r.1)
    have hsn := hv_sk_le (T := T) (n := n) (p := r.1) g2
    have j1 := hv_w1_j (a := a) (s := 1) (o := r.2.2)
    have j2 := hv_w1_j (a := w) (s := 0) (o := hv_j a 1 r.2.2)
    have wf : hv_w1 false = 0 := rfl
    have wt : hv_w1 true = 1 := rfl
    split at h2
    · next e =>
      have hl := hv_wd_1 e
      have := ih _ _ _ _ _ _ h2
      refine ⟨by omega, this.2.1, by omega, by omega, ?_, this.2.2.2.2.2⟩
      have h5 := this.2.2.2.2.1
      rw [j1, wt] at h5
      omega
    · next e1 =>
      split at h2
      · next e =>
        have hl := hv_wd_0 e
        have := ih _ _ _ _ _ _ h2
        refine ⟨by omega, this.2.1, by omega, by omega, ?_, this.2.2.2.2.2⟩
        have h5 := this.2.2.2.2.1
        rw [j2, j1, wt, wf] at h5
        omega
      · next e0 =>
        cases h2
        refine ⟨by show p < hv_sk T n r.1; omega, hsn, g3, g4, ?_, hv_sk_id, e0, e1⟩
        show 3 * (hv_j w 0 (hv_j a 1 r.2.2)).length + 3 + p + t ≤ 3 * o.length + 3 * hv_w1 a + 3 * hv_w1 w + hv_sk T n r.1 + r.2.1
        rw [j2, j1]
        omega
theorem hv_one_b : ∀ (D p t : Nat) (o : List hv_tok) (q : Nat × Nat × List hv_tok), hv_one T n D p t o = .inr q → hv_G n p t o q := by
  intro D
  induction D with
  | zero =>
    intro p t o q h
    have hs := hv_sk_ge (T := T) (n := n) (p := p)
    unfold hv_one at h
    split at h
    · cases h
    · split at h
      · cases h
      · obtain ⟨a, b, c, d, e, f, g⟩ := hv_term_b h
        unfold hv_G at g ⊢
        omega
  | succ D ih =>
    intro p t o q h
    have hs := hv_sk_ge (T := T) (n := n) (p := p)
    unfold hv_one at h
    split at h
    · next e =>
      obtain ⟨r, h1, h2⟩ := hv_bd_i h
      have g := ih _ _ _ _ h1
      have h3 := Sum.inr.inj h2
      subst h3
      unfold hv_G at g ⊢
      simp only [List.length_cons]
      omega
    · split at h
      · obtain ⟨r, h1, h2⟩ := hv_bd_i h
        have g := hv_lp_b ih _ _ _ _ _ _ _ h1
        have wf : hv_w1 false = 0 := rfl
        rw [wf] at g
        unfold hv_par at h2
        split at h2
        · next hc =>
          cases h2
          have hs2 := hv_sk_ge (T := T) (n := n) (p := r.1)
          unfold hv_G
          show _ ∧ hv_sk T n r.1 + 1 ≤ n ∧ t ≤ r.2.1 ∧ r.2.1 ≤ max t 20 ∧ 3 * r.2.2.length + 3 + p + t ≤ 3 * o.length + (hv_sk T n r.1 + 1) + r.2.1
          refine ⟨by show p < hv_sk T n r.1 + 1; omega, by omega, by omega, by omega, by omega⟩
        · cases h2
      · obtain ⟨a, b, c, d, e, f, g⟩ := hv_term_b h
        unfold hv_G at g ⊢
        omega
theorem hv_LE_b {D : Nat} {a w : Bool} {p t : Nat} {o : List hv_tok} {q : Nat × Nat × List hv_tok} (h : hv_LE T n D a w p t o = .inr q) : p < q.1 ∧ q.1 ≤ n ∧ t ≤ q.2.1 ∧ q.2.1 ≤ max t 20 ∧ 3 * q.2.2.length + 3 + p + t ≤ 3 * o.length + 3 * hv_w1 a + 3 * hv_w1 w + q.1 + q.2.1 ∧ hv_sk T n q.1 = q.1 ∧ hv_wd T n q.1 ≠ 0 ∧ hv_wd T n q.1 ≠ 1 := hv_lp_b (hv_one_b D) _ _ _ _ _ _ _ h
theorem hv_lp_f {one : Nat → Nat → List hv_tok → hv_R} (hone : ∀ p t o q, one p t o = .inr q → hv_G n p t o q) : ∀ (f f' : Nat) (a w : Bool) (p t : Nat) (o : List hv_tok), n + 1 < f + p → 0 < f → n + 1 < f' + p → 0 < f' → hv_lp T n one f a w p t o = hv_lp T n one f' a w p t o := by
  intro f
  induction f with
  | zero => intro f' a w p t o _ h; exfalso; omega
  | succ f ih =>
    intro f' a w p t o h1 h2 h3 h4
    obtain ⟨g, rfl⟩ : ∃ g, f' = g + 1 := ⟨f' - 1, by omega⟩
    rw [hv_lp_s, hv_lp_s]
    cases hr : one p t o with
    | inl x => rfl
    | inr r =>
      obtain ⟨g1, g2, g3, g4, g5⟩ := hone p t o r hr
      have hs := hv_sk_ge (T := T) (n := n) (p := r.1)
      rw [hv_bd_r, hv_bd_r]
      by_cases e : hv_wd T n (hv_sk T n r.1) = 1
      · have hl := hv_wd_1 e
        rw [if_pos e, if_pos e]
        exact ih _ _ _ _ _ _ (by omega) (by omega) (by omega) (by omega)
      · rw [if_neg e, if_neg e]
        by_cases e0 : hv_wd T n (hv_sk T n r.1) = 0
        · have hl := hv_wd_0 e0
          rw [if_pos e0, if_pos e0]
          exact ih _ _ _ _ _ _ (by omega) (by omega) (by omega) (by omega)
        · rw [if_neg e0, if_neg e0]
/-- a turn of the loop -/
theorem hv_LE_t {D : Nat} {a w : Bool} {p t : Nat} {o : List hv_tok} : hv_LE T n D a w p t o = hv_bd (hv_one T n D p t o) (fun q =>
    if hv_wd T n (hv_sk T n q.1) = 1 then hv_LE T n D true w (hv_sk T n q.1 + 3) q.2.1 (hv_j a 1 q.2.2)
    else if hv_wd T n (hv_sk T n q.1) = 0 then hv_LE T n D false true (hv_sk T n q.1 + 2) q.2.1 (hv_j w 0 (hv_j a 1 q.2.2))
    else .inr (hv_sk T n q.1, q.2.1, hv_j w 0 (hv_j a 1 q.2.2))) := by
  show hv_lp T n (hv_one T n D) ((n + 1) + 1) a w p t o = _
  rw [hv_lp_s]
  cases hr : hv_one T n D p t o with
  | inl x => rfl
  | inr r =>
    have hs := hv_sk_ge (T := T) (n := n) (p := r.1)
    rw [hv_bd_r, hv_bd_r]
    by_cases e : hv_wd T n (hv_sk T n r.1) = 1
    · rw [if_pos e, if_pos e]
      exact hv_lp_f (hv_one_b D) _ _ _ _ _ _ _ (by omega) (by omega) (by omega) (by omega)
    · rw [if_neg e, if_neg e]
      by_cases e0 : hv_wd T n (hv_sk T n r.1) = 0
      · rw [if_pos e0, if_pos e0]
        exact hv_lp_f (hv_one_b D) _ _ _ _ _ _ _ (by omega) (by omega) (by omega) (by omega)
      · rw [if_neg e0, if_neg e0]
end HVB
