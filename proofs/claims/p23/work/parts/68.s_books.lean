/-! BOOKS: sums, order by days, twins -/
def hy_ln (o w d : Nat → Int32) (p q u : Int32) (x : Nat) : Bool := decide (o x = p) && (decide (w x = q) && decide ((d x).toInt ≤ u.toInt))
theorem hy_ln_t {o w d : Nat → Int32} {p q u : Int32} {x : Nat} : hy_ln o w d p q u x = true ↔ o x = p ∧ w x = q ∧ (d x).toInt ≤ u.toInt := by
  simp [hy_ln]
theorem hy_ln_f {o w d : Nat → Int32} {p q u : Int32} {x : Nat} (h : ¬ (o x = p ∧ w x = q ∧ (d x).toInt ≤ u.toInt)) : hy_ln o w d p q u x = false := by
  cases e : hy_ln o w d p q u x with
  | false => rfl
  | true => exact absurd (hy_ln_t.mp e) h
def hy_bt (k s : Nat → Int32) (i : Nat) : Int32 := if (k i).toInt = 0 ∨ (k i).toInt = 3 then s i else - s i
def hy_bs (o w d k s : Nat → Int32) (p q u : Int32) : Nat → Int32
  | 0 => 0
  | i + 1 => if hy_ln o w d p q u i then hy_bs o w d k s p q u i + hy_bt k s i else hy_bs o w d k s p q u i
theorem hy_bs_n {o w d k s : Nat → Int32} {p q u v i j : Int32} (h : v.toInt = (hy_bs o w d k s p q u i.toInt.toNat).toInt) (h0 : 0 ≤ i.toInt) (hl : hy_ln o w d p q u i.toNatClampNeg = false) (e : j.toInt = i.toInt + 1) : v.toInt = (hy_bs o w d k s p q u j.toInt.toNat).toInt := by
  have : j.toInt.toNat = i.toInt.toNat + 1 := by omega
  rw [this, h]
  show _ = (if hy_ln o w d p q u i.toNatClampNeg then _ else _ : Int32).toInt
  rw [hl]
  rfl
theorem hy_bs_y {o w d k s : Nat → Int32} {p q u v y t i j : Int32} (h : v.toInt = (hy_bs o w d k s p q u i.toInt.toNat).toInt) (h0 : 0 ≤ i.toInt) (hl : hy_ln o w d p q u i.toNatClampNeg = true) (hy : y = v + t) (ht : t = hy_bt k s i.toNatClampNeg) (e : j.toInt = i.toInt + 1) : y.toInt = (hy_bs o w d k s p q u j.toInt.toNat).toInt := by
  have e1 : j.toInt.toNat = i.toInt.toNat + 1 := by omega
  have e2 : v = hy_bs o w d k s p q u i.toInt.toNat := Int32.toInt_inj.mp h
  rw [e1, hy, ht, e2]
  show _ = (if hy_ln o w d p q u i.toNatClampNeg then _ else _ : Int32).toInt
  rw [hl]
  rfl
theorem hy_ln_c {n : Nat} {o w d o2 w2 d2 : Nat → Int32} {p q u : Int32} {x : Nat} (h : x < n) (eo : hx_eqN n o o2) (ew : hx_eqN n w w2) (ed : hx_eqN n d d2) : hy_ln o w d p q u x = hy_ln o2 w2 d2 p q u x := by
  unfold hy_ln
  rw [eo x h, ew x h, ed x h]
theorem hy_bs_c {n : Nat} {o w d k s o2 w2 d2 k2 s2 : Nat → Int32} {p q u : Int32} (eo : hx_eqN n o o2) (ew : hx_eqN n w w2) (ed : hx_eqN n d d2) (ek : hx_eqN n k k2) (es : hx_eqN n s s2) : ∀ i, i ≤ n → hy_bs o w d k s p q u i = hy_bs o2 w2 d2 k2 s2 p q u i
  | 0, _ => rfl
  | i + 1, h => by
    have ih := hy_bs_c (p := p) (q := q) (u := u) eo ew ed ek es i (by omega)
    show (if hy_ln o w d p q u i then hy_bs o w d k s p q u i + hy_bt k s i else hy_bs o w d k s p q u i) = (if hy_ln o2 w2 d2 p q u i then hy_bs o2 w2 d2 k2 s2 p q u i + hy_bt k2 s2 i else hy_bs o2 w2 d2 k2 s2 p q u i)
    unfold hy_bt
    rw [hy_ln_c (by omega) eo ew ed, ih, ek i (by omega), es i (by omega)]
/-- DISORDER: how many, and the DAY ahead -/
def hy_dr (o d : Nat → Int32) (p : Int32) (a : Int) : Nat → Int × Int
  | 0 => (0, a)
  | i + 1 => if o i = p then ((hy_dr o d p a i).1 + (if (d i).toInt < (hy_dr o d p a i).2 then 1 else 0), (d i).toInt) else hy_dr o d p a i
theorem hy_dr_n {o d : Nat → Int32} {p i j : Int32} {a m v : Int} (h : (m, v) = hy_dr o d p a i.toInt.toNat) (h0 : 0 ≤ i.toInt) (hl : ¬ o i.toNatClampNeg = p) (e : j.toInt = i.toInt + 1) : (m, v) = hy_dr o d p a j.toInt.toNat := by
  have e1 : j.toInt.toNat = i.toInt.toNat + 1 := by omega
  rw [e1, h]
  show _ = (if o i.toNatClampNeg = p then _ else _)
  rw [if_neg hl]
theorem hy_dr_y {o d : Nat → Int32} {p i j x : Int32} {a m v m1 : Int} (h : (m, v) = hy_dr o d p a i.toInt.toNat) (h0 : 0 ≤ i.toInt) (hl : o i.toNatClampNeg = p) (hx : x = d i.toNatClampNeg) (hm : m1 = m + (if x.toInt < v then 1 else 0)) (e : j.toInt = i.toInt + 1) : (m1, x.toInt) = hy_dr o d p a j.toInt.toNat := by
  have e1 : j.toInt.toNat = i.toInt.toNat + 1 := by omega
  have e2 : i.toInt.toNat = i.toNatClampNeg := rfl
  rw [e1]
  show _ = (if o i.toInt.toNat = p then _ else _)
  rw [e2, if_pos hl, ← e2, ← h, hm, hx]
  rfl
theorem hy_dr_c {n : Nat} {o d o2 d2 : Nat → Int32} {p : Int32} (eo : hx_eqN n o o2) (ed : hx_eqN n d d2) (hd : ∀ x, x < n → 0 ≤ (d x).toInt) : ∀ i, i ≤ n → (hy_dr o d p 0 i).1 = (hy_dr o2 d2 p (-1) i).1 ∧ ((hy_dr o d p 0 i).2 = (hy_dr o2 d2 p (-1) i).2 ∨ ((hy_dr o d p 0 i).2 = 0 ∧ (hy_dr o2 d2 p (-1) i).2 = -1))
  | 0, _ => ⟨rfl, Or.inr ⟨rfl, rfl⟩⟩
  | i + 1, h => by
    have ih := hy_dr_c (p := p) eo ed hd i (by omega)
    have h1 := hd i (by omega)
    simp only [hy_dr]
    rw [← eo i (by omega), ← ed i (by omega)]
    by_cases z : o i = p
    · rw [if_pos z, if_pos z]
      refine ⟨?_, Or.inl rfl⟩
      show _ + _ = _ + _
      rw [ih.1]
      rcases ih.2 with w | ⟨w1, w2⟩
      · rw [w]
      · rw [w1, w2, if_neg (by omega), if_neg (by omega)]
    · rw [if_neg z, if_neg z]
      exact ih
/-- how many below n -/
def hy_cnt (p : Nat → Bool) : Nat → Nat
  | 0 => 0
  | n + 1 => hy_cnt p n + (if p n then 1 else 0)
theorem hy_cnt_le {p q : Nat → Bool} : ∀ n, (∀ y, y < n → p y = true → q y = true) → hy_cnt p n ≤ hy_cnt q n
  | 0, _ => Nat.le_refl _
  | n + 1, h => by
    have ih := hy_cnt_le n (fun y hy => h y (by omega))
    have h1 := h n (by omega)
    simp only [hy_cnt]
    cases hp : p n
    · simp; omega
    · rw [h1 hp]; simp; omega
theorem hy_cnt_lt {p q : Nat → Bool} : ∀ n, (∀ y, y < n → p y = true → q y = true) → (∃ x, x < n ∧ q x = true ∧ p x = false) → hy_cnt p n < hy_cnt q n
  | 0, _, ⟨x, hx, _⟩ => by omega
  | n + 1, h, ⟨x, hx, h1, h2⟩ => by
    simp only [hy_cnt]
    by_cases e : x = n
    · subst e
      have := hy_cnt_le (p := p) (q := q) x (fun y hy => h y (by omega))
      rw [h1, h2]; simp; omega
    · have ih := hy_cnt_lt n (fun y hy => h y (by omega)) ⟨x, by omega, h1, h2⟩
      have h3 := h n (by omega)
      cases hp : p n
      · simp; omega
      · rw [h3 hp]; simp; omega
theorem hy_cnt_c {p q : Nat → Bool} : ∀ n, (∀ y, y < n → p y = q y) → hy_cnt p n = hy_cnt q n
  | 0, _ => rfl
  | n + 1, h => by simp only [hy_cnt]; rw [hy_cnt_c n (fun y hy => h y (by omega)), h n (by omega)]
theorem hy_cnt_n {p : Nat → Bool} : ∀ n, hy_cnt p n ≤ n
  | 0 => Nat.le_refl _
  | n + 1 => by have := hy_cnt_n (p := p) n; simp only [hy_cnt]; split <;> omega
/-- an earlier DAY, or the same and told earlier -/
def hy_kl (d : Nat → Int32) (x y : Nat) : Bool := decide ((d x).toInt < (d y).toInt ∨ ((d x).toInt = (d y).toInt ∧ x < y))
theorem hy_kl_t {d : Nat → Int32} {x y : Nat} : hy_kl d x y = true ↔ ((d x).toInt < (d y).toInt ∨ ((d x).toInt = (d y).toInt ∧ x < y)) := by simp [hy_kl]
def hy_rk (d : Nat → Int32) (n x : Nat) : Nat := hy_cnt (fun y => hy_kl d y x) n
def hy_pl (d : Nat → Int32) (n : Nat) (D : Int) : Nat := hy_cnt (fun y => decide ((d y).toInt ≤ D)) n
theorem hy_rk_lt {d : Nat → Int32} {n x : Nat} {D : Int} (hx : x < n) (h : (d x).toInt ≤ D) : hy_rk d n x < hy_pl d n D := by
  refine hy_cnt_lt n (fun y hy hk => ?_) ⟨x, hx, by simpa using h, ?_⟩
  · have := hy_kl_t.mp hk; simp; omega
  · cases e : hy_kl d x x
    · rfl
    · have := hy_kl_t.mp e; omega
theorem hy_rk_ge {d : Nat → Int32} {n x : Nat} {D : Int} (h : D < (d x).toInt) : hy_pl d n D ≤ hy_rk d n x := by
  refine hy_cnt_le n (fun y hy hk => hy_kl_t.mpr ?_)
  have : (d y).toInt ≤ D := by simpa using hk
  omega
theorem hy_rk_k {d : Nat → Int32} {n x y : Nat} (hx : x < n) (hk : hy_kl d x y = true) : hy_rk d n x < hy_rk d n y := by
  refine hy_cnt_lt n (fun z hz h => ?_) ⟨x, hx, hk, ?_⟩
  · have a := hy_kl_t.mp h; have b := hy_kl_t.mp hk; exact hy_kl_t.mpr (by omega)
  · cases e : hy_kl d x x
    · rfl
    · have := hy_kl_t.mp e; omega
/-- the order by DAYS -/
def hy_BD (d b : Nat → Int32) (n : Nat) : Prop := (∀ x, x < n → (b (hy_rk d n x)).toInt = x) ∧ ∀ j, j < n → ∃ x : Nat, x < n ∧ (b j).toInt = x ∧ hy_rk d n x = j
theorem hy_BD_0 {d b : Nat → Int32} : hy_BD d b 0 := ⟨fun x h => by omega, fun x h => by omega⟩
theorem hy_rk_c {d d2 : Nat → Int32} {n x : Nat} (hx : x < n) (e : hx_eqN n d d2) : hy_rk d n x = hy_rk d2 n x := hy_cnt_c n (fun y hy => by unfold hy_kl; rw [e y hy, e x hx])
theorem hy_BD_c {d d2 b : Nat → Int32} {n : Nat} (e : hx_eqN n d d2) (h : hy_BD d b n) : hy_BD d2 b n := by
  refine ⟨fun x hx => by rw [← hy_rk_c hx e]; exact h.1 x hx, fun j hj => ?_⟩
  obtain ⟨x, hx, e1, e2⟩ := h.2 j hj
  exact ⟨x, hx, e1, by rw [← hy_rk_c hx e]; exact e2⟩
/-- a LINE put in: so far as the place i -/
def hy_bi (d b b1 : Nat → Int32) (n : Nat) (i : Int) (D : Int) : Prop := (∀ k : Nat, (k : Int) < i → b1 k = b k) ∧ (∀ k : Nat, i < (k : Int) → k ≤ n → b1 k = b (k - 1)) ∧ (∀ k : Nat, i ≤ (k : Int) → k < n → D < (d (b k).toInt.toNat).toInt)
theorem hy_bi_0 {d b : Nat → Int32} {n : Nat} {i D : Int} (h : i = n) : hy_bi d b b n i D := ⟨fun _ _ => rfl, fun k h1 h2 => by exfalso; omega, fun k h1 h2 => by exfalso; omega⟩
theorem hy_bi_s {d b b1 b2 : Nat → Int32} {n : Nat} {i D : Int} {y j z x : Int32} (h : hy_bi d b b1 n i D) (hi : 0 < i) (hn : i ≤ n) (hy : y.toInt = i - 1) (hz : z = b1 y.toNatClampNeg) (hx : x = d z.toNatClampNeg) (hv : D < x.toInt) (hj : j.toInt = i) (e : b2 = hx_up b1 j.toNatClampNeg z) : hy_bi d b b2 n y.toInt D := by
  obtain ⟨a, c, f⟩ := h
  have cj : ((j.toNatClampNeg : Nat) : Int) = i := by unfold Int32.toNatClampNeg; omega
  have cy : ((y.toNatClampNeg : Nat) : Int) = i - 1 := by unfold Int32.toNatClampNeg; omega
  have gy : b1 y.toNatClampNeg = b y.toNatClampNeg := a _ (by omega)
  subst e
  refine ⟨fun k hk => ?_, fun k h1 h2 => ?_, fun k h1 h2 => ?_⟩
  · rw [hx_up_ne (by omega)]; exact a k (by omega)
  · by_cases w : k = j.toNatClampNeg
    · rw [w, hx_up_at, hz, gy]; congr 1; omega
    · rw [hx_up_ne w]; exact c k (by omega) h2
  · by_cases w : k = y.toNatClampNeg
    · rw [w, ← gy, ← hz]
      have : d z.toInt.toNat = x := hx.symm
      rw [this]; exact hv
    · exact f k (by omega) h2
theorem hy_BD_in {d b b1 b2 d1 : Nat → Int32} {n : Nat} {i D : Int} {j v nn : Int32} (hB : hy_BD d b n) (hd : ∀ x, x < n → d1 x = d x) (hv : (d1 n).toInt = D) (h : hy_bi d b b1 n i D) (h0 : 0 ≤ i) (hn : i ≤ n) (ho : i = 0 ∨ (d (b (i - 1).toNat).toInt.toNat).toInt ≤ D) (hj : j.toInt = i) (hnn : nn.toInt = n) (e : b2 = hx_up b1 j.toNatClampNeg nn) : hy_BD d1 b2 (n + 1) := by
  obtain ⟨a, c, f⟩ := h
  have cj : ((j.toNatClampNeg : Nat) : Int) = i := by unfold Int32.toNatClampNeg; omega
  have hP : i = hy_pl d n D := by
    have hPn : hy_pl d n D ≤ n := hy_cnt_n n
    rcases (show i < hy_pl d n D ∨ i = hy_pl d n D ∨ (hy_pl d n D : Int) < i by omega) with z | z | z
    · exfalso
      obtain ⟨x, hx, e1, e2⟩ := hB.2 i.toNat (by omega)
      have h1 := f i.toNat (by omega) (by omega)
      rw [e1] at h1
      have := hy_rk_ge (n := n) (x := x) (D := D) (by simpa using h1)
      omega
    · exact z
    · exfalso
      rcases ho with w | w
      · omega
      · obtain ⟨x, hx, e1, e2⟩ := hB.2 (i - 1).toNat (by omega)
        rw [e1] at w
        have := hy_rk_lt (n := n) hx (show (d x).toInt ≤ D by simpa using w)
        omega
  have kx : ∀ x, x < n → hy_rk d1 (n + 1) x = hy_rk d n x + (if D < (d x).toInt then 1 else 0) := by
    intro x hx
    show hy_cnt (fun y => hy_kl d1 y x) n + (if hy_kl d1 n x then 1 else 0) = _
    have e1 : hy_cnt (fun y => hy_kl d1 y x) n = hy_rk d n x := hy_cnt_c n (fun y hy => by unfold hy_kl; rw [hd y hy, hd x hx])
    rw [e1]
    congr 1
    by_cases z : D < (d x).toInt
    · rw [if_pos z, if_pos (hy_kl_t.mpr (by rw [hv, hd x hx]; omega))]
    · rw [if_neg z, if_neg (fun w => by have := hy_kl_t.mp w; rw [hv, hd x hx] at this; omega)]
  have kn : hy_rk d1 (n + 1) n = hy_pl d n D := by
    show hy_cnt (fun y => hy_kl d1 y n) n + (if hy_kl d1 n n then 1 else 0) = _
    have e0 : ¬ hy_kl d1 n n = true := fun w => by have := hy_kl_t.mp w; omega
    rw [if_neg e0]
    refine hy_cnt_c n (fun y hy => ?_)
    unfold hy_kl
    rw [hd y hy, hv]
    by_cases z : (d y).toInt ≤ D
    · rw [decide_eq_true z, decide_eq_true (by omega)]
    · rw [decide_eq_false z, decide_eq_false (by omega)]
  subst e
  refine ⟨fun x hx => ?_, fun k hk => ?_⟩
  · by_cases z : x = n
    · subst z
      rw [kn, show hy_pl d x D = j.toNatClampNeg by omega, hx_up_at, hnn]
    · have hxn : x < n := by omega
      rw [kx x hxn]
      by_cases w : D < (d x).toInt
      · have := hy_rk_ge (n := n) w
        have hr : hy_rk d n x < n := by
          have := hy_cnt_lt (p := fun y => hy_kl d y x) (q := fun _ => true) n (fun _ _ _ => rfl) ⟨x, hxn, rfl, by
            cases e9 : hy_kl d x x
            · rfl
            · have := hy_kl_t.mp e9; omega⟩
          exact Nat.lt_of_lt_of_le this (hy_cnt_n n)
        rw [if_pos w, hx_up_ne (by omega), c _ (by omega) (by omega)]
        exact hB.1 x hxn
      · have := hy_rk_lt hxn (show (d x).toInt ≤ D by omega)
        rw [if_neg w, Nat.add_zero, hx_up_ne (by omega), a _ (by omega)]
        exact hB.1 x hxn
  · rcases (show (k : Int) < i ∨ (k : Int) = i ∨ i < (k : Int) by omega) with z | z | z
    · obtain ⟨x, hx, e1, e2⟩ := hB.2 k (by omega)
      refine ⟨x, by omega, by rw [hx_up_ne (by omega), a k z]; exact e1, ?_⟩
      rw [kx x hx, if_neg (fun w => by have := hy_rk_ge (n := n) w; omega)]
      omega
    · exact ⟨n, by omega, by rw [show k = j.toNatClampNeg by omega, hx_up_at, hnn], by rw [kn]; omega⟩
    · obtain ⟨x, hx, e1, e2⟩ := hB.2 (k - 1) (by omega)
      refine ⟨x, by omega, by rw [hx_up_ne (by omega), c k z (by omega)]; exact e1, ?_⟩
      rw [kx x hx, if_pos (Int.not_le.mp (fun w => by have := hy_rk_lt hx w; omega))]
      omega
/-! twins -/
def hy_tw (d k s : Nat → Int32) (x y : Nat) : Bool := decide (k x ^^^ 1 = k y) && (decide (s x = s y) && decide (-3 ≤ (d x).toInt - (d y).toInt ∧ (d x).toInt - (d y).toInt ≤ 3))
theorem hy_tw_t {d k s : Nat → Int32} {x y : Nat} : hy_tw d k s x y = true ↔ k x ^^^ 1 = k y ∧ s x = s y ∧ -3 ≤ (d x).toInt - (d y).toInt ∧ (d x).toInt - (d y).toInt ≤ 3 := by simp [hy_tw]
def hy_tp (o w d k s T : Nat → Int32) (p q u : Int32) (x y : Nat) : Bool := decide ((T y).toInt = 0) && (hy_ln o w d q p u y && hy_tw d k s x y)
/-- the earliest of those -/
def hy_am (pr : Nat → Bool) (d : Nat → Int32) : Nat → Int
  | 0 => -1
  | b + 1 => if pr b then (if hy_am pr d b < 0 ∨ (d b).toInt < (d (hy_am pr d b).toNat).toInt then (b : Int) else hy_am pr d b) else hy_am pr d b
theorem hy_am_p {pr : Nat → Bool} {d : Nat → Int32} : ∀ n, (hy_am pr d n = -1 ∧ ∀ y, y < n → pr y = false) ∨ ∃ x : Nat, x < n ∧ hy_am pr d n = x ∧ pr x = true ∧ ∀ y, y < n → pr y = true → x = y ∨ hy_kl d x y = true
  | 0 => Or.inl ⟨rfl, fun y h => by omega⟩
  | n + 1 => by
    simp only [hy_am]
    cases hp : pr n
    · rw [if_neg (by simp)]
      rcases hy_am_p (pr := pr) (d := d) n with ⟨a, b⟩ | ⟨x, hx, a, b, c⟩
      · refine Or.inl ⟨a, fun y hy => ?_⟩
        by_cases z : y = n
        · rw [z]; exact hp
        · exact b y (by omega)
      · refine Or.inr ⟨x, by omega, a, b, fun y hy hpy => ?_⟩
        by_cases z : y = n
        · rw [z, hp] at hpy; cases hpy
        · exact c y (by omega) hpy
    · rw [if_pos rfl]
      rcases hy_am_p (pr := pr) (d := d) n with ⟨a, b⟩ | ⟨x, hx, a, b, c⟩
      · rw [if_pos (Or.inl (by omega))]
        refine Or.inr ⟨n, by omega, rfl, hp, fun y hy hpy => ?_⟩
        by_cases z : y = n
        · exact Or.inl z.symm
        · rw [b y (by omega)] at hpy; cases hpy
      · rw [a]
        by_cases z : (d n).toInt < (d x).toInt
        · rw [if_pos (Or.inr (by simpa using z))]
          refine Or.inr ⟨n, by omega, rfl, hp, fun y hy hpy => ?_⟩
          by_cases w : y = n
          · exact Or.inl w.symm
          · refine Or.inr (hy_kl_t.mpr ?_)
            rcases c y (by omega) hpy with e | e
            · subst e; omega
            · have := hy_kl_t.mp e; omega
        · rw [if_neg (by simp; omega)]
          refine Or.inr ⟨x, by omega, rfl, b, fun y hy hpy => ?_⟩
          by_cases w : y = n
          · subst w; exact Or.inr (hy_kl_t.mpr (by omega))
          · exact c y (by omega) hpy
/-- the first along the order by DAYS is the earliest -/
theorem hy_am_no {pr : Nat → Bool} {d b : Nat → Int32} {n : Nat} (hB : hy_BD d b n) (h : ∀ j, j < n → pr (b j).toInt.toNat = false) : hy_am pr d n = -1 := by
  rcases hy_am_p (pr := pr) (d := d) n with ⟨a, _⟩ | ⟨x, hx, a, e, c⟩
  · exact a
  · exfalso
    have hr : hy_rk d n x < n := by
      have := hy_cnt_lt (p := fun y => hy_kl d y x) (q := fun _ => true) n (fun _ _ _ => rfl) ⟨x, hx, rfl, by
        cases e9 : hy_kl d x x
        · rfl
        · have := hy_kl_t.mp e9; omega⟩
      exact Nat.lt_of_lt_of_le this (hy_cnt_n n)
    have h1 := h _ hr
    rw [hB.1 x hx] at h1
    simp only [Int.toNat_natCast] at h1
    rw [h1] at e; cases e
theorem hy_am_yes {pr : Nat → Bool} {d b : Nat → Int32} {n i : Nat} (hB : hy_BD d b n) (hi : i < n) (h : ∀ j, j < i → pr (b j).toInt.toNat = false) (hp : pr (b i).toInt.toNat = true) : hy_am pr d n = (b i).toInt := by
  obtain ⟨m, hm, em, rm⟩ := hB.2 i hi
  rw [em] at hp
  simp only [Int.toNat_natCast] at hp
  rcases hy_am_p (pr := pr) (d := d) n with ⟨a, c⟩ | ⟨x, hx, a, e, c⟩
  · rw [c m hm] at hp; cases hp
  · rw [a, em]
    rcases c m hm hp with z | z
    · rw [z]
    · exfalso
      have hk := hy_rk_k hx z
      rw [rm] at hk
      have h1 := h _ hk
      rw [hB.1 x hx] at h1
      simp only [Int.toNat_natCast] at h1
      rw [h1] at e; cases e
/-- what is taken, and how many, behind so many of the order -/
def hy_G (o w d k s b : Nat → Int32) (p q u : Int32) (n : Nat) : Nat → (Nat → Int32) × Int
  | 0 => (fun _ => 0, 0)
  | i + 1 => if hy_ln o w d p q u (b i).toInt.toNat then
      (if hy_am (hy_tp o w d k s (hy_G o w d k s b p q u n i).1 p q u (b i).toInt.toNat) d n < 0 then hy_G o w d k s b p q u n i
       else (hx_up (hy_G o w d k s b p q u n i).1 (hy_am (hy_tp o w d k s (hy_G o w d k s b p q u n i).1 p q u (b i).toInt.toNat) d n).toNat 1, (hy_G o w d k s b p q u n i).2 + 1))
      else hy_G o w d k s b p q u n i
theorem hy_am_c {pr pr2 : Nat → Bool} {d d2 : Nat → Int32} {N : Nat} (ed : hx_eqN N d d2) : ∀ n, n ≤ N → (∀ y, y < n → pr y = pr2 y) → hy_am pr d n = hy_am pr2 d2 n
  | 0, _, _ => rfl
  | n + 1, hn, h => by
    have ih := hy_am_c (pr := pr) (pr2 := pr2) ed n (by omega) (fun y hy => h y (by omega))
    simp only [hy_am]
    rw [h n (by omega), ih, ed n (by omega)]
    rcases hy_am_p (pr := pr2) (d := d2) n with ⟨a, _⟩ | ⟨x, hx, a, _⟩
    · rw [a]; simp
    · rw [a]; simp only [Int.toNat_natCast, ed x (by omega)]
theorem hy_tp_c {n : Nat} {o w d k s T T2 : Nat → Int32} {p q u : Int32} {x y : Nat} (h : y < n) (e : hx_eqN n T T2) : hy_tp o w d k s T p q u x y = hy_tp o w d k s T2 p q u x y := by
  unfold hy_tp
  rw [e y h]
theorem hy_tw_c {n : Nat} {d k s d2 k2 s2 : Nat → Int32} {x y : Nat} (hx : x < n) (hy : y < n) (ed : hx_eqN n d d2) (ek : hx_eqN n k k2) (es : hx_eqN n s s2) : hy_tw d k s x y = hy_tw d2 k2 s2 x y := by
  unfold hy_tw
  rw [ek x hx, ek y hy, es x hx, es y hy, ed x hx, ed y hy]
theorem hy_tp_c2 {n : Nat} {o w d k s o2 w2 d2 k2 s2 T : Nat → Int32} {p q u : Int32} {x y : Nat} (hx : x < n) (hy : y < n) (eo : hx_eqN n o o2) (ew : hx_eqN n w w2) (ed : hx_eqN n d d2) (ek : hx_eqN n k k2) (es : hx_eqN n s s2) : hy_tp o w d k s T p q u x y = hy_tp o2 w2 d2 k2 s2 T p q u x y := by
  unfold hy_tp
  rw [hy_ln_c hy eo ew ed, hy_tw_c hx hy ed ek es]
theorem hy_G_y {o w d k s b : Nat → Int32} {p q u : Int32} {n i : Nat} (hl : hy_ln o w d p q u (b i).toInt.toNat = true) : hy_G o w d k s b p q u n (i + 1) = (if hy_am (hy_tp o w d k s (hy_G o w d k s b p q u n i).1 p q u (b i).toInt.toNat) d n < 0 then hy_G o w d k s b p q u n i else (hx_up (hy_G o w d k s b p q u n i).1 (hy_am (hy_tp o w d k s (hy_G o w d k s b p q u n i).1 p q u (b i).toInt.toNat) d n).toNat 1, (hy_G o w d k s b p q u n i).2 + 1)) := by
  show (if hy_ln o w d p q u (b i).toInt.toNat then _ else _) = _
  rw [hl]
  rfl
theorem hy_G_n {o w d k s b : Nat → Int32} {p q u : Int32} {n i : Nat} (hl : hy_ln o w d p q u (b i).toInt.toNat = false) : hy_G o w d k s b p q u n (i + 1) = hy_G o w d k s b p q u n i := by
  show (if hy_ln o w d p q u (b i).toInt.toNat then _ else _) = _
  rw [hl]
  rfl
theorem hy_G_b {o w d k s b : Nat → Int32} {p q u : Int32} {n : Nat} : ∀ i, 0 ≤ (hy_G o w d k s b p q u n i).2 ∧ (hy_G o w d k s b p q u n i).2 ≤ i
  | 0 => ⟨Int.le_refl _, Int.le_refl _⟩
  | i + 1 => by
    have ih := hy_G_b (o := o) (w := w) (d := d) (k := k) (s := s) (b := b) (p := p) (q := q) (u := u) (n := n) i
    cases hl : hy_ln o w d p q u (b i).toInt.toNat
    · rw [hy_G_n hl]; omega
    · rw [hy_G_y hl]; split
      · omega
      · show 0 ≤ _ + 1 ∧ _ + 1 ≤ _; omega
/-- one step: what stands of the taken ones and of the count -/
theorem hy_st_y {o w d k s b T T1 : Nat → Int32} {p q u : Int32} {n i : Nat} {c c1 A : Int} (hB : hy_BD d b n) (hi : i < n) (e : hx_eqN n T (hy_G o w d k s b p q u n i).1) (hc : c = (hy_G o w d k s b p q u n i).2) (hl : hy_ln o w d p q u (b i).toInt.toNat = true) (hA : A = hy_am (hy_tp o w d k s T p q u (b i).toInt.toNat) d n) (h : (A < 0 ∧ T1 = T ∧ c1 = c) ∨ (0 ≤ A ∧ T1 = hx_up T A.toNat 1 ∧ c1 = c + 1)) : hx_eqN n T1 (hy_G o w d k s b p q u n (i + 1)).1 ∧ c1 = (hy_G o w d k s b p q u n (i + 1)).2 := by
  have hA2 : A = hy_am (hy_tp o w d k s (hy_G o w d k s b p q u n i).1 p q u (b i).toInt.toNat) d n := hA.trans (hy_am_c (N := n) (fun _ _ => rfl) n (Nat.le_refl _) (fun y hy => hy_tp_c hy e))
  rw [hy_G_y hl, ← hA2]
  rcases h with ⟨a1, a2, a3⟩ | ⟨a1, a2, a3⟩
  · rw [if_pos a1, a2, a3]; exact ⟨e, hc⟩
  · rw [if_neg (by omega), a2, a3, hc]; exact ⟨hx_eqN_up e, rfl⟩
theorem hy_G_c {o w d k s o2 w2 d2 k2 s2 b : Nat → Int32} {p q u : Int32} {n : Nat} (hB : hy_BD d b n) (eo : hx_eqN n o o2) (ew : hx_eqN n w w2) (ed : hx_eqN n d d2) (ek : hx_eqN n k k2) (es : hx_eqN n s s2) : ∀ i, i ≤ n → hy_G o w d k s b p q u n i = hy_G o2 w2 d2 k2 s2 b p q u n i
  | 0, _ => rfl
  | i + 1, h => by
    have ih := hy_G_c (p := p) (q := q) (u := u) hB eo ew ed ek es i (by omega)
    obtain ⟨x, hx, e1, _⟩ := hB.2 i (by omega)
    have hb : (b i).toInt.toNat < n := by omega
    have hl := hy_ln_c (p := p) (q := q) (u := u) hb eo ew ed
    cases z : hy_ln o w d p q u (b i).toInt.toNat
    · rw [hy_G_n z, hy_G_n (by rw [← hl]; exact z), ih]
    · rw [hy_G_y z, hy_G_y (by rw [← hl]; exact z), ih]
      have : hy_am (hy_tp o w d k s (hy_G o2 w2 d2 k2 s2 b p q u n i).1 p q u (b i).toInt.toNat) d n = hy_am (hy_tp o2 w2 d2 k2 s2 (hy_G o2 w2 d2 k2 s2 b p q u n i).1 p q u (b i).toInt.toNat) d2 n := hy_am_c ed n (Nat.le_refl _) (fun y hy => hy_tp_c2 hb hy eo ew ed ek es)
      rw [this]
/-- how many stand ahead of the place a of the DAY D -/
def hy_rd (d : Nat → Int32) (n : Nat) (D : Int) (a : Nat) : Nat := hy_cnt (fun y => decide ((d y).toInt < D ∨ ((d y).toInt = D ∧ y < a))) n
theorem hy_rd_n {d : Nat → Int32} {n a : Nat} {D : Int} (h : (d a).toInt ≠ D) : hy_rd d n D (a + 1) = hy_rd d n D a := by
  refine hy_cnt_c n (fun y hy => ?_)
  by_cases z : (d y).toInt < D ∨ ((d y).toInt = D ∧ y < a)
  · rw [decide_eq_true z, decide_eq_true (by omega)]
  · rw [decide_eq_false z, decide_eq_false]
    intro w
    rcases w with w | ⟨w1, w2⟩
    · exact z (Or.inl w)
    · by_cases e : y = a
      · rw [e] at w1; exact h w1
      · exact z (Or.inr ⟨w1, by omega⟩)
theorem hy_rd_k {d : Nat → Int32} {n a : Nat} {D : Int} (h : (d a).toInt = D) : hy_rd d n D a = hy_rk d n a := by
  refine hy_cnt_c n (fun y hy => ?_)
  unfold hy_kl
  by_cases z : (d y).toInt < D ∨ ((d y).toInt = D ∧ y < a)
  · rw [decide_eq_true z, decide_eq_true (by omega)]
  · rw [decide_eq_false z, decide_eq_false (by omega)]
theorem hy_cnt_1 {p q : Nat → Bool} {x : Nat} : ∀ n, x < n → p x = false → q x = true → (∀ y, y ≠ x → p y = q y) → hy_cnt q n = hy_cnt p n + 1
  | 0, h, _, _, _ => by omega
  | n + 1, h, h1, h2, h3 => by
    simp only [hy_cnt]
    by_cases e : x = n
    · subst e
      rw [hy_cnt_c (p := q) (q := p) x (fun y hy => (h3 y (by omega)).symm), h1, h2]; simp
    · rw [hy_cnt_1 n (by omega) h1 h2 h3, h3 n (Ne.symm e)]; omega
theorem hy_rd_y {d : Nat → Int32} {n a : Nat} {D : Int} (ha : a < n) (h : (d a).toInt = D) : hy_rd d n D (a + 1) = hy_rd d n D a + 1 := by
  refine hy_cnt_1 n ha (decide_eq_false (by omega)) (decide_eq_true (by omega)) (fun y hy => ?_)
  by_cases z : (d y).toInt < D ∨ ((d y).toInt = D ∧ y < a)
  · rw [decide_eq_true z, decide_eq_true (by omega)]
  · rw [decide_eq_false z, decide_eq_false (by omega)]
theorem hy_rd_e {d : Nat → Int32} {n : Nat} {D D1 : Int} (e : D1 = D + 1) : hy_rd d n D n = hy_rd d n D1 0 := by
  refine hy_cnt_c n (fun y hy => ?_)
  by_cases z : (d y).toInt < D ∨ ((d y).toInt = D ∧ y < n)
  · rw [decide_eq_true z, decide_eq_true (by omega)]
  · rw [decide_eq_false z, decide_eq_false (by omega)]
theorem hy_rd_0 {d : Nat → Int32} {n : Nat} (h : ∀ x, x < n → 0 ≤ (d x).toInt) : hy_rd d n 0 0 = 0 := by
  have : hy_rd d n 0 0 = hy_cnt (fun _ => false) n := hy_cnt_c n (fun y hy => by have := h y hy; rw [decide_eq_false (by omega)])
  rw [this]
  clear this h
  induction n with
  | zero => rfl
  | succ n ih => simp only [hy_cnt]; rw [ih]; simp
theorem hy_rd_l {d : Nat → Int32} {n : Nat} {D : Int} {a : Nat} : hy_rd d n D a ≤ n := hy_cnt_n n
theorem hy_rd_x {d b : Nat → Int32} {n a : Nat} {D : Int} (hB : hy_BD d b n) (ha : a < n) (h : (d a).toInt = D) : (b (hy_rd d n D a)).toInt = a ∧ hy_rd d n D a < n := by
  rw [hy_rd_k h]
  refine ⟨hB.1 a ha, ?_⟩
  have := hy_cnt_lt (p := fun y => hy_kl d y a) (q := fun _ => true) n (fun _ _ _ => rfl) ⟨a, ha, rfl, by
    cases e9 : hy_kl d a a
    · rfl
    · have := hy_kl_t.mp e9; omega⟩
  exact Nat.lt_of_lt_of_le this (hy_cnt_n n)
/-- behind the DAY u nothing comes -/
theorem hy_G_end {o w d k s b : Nat → Int32} {p q u : Int32} {n : Nat} {D : Int} (hB : hy_BD d b n) (e : D = u.toInt + 1) : ∀ m, hy_rd d n D 0 + m ≤ n → hy_G o w d k s b p q u n (hy_rd d n D 0 + m) = hy_G o w d k s b p q u n (hy_rd d n D 0)
  | 0, _ => rfl
  | m + 1, h => by
    have ih := hy_G_end (o := o) (w := w) (k := k) (s := s) (p := p) (q := q) (u := u) hB e m (by omega)
    obtain ⟨x, hx, e1, e2⟩ := hB.2 (hy_rd d n D 0 + m) (by omega)
    rw [← Nat.add_assoc, hy_G_n, ih]
    rw [e1]
    refine hy_ln_f (fun z => ?_)
    have z3 : (d x).toInt ≤ u.toInt := by simpa using z.2.2
    have h1 := hy_rk_lt (n := n) hx z3
    have h2 : hy_pl d n u.toInt = hy_rd d n D 0 := hy_cnt_c n (fun y hy => by
      by_cases w : (d y).toInt ≤ u.toInt
      · rw [decide_eq_true w, decide_eq_true (by omega)]
      · rw [decide_eq_false w, decide_eq_false (by omega)])
    omega
theorem hy_G_all {o w d k s b : Nat → Int32} {p q u : Int32} {n : Nat} {D : Int} (hB : hy_BD d b n) (e : D = u.toInt + 1) : hy_G o w d k s b p q u n n = hy_G o w d k s b p q u n (hy_rd d n D 0) := by
  have h := hy_G_end (o := o) (w := w) (k := k) (s := s) (p := p) (q := q) (u := u) hB e (n - hy_rd d n D 0) (by have := hy_rd_l (d := d) (n := n) (D := D) (a := 0); omega)
  have h2 : hy_rd d n D 0 + (n - hy_rd d n D 0) = n := by have := hy_rd_l (d := d) (n := n) (D := D) (a := 0); omega
  rw [h2] at h
  exact h
theorem hy_abs {x v : Int32} (e : x = if 0 ≤ v then v else 0 - v) (h0 : -100000 ≤ v.toInt) (h1 : v.toInt ≤ 100000) : (0 ≤ v.toInt ∧ x.toInt = v.toInt) ∨ (v.toInt < 0 ∧ x.toInt = - v.toInt) := by
  have z0 : (0 : Int32).toInt = 0 := by decide
  by_cases z : 0 ≤ v
  · rw [if_pos z] at e
    rw [Int32.le_iff_toInt_le] at z
    exact Or.inl ⟨by omega, by rw [e]⟩
  · rw [if_neg z] at e
    rw [Int32.le_iff_toInt_le] at z
    refine Or.inr ⟨by omega, ?_⟩
    rw [e, i32_sub rfl rfl (by omega) (by omega)]
    omega
def hy_DY (d : Nat → Int32) (n : Nat) : Prop := ∀ x, x < n → 0 ≤ (d x).toInt ∧ (d x).toInt ≤ 7999
def hy_TK (A r : Int) (T T1 : Nat → Int32) : Prop := (r = 0 ∧ A < 0 ∧ T1 = T) ∨ (r = 1 ∧ 0 ≤ A ∧ T1 = hx_up T A.toNat 1)
theorem hy_tp_f {o w d k s T : Nat → Int32} {p q u : Int32} {x y : Nat} (h : (T y).toInt ≠ 0 ∨ hy_ln o w d q p u y = false ∨ hy_tw d k s x y = false) : hy_tp o w d k s T p q u x y = false := by
  unfold hy_tp
  rcases h with h | h | h
  · rw [decide_eq_false h]; rfl
  · rw [h]; simp
  · rw [h]; simp
theorem hy_tp_t {o w d k s T : Nat → Int32} {p q u : Int32} {x y : Nat} (h1 : (T y).toInt = 0) (h2 : hy_ln o w d q p u y = true) (h3 : hy_tw d k s x y = true) : hy_tp o w d k s T p q u x y = true := by
  unfold hy_tp
  rw [decide_eq_true h1, h2, h3]; rfl
theorem hy_all_s {b : Nat → Int32} {pr : Nat → Bool} {i j : Int32} (h : ∀ m : Nat, (m : Int) < i.toInt → pr (b m).toInt.toNat = false) (h0 : 0 ≤ i.toInt) (hn : pr (b i.toNatClampNeg).toInt.toNat = false) (e : j.toInt = i.toInt + 1) : ∀ m : Nat, (m : Int) < j.toInt → pr (b m).toInt.toNat = false := fun m hm => by
  rcases (show (m : Int) < i.toInt ∨ m = i.toNatClampNeg by unfold Int32.toNatClampNeg; omega) with z | z
  · exact h m z
  · rw [z]; exact hn
theorem hy_cl_s {T T1 : Nat → Int32} {i j : Int32} (h : ∀ m : Nat, (m : Int) < i.toInt → T m = 0) (h0 : 0 ≤ i.toInt) (e1 : T1 = hx_up T i.toNatClampNeg 0) (e : j.toInt = i.toInt + 1) : ∀ m : Nat, (m : Int) < j.toInt → T1 m = 0 := fun m hm => by
  subst e1
  rcases (show (m : Int) < i.toInt ∨ m = i.toNatClampNeg by unfold Int32.toNatClampNeg; omega) with z | z
  · rw [hx_up_ne (by unfold Int32.toNatClampNeg; omega)]; exact h m z
  · rw [z, hx_up_at]
theorem hy_BD_b {d b : Nat → Int32} {n : Nat} {i x : Int32} (hB : hy_BD d b n) (h0 : 0 ≤ i.toInt) (h1 : i.toInt < n) (hx : x = b i.toNatClampNeg) : 0 ≤ x.toInt ∧ x.toInt < n := by
  obtain ⟨y, hy, e, _⟩ := hB.2 i.toNatClampNeg (by unfold Int32.toNatClampNeg; omega)
  rw [hx, e]; omega
theorem hy_bi_d {d d1 b b1 : Nat → Int32} {n : Nat} {i D : Int} (hB : hy_BD d b n) (hd : ∀ x, x < n → d1 x = d x) (h0 : 0 ≤ i) (h : hy_bi d1 b b1 n i D) : hy_bi d b b1 n i D := by
  refine ⟨h.1, h.2.1, fun k h1 h2 => ?_⟩
  have h3 := h.2.2 k h1 h2
  obtain ⟨x, hx, e, _⟩ := hB.2 k h2
  rw [e] at h3 ⊢
  rw [hd _ (by omega)] at h3
  exact h3
theorem hy_BD_in2 {d b b1 b2 d1 : Nat → Int32} {n : Nat} {j k0 D k1 : Int32} (hn0 : k0.toInt = n) (hk1 : k1.toInt = n + 1) (hB : hy_BD d b n) (hd1 : d1 = hx_up d k0.toNatClampNeg D) (h : hy_bi d1 b b1 n j.toInt D.toInt) (h0 : 0 ≤ j.toInt) (hn : j.toInt ≤ n) (ho : j.toInt = 0 ∨ ∃ x z y : Int32, y.toInt = j.toInt - 1 ∧ z = b1 y.toNatClampNeg ∧ x = d1 z.toNatClampNeg ∧ x.toInt ≤ D.toInt) (e : b2 = hx_up b1 j.toNatClampNeg k0) : hy_BD d1 b2 k1.toInt.toNat := by
  have ck : ((k0.toNatClampNeg : Nat) : Int) = k0.toInt := by unfold Int32.toNatClampNeg; omega
  have hd : ∀ x, x < n → d1 x = d x := fun x hx => by rw [hd1, hx_up_ne (by omega)]
  have hb := hy_bi_d hB hd h0 h
  rw [show k1.toInt.toNat = n + 1 by omega]
  refine hy_BD_in (D := D.toInt) (i := j.toInt) (v := D) hB hd (by rw [hd1, show n = k0.toNatClampNeg by omega, hx_up_at]) hb h0 hn ?_ rfl hn0 e
  rcases ho with z | ⟨x, z, y, hy, hz, hx, hv⟩
  · exact Or.inl z
  · rcases (show j.toInt = 0 ∨ 0 < j.toInt by omega) with w | w
    · exact Or.inl w
    · right
      have ey : y.toNatClampNeg = (j.toInt - 1).toNat := by unfold Int32.toNatClampNeg; omega
      rw [ey, hb.1 _ (by omega)] at hz
      obtain ⟨m, hm, em, _⟩ := hB.2 (j.toInt - 1).toNat (by omega)
      have ez : z.toNatClampNeg = m := by rw [hz]; unfold Int32.toNatClampNeg; omega
      rw [ez, hd m hm] at hx
      rw [em]
      simp only [Int.toNat_natCast]
      rw [← hx]; exact hv
theorem hy_am_sn {pr : Nat → Bool} {d : Nat → Int32} {v i j : Int32} (h : v.toInt = hy_am pr d i.toInt.toNat) (h0 : 0 ≤ i.toInt) (hp : pr i.toNatClampNeg = false) (e : j.toInt = i.toInt + 1) : v.toInt = hy_am pr d j.toInt.toNat := by
  rw [show j.toInt.toNat = i.toInt.toNat + 1 by omega, h]
  show _ = (if pr i.toNatClampNeg then _ else _)
  rw [hp]
  rfl
theorem hy_am_sy {pr : Nat → Bool} {d : Nat → Int32} {v v1 x y i j : Int32} (h : v.toInt = hy_am pr d i.toInt.toNat) (h0 : 0 ≤ i.toInt) (hp : pr i.toNatClampNeg = true) (hc : (v.toInt < 0 ∧ v1 = i) ∨ (0 ≤ v.toInt ∧ x = d i.toNatClampNeg ∧ y = d v.toNatClampNeg ∧ ((x.toInt < y.toInt ∧ v1 = i) ∨ (y.toInt ≤ x.toInt ∧ v1 = v)))) (e : j.toInt = i.toInt + 1) : v1.toInt = hy_am pr d j.toInt.toNat := by
  have e1 : hy_am pr d j.toInt.toNat = (if pr i.toNatClampNeg then (if hy_am pr d i.toInt.toNat < 0 ∨ (d i.toNatClampNeg).toInt < (d (hy_am pr d i.toInt.toNat).toNat).toInt then ((i.toNatClampNeg : Nat) : Int) else hy_am pr d i.toInt.toNat) else hy_am pr d i.toInt.toNat) := by
    rw [show j.toInt.toNat = i.toInt.toNat + 1 by omega]; rfl
  have ci : ((i.toNatClampNeg : Nat) : Int) = i.toInt := by unfold Int32.toNatClampNeg; omega
  rw [e1, if_pos hp, ← h]
  have ev : v.toInt.toNat = v.toNatClampNeg := rfl
  rw [ev]
  rcases hc with ⟨a, b⟩ | ⟨a, hx, hy, ⟨b, c⟩ | ⟨b, c⟩⟩
  · rw [if_pos (Or.inl a), b, ci]
  · rw [if_pos (Or.inr (by rw [← hx, ← hy]; exact b)), c, ci]
  · rw [if_neg (by rw [← hx, ← hy]; omega), c]
def hx_LA (n r : Int) (v : Int32) (f f1 : Nat → Int32) : Prop := (r = -1 ∧ f1 = f) ∨ (0 ≤ n ∧ r = n + 1 ∧ f1 = hx_up f n.toNat v)
theorem hx_lak {n r r2 n1 : Int} {v : Int32} {f f1 g g1 : Nat → Int32} (hr : r = r2) (h1 : (r = -1 ∧ n1 = n) ∨ (r = n + 1 ∧ n1 = n + 1)) (p : hx_LA n r v f f1) (q : hx_LA n r2 v g g1) (e : hx_eqN n.toNat f g) : hx_eqN n1.toNat f1 g1 := by
  rcases p with ⟨a, b⟩ | ⟨a0, a, b⟩ <;> rcases q with ⟨c, d⟩ | ⟨c0, c, d⟩
  · rw [b, d]
    rcases h1 with ⟨z, w⟩ | ⟨z, w⟩
    · rw [w]; exact e
    · have : n < 0 := by omega
      intro j hj; omega
  · exfalso; omega
  · exfalso; omega
  · rw [b, d]
    intro j hj
    by_cases z : j = n.toNat
    · rw [z, hx_up_at, hx_up_at]
    · rw [hx_up_ne z, hx_up_ne z]
      refine e j ?_
      rcases h1 with ⟨w1, w2⟩ | ⟨w1, w2⟩ <;> omega
theorem hy_DY_s {n r n1 : Int} {v : Int32} {f f1 : Nat → Int32} (h : hy_DY f n.toNat) (hn : (r = -1 ∧ n1 = n) ∨ (r = n + 1 ∧ n1 = n + 1 ∧ 0 ≤ v.toInt ∧ v.toInt ≤ 7999)) (h0 : 0 ≤ n) (p : hx_LA n r v f f1) : hy_DY f1 n1.toNat := by
  rcases p with ⟨a, b⟩ | ⟨a0, a, b⟩
  · rw [b]
    rcases hn with ⟨z, w⟩ | ⟨z, w, _⟩
    · rw [w]; exact h
    · exfalso; omega
  · rw [b]
    rcases hn with ⟨z, w⟩ | ⟨z, w, v0, v1⟩
    · exfalso; omega
    · intro j hj
      by_cases y : j = n.toNat
      · rw [y, hx_up_at]; exact ⟨v0, v1⟩
      · rw [hx_up_ne y]; exact h j (by omega)
def hy_BC (n a b d : Int) : Prop := (0 ≤ a ∧ a < n) ∧ (0 ≤ b ∧ b < n) ∧ a ≠ b ∧ (0 ≤ d ∧ d ≤ 7999)
/-- what book() answers -/
def hy_BK (n a b d w r x y z : Int) : Prop := (hy_BC n a b d ∧ w = 0 ∧ r = x) ∨ (hy_BC n a b d ∧ w = 1 ∧ r = y) ∨ (hy_BC n a b d ∧ w = 2 ∧ r = z) ∨ (¬ (hy_BC n a b d ∧ 0 ≤ w ∧ w ≤ 2) ∧ r = -1000000)
theorem hy_BK_0 {n a b d w r x y z : Int} (c : hy_BC n a b d) (hw : w = 0) (h : r = x) : hy_BK n a b d w r x y z := Or.inl ⟨c, hw, h⟩
theorem hy_BK_1 {n a b d w r x y z : Int} (c : hy_BC n a b d) (hw : w = 1) (h : r = y) : hy_BK n a b d w r x y z := Or.inr (Or.inl ⟨c, hw, h⟩)
theorem hy_BK_2 {n a b d w r x y z : Int} (c : hy_BC n a b d) (hw : w = 2) (h : r = z) : hy_BK n a b d w r x y z := Or.inr (Or.inr (Or.inl ⟨c, hw, h⟩))
theorem hy_BK_n {n a b d w r x y z : Int} (c : ¬ (hy_BC n a b d ∧ 0 ≤ w ∧ w ≤ 2)) (h : r = -1000000) : hy_BK n a b d w r x y z := Or.inr (Or.inr (Or.inr ⟨c, h⟩))
theorem hy_bk {n a b d w r r2 x y z x2 y2 z2 : Int} (e1 : x = x2) (e2 : y = y2) (e3 : z = z2) (p : hy_BK n a b d w r x y z) (q : hy_BK n a b d w r2 x2 y2 z2) : r = r2 := by
  subst e1; subst e2; subst e3
  rcases p with ⟨a1, a2, a3⟩ | ⟨a1, a2, a3⟩ | ⟨a1, a2, a3⟩ | ⟨a1, a2⟩ <;> rcases q with ⟨b1, b2, b3⟩ | ⟨b1, b2, b3⟩ | ⟨b1, b2, b3⟩ | ⟨b1, b2⟩ <;> first
    | omega
    | exact absurd ⟨a1, by omega, by omega⟩ b1
    | exact absurd ⟨b1, by omega, by omega⟩ a1
theorem hx_eqN_z {c : Int32} {f g : Nat → Int32} (h : c = 0) : hx_eqN c.toInt.toNat f g := fun j hj => by
  rw [h] at hj
  have : (0 : Int32).toInt.toNat = 0 := by decide
  omega
theorem hy_BD_z {c : Int32} {d b : Nat → Int32} (h : c = 0) : hy_BD d b c.toInt.toNat ∧ hy_DY d c.toInt.toNat := by
  have : c.toInt.toNat = 0 := by rw [h]; decide
  rw [this]
  exact ⟨hy_BD_0, fun x hx => by omega⟩
