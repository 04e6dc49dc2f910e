section
/-! NETTED: what is taken off, as both sides take it -/
abbrev hz_P := (Nat → Int32) × (Nat → Int32) × (Nat → Int32) × (Nat → Int32) × (Nat → Int32) × Nat
def hz_ap (P : hz_P) (c s now : Int32) : hz_P := (hx_up P.1 P.2.2.2.2.2 c, hx_up P.2.1 P.2.2.2.2.2 now, hx_up P.2.2.1 P.2.2.2.2.2 s, hx_up P.2.2.2.1 P.2.2.2.2.2 now, hx_up P.2.2.2.2.1 P.2.2.2.2.2 (-1), P.2.2.2.2.2 + 1)
def hz_nP (P : hz_P) : Nat := P.2.2.2.2.2
def hz_mt (ag bf : Nat → Int32) (q p : Int) (c : Nat) : Bool := decide ((ag c).toInt = q) && decide ((bf c).toInt = p)
theorem hz_mt_t {ag bf : Nat → Int32} {q p : Int} {c : Nat} : hz_mt ag bf q p c = true ↔ (ag c).toInt = q ∧ (bf c).toInt = p := by unfold hz_mt; rw [Bool.and_eq_true, decide_eq_true_iff, decide_eq_true_iff]
theorem hz_mt_f {ag bf : Nat → Int32} {q p : Int} {c : Nat} (h : ¬ ((ag c).toInt = q ∧ (bf c).toInt = p)) : hz_mt ag bf q p c = false := by
  cases e : hz_mt ag bf q p c with
  | false => rfl
  | true => exact absurd (hz_mt_t.mp e) h
/-- a sum taken off the claims below n: the payments behind it, and what is left of the sum -/
def hz_tk (R : hz_P → Nat → Int) (mt : Nat → Bool) (now : Int32) (P : hz_P) (s : Int) : Nat → hz_P × Int
  | 0 => (P, s)
  | n + 1 => if 0 < (hz_tk R mt now P s n).2 ∧ mt n = true ∧ 0 < R (hz_tk R mt now P s n).1 n then (hz_ap (hz_tk R mt now P s n).1 (Int32.ofNat n) (Int32.ofInt (hz_mi (hz_tk R mt now P s n).2 (R (hz_tk R mt now P s n).1 n))) now, (hz_tk R mt now P s n).2 - hz_mi (hz_tk R mt now P s n).2 (R (hz_tk R mt now P s n).1 n)) else hz_tk R mt now P s n
/-- the same, counted alone: what is left of the sum, how many payments -/
def hz_cn (r : Nat → Int) (mt : Nat → Bool) (s : Int) : Nat → Int × Int
  | 0 => (s, 0)
  | n + 1 => if 0 < (hz_cn r mt s n).1 ∧ mt n = true ∧ 0 < r n then ((hz_cn r mt s n).1 - hz_mi (hz_cn r mt s n).1 (r n), (hz_cn r mt s n).2 + 1) else hz_cn r mt s n
/-- what all claims below n that match have left -/
def hz_sm (r : Nat → Int) (mt : Nat → Bool) : Nat → Int
  | 0 => 0
  | n + 1 => hz_sm r mt n + (if mt n = true then r n else 0)
/-- how many claims below n have something left -/
def hz_op (r : Nat → Int) : Nat → Int
  | 0 => 0
  | n + 1 => hz_op r n + (if 0 < r n then 1 else 0)
section HZT
variable {R : hz_P → Nat → Int} {now : Int32} {N : Nat}
/-- what a payment does to what is left: of its claim alone -/
def hz_HR (R : hz_P → Nat → Int) (now : Int32) (N : Nat) : Prop := ∀ (P : hz_P) (c : Nat) (s : Int32), c < N → 0 < s.toInt → s.toInt ≤ R P c → ∀ c', c' < N → R (hz_ap P (Int32.ofNat c) s now) c' = (if c' = c then R P c - s.toInt else R P c')
def hz_RB (R : hz_P → Nat → Int) (N : Nat) (P : hz_P) : Prop := ∀ c : Nat, c < N → 0 ≤ R P c ∧ R P c ≤ 609999
theorem hz_ofI {x : Int} (h0 : 0 ≤ x) (h1 : x ≤ 2147483647) : (Int32.ofInt x).toInt = x := by
  rw [Int32.toInt_ofInt, Int.bmod_def, show ((Int32.size : Nat) : Int) = 4294967296 from rfl]; omega
theorem hz_tk_1 {mt : Nat → Bool} {P : hz_P} {s : Int} (HR : hz_HR R now N) (HB : hz_RB R N P) : ∀ n : Nat, n ≤ N → (∀ c, c < N → (n ≤ c ∨ mt c = false) → R (hz_tk R mt now P s n).1 c = R P c) ∧ (hz_tk R mt now P s n).2 = (hz_cn (R P) mt s n).1 ∧ ((hz_nP (hz_tk R mt now P s n).1 : Nat) : Int) = hz_nP P + (hz_cn (R P) mt s n).2 ∧ (∀ c, c < N → R (hz_tk R mt now P s n).1 c ≤ R P c) ∧ (∀ m : Nat, n ≤ m → m ≤ N → hz_sm (R (hz_tk R mt now P s n).1) mt m = hz_sm (R P) mt m - (s - (hz_tk R mt now P s n).2)) := by
  intro n
  induction n with
  | zero => intro _; exact ⟨fun _ _ _ => rfl, rfl, by simp [hz_tk, hz_cn], fun _ _ => Int.le_refl _, fun m _ _ => by simp [hz_tk]⟩
  | succ n ih =>
    intro hn
    obtain ⟨a, b, d, e, f⟩ := ih (by omega)
    have ra := a n (by omega) (Or.inl (Nat.le_refl _))
    have hb := HB n (by omega)
    by_cases z : 0 < (hz_tk R mt now P s n).2 ∧ mt n = true ∧ 0 < R (hz_tk R mt now P s n).1 n
    · have z2 : 0 < (hz_cn (R P) mt s n).1 ∧ mt n = true ∧ 0 < R P n := by rw [← b, ← ra]; exact z
      have mb := hz_mi_l (a := (hz_tk R mt now P s n).2) (b := R (hz_tk R mt now P s n).1 n)
      have mc := hz_mi_c (a := (hz_tk R mt now P s n).2) (b := R (hz_tk R mt now P s n).1 n)
      have et : hz_tk R mt now P s (n + 1) = (hz_ap (hz_tk R mt now P s n).1 (Int32.ofNat n) (Int32.ofInt (hz_mi (hz_tk R mt now P s n).2 (R (hz_tk R mt now P s n).1 n))) now, (hz_tk R mt now P s n).2 - hz_mi (hz_tk R mt now P s n).2 (R (hz_tk R mt now P s n).1 n)) := by
        show (if _ then _ else _) = _; rw [if_pos z]
      have ec : hz_cn (R P) mt s (n + 1) = ((hz_cn (R P) mt s n).1 - hz_mi (hz_cn (R P) mt s n).1 (R P n), (hz_cn (R P) mt s n).2 + 1) := by
        show (if _ then _ else _) = _; rw [if_pos z2]
      have eo : (Int32.ofInt (hz_mi (hz_tk R mt now P s n).2 (R (hz_tk R mt now P s n).1 n))).toInt = hz_mi (hz_tk R mt now P s n).2 (R (hz_tk R mt now P s n).1 n) := hz_ofI (by omega) (by omega)
      have hr := HR (hz_tk R mt now P s n).1 n (Int32.ofInt (hz_mi (hz_tk R mt now P s n).2 (R (hz_tk R mt now P s n).1 n))) (by omega) (by rw [eo]; omega) (by rw [eo]; omega)
      rw [et, ec]
      refine ⟨fun c hc hcn => ?_, ?_, ?_, fun c hc => ?_, fun m hm hmN => ?_⟩
      · have hne : c ≠ n := by
          rcases hcn with w | w
          · omega
          · intro ee; subst ee; rw [z.2.1] at w; cases w
        show R (hz_ap _ _ _ _) c = _
        rw [hr c hc, if_neg hne]
        exact a c hc (hcn.imp (fun w => by omega) id)
      · show _ - _ = _ - _
        rw [b, ra]
      · show ((hz_nP (hz_ap _ _ _ _) : Nat) : Int) = _
        have : hz_nP (hz_ap (hz_tk R mt now P s n).1 (Int32.ofNat n) (Int32.ofInt (hz_mi (hz_tk R mt now P s n).2 (R (hz_tk R mt now P s n).1 n))) now) = hz_nP (hz_tk R mt now P s n).1 + 1 := rfl
        rw [this]
        have : ((hz_nP (hz_tk R mt now P s n).1 + 1 : Nat) : Int) = (hz_nP (hz_tk R mt now P s n).1 : Int) + 1 := by omega
        rw [this, d]
        show _ = _ + (_ + 1)
        omega
      · show R (hz_ap _ _ _ _) c ≤ _
        rw [hr c hc]
        split
        · rename_i h1; subst h1; have := e c hc; rw [eo]; omega
        · exact e c hc
      · show hz_sm (R (hz_ap _ _ _ _)) mt m = _ - (s - (_ - _))
        have key : ∀ k : Nat, k ≤ N → hz_sm (R (hz_ap (hz_tk R mt now P s n).1 (Int32.ofNat n) (Int32.ofInt (hz_mi (hz_tk R mt now P s n).2 (R (hz_tk R mt now P s n).1 n))) now)) mt k = hz_sm (R (hz_tk R mt now P s n).1) mt k - (if n < k then hz_mi (hz_tk R mt now P s n).2 (R (hz_tk R mt now P s n).1 n) else 0) := by
          intro k
          induction k with
          | zero => intro _; rw [if_neg (by omega)]; simp [hz_sm]
          | succ k ihk =>
            intro hk
            have q := ihk (by omega)
            simp only [hz_sm]
            rw [q, hr k (by omega)]
            by_cases w : k = n
            · subst w
              rw [if_pos rfl, if_neg (by omega), if_pos (show k < k + 1 by omega), if_pos z.2.1, if_pos z.2.1, eo]; omega
            · rw [if_neg w]
              by_cases w2 : n < k
              · rw [if_pos w2, if_pos (show n < k + 1 by omega)]; omega
              · rw [if_neg w2, if_neg (show ¬ n < k + 1 by omega)]; omega
        rw [key m hmN, if_pos (by omega), f m (by omega) hmN]
        omega
    · have z2 : ¬ (0 < (hz_cn (R P) mt s n).1 ∧ mt n = true ∧ 0 < R P n) := by rw [← b, ← ra]; exact z
      have et : hz_tk R mt now P s (n + 1) = hz_tk R mt now P s n := by show (if _ then _ else _) = _; rw [if_neg z]
      have ec : hz_cn (R P) mt s (n + 1) = hz_cn (R P) mt s n := by show (if _ then _ else _) = _; rw [if_neg z2]
      rw [et, ec]
      exact ⟨fun c hc hcn => a c hc (hcn.imp (fun w => by omega) id), b, d, e, fun m hm hmN => f m (by omega) hmN⟩
/-- what is left of the sum -/
theorem hz_cn_l {r : Nat → Int} {mt : Nat → Bool} {s : Int} (hs : 0 ≤ s) (hr : ∀ c, c < N → 0 ≤ r c) : ∀ n : Nat, n ≤ N → 0 ≤ (hz_cn r mt s n).1 ∧ ((hz_cn r mt s n).1 = s - hz_sm r mt n ∨ ((hz_cn r mt s n).1 = 0 ∧ s ≤ hz_sm r mt n)) ∧ 0 ≤ hz_sm r mt n ∧ 0 ≤ (hz_cn r mt s n).2 := by
  intro n
  induction n with
  | zero => intro _; exact ⟨hs, Or.inl (by simp [hz_cn, hz_sm]), Int.le_refl _, Int.le_refl _⟩
  | succ n ih =>
    intro hn
    obtain ⟨a, b, d, e⟩ := ih (by omega)
    have hrn := hr n (by omega)
    have mb := hz_mi_l (a := (hz_cn r mt s n).1) (b := r n)
    have mc := hz_mi_c (a := (hz_cn r mt s n).1) (b := r n)
    simp only [hz_cn, hz_sm]
    by_cases w : mt n = true
    · rw [if_pos w]
      by_cases z : 0 < (hz_cn r mt s n).1 ∧ mt n = true ∧ 0 < r n
      · rw [if_pos z]
        refine ⟨by show 0 ≤ _ - _; omega, ?_, by omega, by show 0 ≤ _ + 1; omega⟩
        show _ - _ = _ ∨ (_ - _ = _ ∧ _)
        omega
      · rw [if_neg z]
        have z3 : (hz_cn r mt s n).1 = 0 ∨ r n = 0 := by
          by_cases y : 0 < (hz_cn r mt s n).1
          · by_cases y2 : 0 < r n
            · exact absurd ⟨y, w, y2⟩ z
            · omega
          · omega
        exact ⟨a, by omega, by omega, e⟩
    · rw [if_neg w, if_neg (fun z => w z.2.1)]
      exact ⟨a, by omega, by omega, e⟩
theorem hz_cn_e {r r' : Nat → Int} {mt : Nat → Bool} {s : Int} : ∀ n : Nat, (∀ c, c < n → mt c = true → r c = r' c) → hz_cn r mt s n = hz_cn r' mt s n := by
  intro n
  induction n with
  | zero => intro _; rfl
  | succ n ih =>
    intro h
    simp only [hz_cn, ih (fun c hc => h c (by omega))]
    by_cases w : mt n = true
    · rw [h n (by omega) w]
    · rw [if_neg (fun z => w z.2.1), if_neg (fun z => w z.2.1)]
theorem hz_sm_e {r r' : Nat → Int} {mt : Nat → Bool} : ∀ n : Nat, (∀ c, c < n → mt c = true → r c = r' c) → hz_sm r mt n = hz_sm r' mt n := by
  intro n
  induction n with
  | zero => intro _; rfl
  | succ n ih =>
    intro h
    simp only [hz_sm, ih (fun c hc => h c (by omega))]
    by_cases w : mt n = true
    · rw [if_pos w, if_pos w, h n (by omega) w]
    · rw [if_neg w, if_neg w]
theorem hz_op_b {r : Nat → Int} : ∀ n : Nat, 0 ≤ hz_op r n ∧ hz_op r n ≤ n := by
  intro n
  induction n with
  | zero => exact ⟨Int.le_refl _, Int.le_refl _⟩
  | succ n ih => simp only [hz_op]; split <;> omega
theorem hz_op_le {r r' : Nat → Int} : ∀ n : Nat, (∀ c, c < n → r' c ≤ r c) → hz_op r' n ≤ hz_op r n := by
  intro n
  induction n with
  | zero => intro _; exact Int.le_refl _
  | succ n ih =>
    intro h
    have a := ih (fun c hc => h c (by omega)); have b := h n (by omega)
    simp only [hz_op]; (repeat' split) <;> omega
theorem hz_op_lt {r r' : Nat → Int} {k : Nat} : ∀ n : Nat, (∀ c, c < n → r' c ≤ r c) → k < n → 0 < r k → r' k ≤ 0 → hz_op r' n + 1 ≤ hz_op r n := by
  intro n
  induction n with
  | zero => intro _ h; exact absurd h (Nat.not_lt_zero _)
  | succ n ih =>
    intro h hk h1 h2
    have b := h n (by omega)
    simp only [hz_op]
    by_cases z : k = n
    · subst z
      have a := hz_op_le k (fun c hc => h c (by omega))
      rw [if_pos h1, if_neg (by omega)]; omega
    · have a := ih (fun c hc => h c (by omega)) (by omega) h1 h2
      (repeat' split) <;> omega
theorem hz_sm_0 {r : Nat → Int} {mt : Nat → Bool} : ∀ n : Nat, (∀ c, c < n → 0 ≤ r c) → hz_sm r mt n ≤ 0 → ∀ c, c < n → mt c = true → r c ≤ 0 := by
  intro n
  induction n with
  | zero => intro _ _ c hc; exact absurd hc (Nat.not_lt_zero _)
  | succ n ih =>
    intro h hs c hc hm
    have hp : ∀ k : Nat, k ≤ n → 0 ≤ hz_sm r mt k := by
      intro k
      induction k with
      | zero => intro _; exact Int.le_refl _
      | succ k ihk =>
        intro hk
        have := ihk (by omega); have := h k (by omega)
        simp only [hz_sm]; split <;> omega
    have a := hp n (Nat.le_refl _); have b := h n (by omega)
    simp only [hz_sm] at hs
    by_cases z : c = n
    · subst z; rw [if_pos hm] at hs; omega
    · refine ih (fun c hc => h c (by omega)) ?_ c (by omega) hm
      split at hs <;> omega
theorem hz_sm_p {r : Nat → Int} {mt : Nat → Bool} : ∀ n : Nat, 0 < hz_sm r mt n → ∃ c, c < n ∧ mt c = true ∧ 0 < r c := by
  intro n
  induction n with
  | zero => intro h; exact absurd h (by simp [hz_sm])
  | succ n ih =>
    intro h
    simp only [hz_sm] at h
    by_cases w : mt n = true ∧ 0 < r n
    · exact ⟨n, by omega, w.1, w.2⟩
    · have : 0 < hz_sm r mt n := by
        split at h
        · rename_i w1
          have : ¬ 0 < r n := fun y => w ⟨w1, y⟩
          omega
        · omega
      obtain ⟨c, a, b, d⟩ := ih this
      exact ⟨c, by omega, b, d⟩
/-- a ring's places, one after another -/
def hz_tr (R : hz_P → Nat → Int) (ag bf : Nat → Int32) (g : Nat → Int) (n l : Int) (now : Int32) (cn : Nat) (P : hz_P) : Nat → hz_P
  | 0 => P
  | i + 1 => (hz_tk R (hz_mt ag bf (g i) (g (((i : Int) + 1) % n).toNat)) now (hz_tr R ag bf g n l now cn P i) l cn).1
/-- a pair of the ring's first k places -/
def hz_eb (g : Nat → Int) (n q p : Int) : Nat → Bool
  | 0 => false
  | k + 1 => hz_eb g n q p k || (decide (g k = q) && decide (g (((k : Int) + 1) % n).toNat = p))
theorem hz_eb_t {g : Nat → Int} {n q p : Int} : ∀ k : Nat, hz_eb g n q p k = true ↔ ∃ i : Nat, i < k ∧ g i = q ∧ g (((i : Int) + 1) % n).toNat = p := by
  intro k
  induction k with
  | zero => exact ⟨fun h => (by cases h), fun ⟨i, h, _⟩ => absurd h (Nat.not_lt_zero _)⟩
  | succ k ih =>
    simp only [hz_eb]
    rw [Bool.or_eq_true, ih, Bool.and_eq_true, decide_eq_true_iff, decide_eq_true_iff]
    constructor
    · rintro (⟨i, h1, h2⟩ | h)
      · exact ⟨i, by omega, h2⟩
      · exact ⟨k, by omega, h⟩
    · rintro ⟨i, h1, h2⟩
      by_cases z : i = k
      · subst z; exact Or.inr h2
      · exact Or.inl ⟨i, by omega, h2⟩
theorem hz_eb_n {g : Nat → Int} {n q p : Int} {k : Nat} (h : ¬ (g k = q ∧ g (((k : Int) + 1) % n).toNat = p)) : hz_eb g n q p (k + 1) = hz_eb g n q p k := by
  simp only [hz_eb]
  have : (decide (g k = q) && decide (g (((k : Int) + 1) % n).toNat = p)) = false := by
    cases e : (decide (g k = q) && decide (g (((k : Int) + 1) % n).toNat = p)) with
    | false => rfl
    | true => rw [Bool.and_eq_true, decide_eq_true_iff, decide_eq_true_iff] at e; exact absurd e h
  rw [this, Bool.or_false]
def hz_ne (r : Nat → Int) (ag bf : Nat → Int32) (g : Nat → Int) (n l : Int) (cn : Nat) : Nat → Int
  | 0 => 0
  | i + 1 => hz_ne r ag bf g n l cn i + (hz_cn r (hz_mt ag bf (g i) (g (((i : Int) + 1) % n).toNat)) l cn).2
/-- what the claims of each pair have left together -/
def hz_V (r : Nat → Int) (ag bf : Nat → Int32) (cn : Nat) (x : Int) : Int := hz_sm r (fun c => decide (40 * (ag c).toInt + (bf c).toInt = x)) cn
theorem hz_V_m {r : Nat → Int} {ag bf : Nat → Int32} {cn : Nat} {q p : Int} (hq : 0 ≤ p ∧ p < 40) (hb : ∀ c, c < cn → 0 ≤ (bf c).toInt ∧ (bf c).toInt < 40) : hz_V r ag bf cn (40 * q + p) = hz_sm r (hz_mt ag bf q p) cn := by
  unfold hz_V
  have key : ∀ k : Nat, k ≤ cn → hz_sm r (fun c => decide (40 * (ag c).toInt + (bf c).toInt = 40 * q + p)) k = hz_sm r (hz_mt ag bf q p) k := by
    intro k
    induction k with
    | zero => intro _; rfl
    | succ k ih =>
      intro hk
      have b := hb k (by omega)
      simp only [hz_sm, ih (by omega)]
      by_cases w : (ag k).toInt = q ∧ (bf k).toInt = p
      · rw [if_pos (decide_eq_true (by omega)), if_pos (hz_mt_t.mpr w)]
      · rw [if_neg (fun z => w (by have := of_decide_eq_true z; omega)), if_neg (fun z => w (hz_mt_t.mp z))]
  exact key cn (Nat.le_refl _)
/-- behind the first k places of a ring -/
theorem hz_tr_1 {ag bf : Nat → Int32} {n l : Int} {g : Nat → Int} {P : hz_P} (HR : hz_HR R now N) (HN : ∀ (P : hz_P) (c : Nat), 0 ≤ R P c) (HB : hz_RB R N P) (hl : 1 ≤ l) (hn : 2 ≤ n ∧ n ≤ 4) (hd : ∀ i j : Nat, (i : Int) < n → (j : Int) < n → i ≠ j → g i ≠ g j) (hV : ∀ i : Nat, (i : Int) < n → l ≤ hz_sm (R P) (hz_mt ag bf (g i) (g (((i : Int) + 1) % n).toNat)) N) : ∀ k : Nat, (k : Int) ≤ n → (∀ c, c < N → R (hz_tr R ag bf g n l now N P k) c ≤ R P c) ∧ (∀ c, c < N → (∀ i : Nat, i < k → hz_mt ag bf (g i) (g (((i : Int) + 1) % n).toNat) c = false) → R (hz_tr R ag bf g n l now N P k) c = R P c) ∧ ((hz_nP (hz_tr R ag bf g n l now N P k) : Nat) : Int) = hz_nP P + hz_ne (R P) ag bf g n l N k ∧ (∀ q p : Int, hz_sm (R (hz_tr R ag bf g n l now N P k)) (hz_mt ag bf q p) N = hz_sm (R P) (hz_mt ag bf q p) N - (if hz_eb g n q p k = true then l else 0)) := by
  intro k
  induction k with
  | zero => intro _; exact ⟨fun _ _ => Int.le_refl _, fun _ _ _ => rfl, by simp [hz_tr, hz_ne], fun q p => by rw [if_neg (fun h => by cases h)]; simp [hz_tr]⟩
  | succ k ih =>
    intro hk
    obtain ⟨a, b, d, f⟩ := ih (by omega)
    have T := hz_tk_1 (mt := hz_mt ag bf (g k) (g (((k : Int) + 1) % n).toNat)) (P := hz_tr R ag bf g n l now N P k) (s := l) HR (fun c hc => ⟨HN _ _, Int.le_trans (a c hc) (HB c hc).2⟩) N (Nat.le_refl _)
    obtain ⟨t1, t2, t3, t4, t5⟩ := T
    have et : hz_tr R ag bf g n l now N P (k + 1) = (hz_tk R (hz_mt ag bf (g k) (g (((k : Int) + 1) % n).toNat)) now (hz_tr R ag bf g n l now N P k) l N).1 := rfl
    have hother : ∀ c, c < N → hz_mt ag bf (g k) (g (((k : Int) + 1) % n).toNat) c = true → R (hz_tr R ag bf g n l now N P k) c = R P c := by
      intro c hc hm
      refine b c hc (fun i hi => hz_mt_f (fun z => ?_))
      have e1 := (hz_mt_t.mp hm).1
      exact hd i k (by omega) (by omega) (by omega) (z.1.symm.trans e1)
    have ecn := hz_cn_e (r := R (hz_tr R ag bf g n l now N P k)) (r' := R P) (mt := hz_mt ag bf (g k) (g (((k : Int) + 1) % n).toNat)) (s := l) N hother
    have esm := hz_sm_e (r := R (hz_tr R ag bf g n l now N P k)) (r' := R P) (mt := hz_mt ag bf (g k) (g (((k : Int) + 1) % n).toNat)) N hother
    have L := hz_cn_l (N := N) (r := R P) (mt := hz_mt ag bf (g k) (g (((k : Int) + 1) % n).toNat)) (s := l) (by omega) (fun c hc => (HB c hc).1) N (Nat.le_refl _)
    have hVk := hV k (by omega)
    have left0 : (hz_tk R (hz_mt ag bf (g k) (g (((k : Int) + 1) % n).toNat)) now (hz_tr R ag bf g n l now N P k) l N).2 = 0 := by
      rw [t2, ecn]; omega
    rw [et]
    refine ⟨fun c hc => Int.le_trans (t4 c hc) (a c hc), fun c hc hm => ?_, ?_, fun q p => ?_⟩
    · rw [t1 c hc (Or.inr (hm k (by omega)))]
      exact b c hc (fun i hi => hm i (by omega))
    · rw [t3, d, ecn]
      simp only [hz_ne]; omega
    · by_cases w : g k = q ∧ g (((k : Int) + 1) % n).toNat = p
      · obtain ⟨w1, w2⟩ := w
        subst w1; subst w2
        rw [t5 N (Nat.le_refl _) (Nat.le_refl _), left0, if_pos ((hz_eb_t (k + 1)).mpr ⟨k, by omega, rfl, rfl⟩), esm]; omega
      · have e2 : hz_sm (R (hz_tk R (hz_mt ag bf (g k) (g (((k : Int) + 1) % n).toNat)) now (hz_tr R ag bf g n l now N P k) l N).1) (hz_mt ag bf q p) N = hz_sm (R (hz_tr R ag bf g n l now N P k)) (hz_mt ag bf q p) N := by
          refine hz_sm_e N (fun c hc hm => t1 c hc (Or.inr (hz_mt_f (fun z => w ?_))))
          have m1 := hz_mt_t.mp hm
          exact ⟨z.1.symm.trans m1.1, z.2.symm.trans m1.2⟩
        rw [e2, f q p, hz_eb_n w]
end HZT
end
section
/-! NETTED: ring after ring -/
def hz_be (R : hz_P → Nat → Int) (ag bf : Nat → Int32) (cn : Nat) (np : Int) (P : hz_P) : Int × Int × (Nat → Int) := hz_F1 (hz_V (R P) ag bf cn) np np.toNat
def hz_go (R : hz_P → Nat → Int) (ag bf : Nat → Int32) (cn : Nat) (np : Int) (P : hz_P) : Prop := 0 < (hz_be R ag bf cn np P).2.1 ∧ (hz_nP P : Int) + hz_ne (R P) ag bf (hz_be R ag bf cn np P).2.2 (hz_be R ag bf cn np P).2.1 (hz_be R ag bf cn np P).1 cn (hz_be R ag bf cn np P).2.1.toNat ≤ 600
def hz_sp (R : hz_P → Nat → Int) (ag bf : Nat → Int32) (cn : Nat) (np : Int) (now : Int32) (P : hz_P) : hz_P := hz_tr R ag bf (hz_be R ag bf cn np P).2.2 (hz_be R ag bf cn np P).2.1 (hz_be R ag bf cn np P).1 now cn P (hz_be R ag bf cn np P).2.1.toNat
def hz_it (R : hz_P → Nat → Int) (ag bf : Nat → Int32) (cn : Nat) (np : Int) (now : Int32) (P : hz_P) : Nat → hz_P
  | 0 => P
  | k + 1 => hz_sp R ag bf cn np now (hz_it R ag bf cn np now P k)
/-- all that was taken off -/
def hz_sa2 (R : hz_P → Nat → Int) (ag bf : Nat → Int32) (cn : Nat) (np : Int) (now : Int32) (P : hz_P) : Nat → Int32
  | 0 => 0
  | k + 1 => hz_sa2 R ag bf cn np now P k + Int32.ofInt (hz_be R ag bf cn np (hz_it R ag bf cn np now P k)).1 * Int32.ofInt (hz_be R ag bf cn np (hz_it R ag bf cn np now P k)).2.1
def hz_NT (R : hz_P → Nat → Int) (ag bf : Nat → Int32) (cn : Nat) (np : Int) (now : Int32) (P : hz_P) (k : Nat) : Prop := (∀ j, j < k → hz_go R ag bf cn np (hz_it R ag bf cn np now P j)) ∧ ¬ hz_go R ag bf cn np (hz_it R ag bf cn np now P k)
theorem hz_NT_u {R : hz_P → Nat → Int} {ag bf : Nat → Int32} {cn : Nat} {np : Int} {now : Int32} {P : hz_P} {k k' : Nat} (h : hz_NT R ag bf cn np now P k) (h' : hz_NT R ag bf cn np now P k') : k = k' := by
  rcases (show k < k' ∨ k = k' ∨ k' < k by omega) with z | z | z
  · exact absurd (h'.1 k z) h.2
  · exact z
  · exact absurd (h.1 k' z) h'.2
section HZG
variable {R : hz_P → Nat → Int} {ag bf : Nat → Int32} {cn : Nat} {np : Int} {now : Int32} {P : hz_P}
theorem hz_V_0 {r : Nat → Int} (h : ∀ c, c < cn → 0 ≤ r c) (x : Int) : 0 ≤ hz_V r ag bf cn x := by
  unfold hz_V
  have key : ∀ (mt : Nat → Bool) (k : Nat), k ≤ cn → 0 ≤ hz_sm r mt k := by
    intro mt k
    induction k with
    | zero => intro _; exact Int.le_refl _
    | succ k ih =>
      intro hk
      have := ih (by omega); have := h k (by omega)
      simp only [hz_sm]; split <;> omega
  exact key _ cn (Nat.le_refl _)
theorem hz_sm_ub {r : Nat → Int} {mt : Nat → Bool} : ∀ n : Nat, (∀ c, c < n → 0 ≤ r c ∧ r c ≤ 609999) → 0 ≤ hz_sm r mt n ∧ hz_sm r mt n ≤ 609999 * (n : Int) := by
  intro n
  induction n with
  | zero => intro _; exact ⟨Int.le_refl _, by simp [hz_sm]⟩
  | succ n ih =>
    intro h
    have a := ih (fun c hc => h c (by omega)); have b := h n (by omega)
    simp only [hz_sm]; split <;> omega
/-- what stands behind a ring: less is left, the pairs' sums, one claim less that is open -/
theorem hz_sp_1 (HR : hz_HR R now cn) (HN : ∀ (P : hz_P) (c : Nat), 0 ≤ R P c) (HB : hz_RB R cn P) (hag : ∀ c, c < cn → 0 ≤ (ag c).toInt ∧ (ag c).toInt < 40 ∧ 0 ≤ (bf c).toInt ∧ (bf c).toInt < 40) (hnp : 0 ≤ np ∧ np ≤ 40) (hgo : 0 < (hz_be R ag bf cn np P).2.1) : (∀ c, c < cn → R (hz_sp R ag bf cn np now P) c ≤ R P c) ∧ hz_RB R cn (hz_sp R ag bf cn np now P) ∧ ((hz_nP (hz_sp R ag bf cn np now P) : Nat) : Int) = hz_nP P + hz_ne (R P) ag bf (hz_be R ag bf cn np P).2.2 (hz_be R ag bf cn np P).2.1 (hz_be R ag bf cn np P).1 cn (hz_be R ag bf cn np P).2.1.toNat ∧ (∀ q p : Int, 0 ≤ p → p < 40 → hz_V (R (hz_sp R ag bf cn np now P)) ag bf cn (40 * q + p) = hz_V (R P) ag bf cn (40 * q + p) - (if hz_eb (hz_be R ag bf cn np P).2.2 (hz_be R ag bf cn np P).2.1 q p (hz_be R ag bf cn np P).2.1.toNat = true then (hz_be R ag bf cn np P).1 else 0)) ∧ hz_op (R (hz_sp R ag bf cn np now P)) cn + 1 ≤ hz_op (R P) cn := by
  have hbf : ∀ c, c < cn → 0 ≤ (bf c).toInt ∧ (bf c).toInt < 40 := fun c hc => (hag c hc).2.2
  have RGb := hz_F1_R (V := hz_V (R P) ag bf cn) (np := np) (hz_V_0 (fun c _ => HN P c)) np.toNat (by omega)
  have RGb : hz_RG (hz_V (R P) ag bf cn) np (hz_be R ag bf cn np P) := RGb
  unfold hz_sp
  generalize hz_be R ag bf cn np P = o at *
  obtain ⟨l, n, g⟩ := o
  obtain ⟨r0, r1⟩ := RGb
  obtain ⟨n2, n4, l1, gb, gd, gl, ⟨k0, hk0, ek0⟩⟩ := r1.resolve_left (by intro z; have : (l, n, g).2.1 = 0 := z; omega)
  have n2 : 2 ≤ n := n2
  have n4 : n ≤ 4 := n4
  have l1 : 1 ≤ l := l1
  have gb : ∀ i : Nat, (i : Int) < n → 0 ≤ g i ∧ g i < np := gb
  have hmod : ∀ i : Nat, ((((i : Int) + 1) % n).toNat : Int) < n := fun i => by
    have h1 := Int.emod_nonneg ((i : Int) + 1) (show n ≠ 0 by omega)
    have h2 := Int.emod_lt_of_pos ((i : Int) + 1) (show 0 < n by omega)
    omega
  have gl : ∀ i : Nat, (i : Int) < n → l ≤ hz_sm (R P) (hz_mt ag bf (g i) (g (((i : Int) + 1) % n).toNat)) cn := fun i hi => by
    have b := gb _ (hmod i)
    rw [← hz_V_m ⟨b.1, by omega⟩ hbf]; exact gl i hi
  have T := hz_tr_1 (ag := ag) (bf := bf) (n := n) (l := l) (g := g) (P := P) HR HN HB l1 ⟨n2, n4⟩ gd gl n.toNat (by omega)
  obtain ⟨a, b, d, f⟩ := T
  show (∀ c, c < cn → R (hz_tr R ag bf g n l now cn P n.toNat) c ≤ R P c) ∧ hz_RB R cn (hz_tr R ag bf g n l now cn P n.toNat) ∧ ((hz_nP (hz_tr R ag bf g n l now cn P n.toNat) : Nat) : Int) = hz_nP P + hz_ne (R P) ag bf g n l cn n.toNat ∧ _ ∧ _
  refine ⟨a, fun c hc => ⟨HN _ _, Int.le_trans (a c hc) (HB c hc).2⟩, d, fun q p hp0 hp1 => ?_, ?_⟩
  · show hz_V (R (hz_tr R ag bf g n l now cn P n.toNat)) ag bf cn (40 * q + p) = hz_V (R P) ag bf cn (40 * q + p) - (if hz_eb g n q p n.toNat = true then l else 0)
    rw [hz_V_m ⟨hp0, hp1⟩ hbf, hz_V_m ⟨hp0, hp1⟩ hbf, f q p]
  · show hz_op (R (hz_tr R ag bf g n l now cn P n.toNat)) cn + 1 ≤ hz_op (R P) cn
    have hk0 : (k0 : Int) < n := hk0
    have bk := gb _ (hmod k0)
    have ek : l = hz_sm (R P) (hz_mt ag bf (g k0) (g (((k0 : Int) + 1) % n).toNat)) cn := by
      rw [← hz_V_m ⟨bk.1, by omega⟩ hbf]; exact ek0
    obtain ⟨c, hc, hm, hp⟩ := hz_sm_p cn (show 0 < hz_sm (R P) (hz_mt ag bf (g k0) (g (((k0 : Int) + 1) % n).toNat)) cn by omega)
    have ez : hz_sm (R (hz_tr R ag bf g n l now cn P n.toNat)) (hz_mt ag bf (g k0) (g (((k0 : Int) + 1) % n).toNat)) cn ≤ 0 := by
      rw [f, if_pos ((hz_eb_t n.toNat).mpr ⟨k0, by omega, rfl, rfl⟩)]; omega
    exact hz_op_lt cn a hc hp (hz_sm_0 cn (fun c _ => HN _ c) ez c hc hm)
theorem hz_it_1 (HR : hz_HR R now cn) (HN : ∀ (P : hz_P) (c : Nat), 0 ≤ R P c) (HB : hz_RB R cn P) (hag : ∀ c, c < cn → 0 ≤ (ag c).toInt ∧ (ag c).toInt < 40 ∧ 0 ≤ (bf c).toInt ∧ (bf c).toInt < 40) (hnp : 0 ≤ np ∧ np ≤ 40) : ∀ k : Nat, (∀ j, j < k → hz_go R ag bf cn np (hz_it R ag bf cn np now P j)) → hz_RB R cn (hz_it R ag bf cn np now P k) ∧ hz_op (R (hz_it R ag bf cn np now P k)) cn + k ≤ cn := by
  intro k
  induction k with
  | zero => intro _; exact ⟨HB, by have := (hz_op_b (r := R P) cn).2; simp only [hz_it]; omega⟩
  | succ k ih =>
    intro h
    obtain ⟨a, b⟩ := ih (fun j hj => h j (by omega))
    have s := hz_sp_1 (P := hz_it R ag bf cn np now P k) HR HN a hag hnp (h k (by omega)).1
    refine ⟨s.2.1, ?_⟩
    have := s.2.2.2.2
    simp only [hz_it]
    omega
/-- as many rings as claims: then there is none more -/
theorem hz_it_end (HR : hz_HR R now cn) (HN : ∀ (P : hz_P) (c : Nat), 0 ≤ R P c) (HB : hz_RB R cn P) (hag : ∀ c, c < cn → 0 ≤ (ag c).toInt ∧ (ag c).toInt < 40 ∧ 0 ≤ (bf c).toInt ∧ (bf c).toInt < 40) (hnp : 0 ≤ np ∧ np ≤ 40) {k : Nat} (h : ∀ j, j < k → hz_go R ag bf cn np (hz_it R ag bf cn np now P j)) (hk : cn ≤ k) : ¬ hz_go R ag bf cn np (hz_it R ag bf cn np now P k) := by
  intro hg
  have h2 := hz_it_1 HR HN HB hag hnp (k + 1) (fun j hj => by
    by_cases z : j = k
    · subst z; exact hg
    · exact h j (by omega))
  have := h2.2
  have := (hz_op_b (r := R (hz_it R ag bf cn np now P (k + 1))) cn).1
  omega
end HZG
/-! what a payment does to what is left -/
def hz_RP (odf szf gdf owf svf : Nat → Int32) (rc : Nat → Int) (now : Int) (P : hz_P) (c : Nat) : Int := hz_Rn odf szf gdf owf svf rc P.1 P.2.1 P.2.2.1 P.2.2.2.1 P.2.2.2.2.1 now P.2.2.2.2.2 c
theorem hz_RP_N {odf szf gdf owf svf : Nat → Int32} {rc : Nat → Int} {now : Int} (P : hz_P) (c : Nat) : 0 ≤ hz_RP odf szf gdf owf svf rc now P c := hz_rs_b
theorem hz_RP_HR {odf szf gdf owf svf : Nat → Int32} {rc : Nat → Int} {now : Int32} {N : Nat} (hN : N ≤ 100) : hz_HR (hz_RP odf szf gdf owf svf rc now.toInt) now N := by
  intro P c s hc hs hle c' hc'
  have hcI : (Int32.ofNat c).toInt = (c : Int) := Int32.toInt_ofNat_of_lt (by omega)
  unfold hz_RP hz_Rn hz_ap
  show hz_rs (svf c').toInt (hz_bl (odf c').toInt (szf c').toInt (gdf c').toInt (owf c').toInt (rc c') now.toInt (hx_ps (hx_up P.1 P.2.2.2.2.2 (Int32.ofNat c)) (hx_up P.2.1 P.2.2.2.2.2 now) (hx_up P.2.2.1 P.2.2.2.2.2 s) (hx_up P.2.2.2.1 P.2.2.2.2.2 now) (hx_up P.2.2.2.2.1 P.2.2.2.2.2 (-1)) now.toInt now.toInt (c' : Int) (P.2.2.2.2.2 + 1))) now.toInt = _
  by_cases z : c' = c
  · subst z
    rw [if_pos rfl]
    have e : hx_ps (hx_up P.1 P.2.2.2.2.2 (Int32.ofNat c')) (hx_up P.2.1 P.2.2.2.2.2 now) (hx_up P.2.2.1 P.2.2.2.2.2 s) (hx_up P.2.2.2.1 P.2.2.2.2.2 now) (hx_up P.2.2.2.2.1 P.2.2.2.2.2 (-1)) now.toInt now.toInt (c' : Int) (P.2.2.2.2.2 + 1) = hx_ps P.1 P.2.1 P.2.2.1 P.2.2.2.1 P.2.2.2.2.1 now.toInt now.toInt (c' : Int) P.2.2.2.2.2 + s.toInt := by
      simp only [hx_ps, hx_up_at]
      rw [if_pos ⟨hcI, Int.le_refl _, Int.le_refl _, Or.inl (by decide)⟩]
      congr 1
      exact hx_ps_congr _ (fun j hj => by rw [hx_up_ne (by omega), hx_up_ne (by omega), hx_up_ne (by omega), hx_up_ne (by omega), hx_up_ne (by omega)]; exact ⟨rfl, rfl, rfl, rfl, rfl⟩)
    rw [e]
    unfold hz_RP hz_Rn at hle
    revert hle
    generalize hx_ps P.1 P.2.1 P.2.2.1 P.2.2.2.1 P.2.2.2.2.1 now.toInt now.toInt (c' : Int) P.2.2.2.2.2 = ps
    intro hle
    unfold hz_rs hz_bl hz_pdy at *
    (repeat' split at hle) <;> (repeat' split) <;> omega
  · rw [if_neg z]
    rw [hx_ps_pay rfl rfl rfl rfl rfl (by rw [hcI]; omega)]
theorem hz_Rn_b {odf wkf owf szf gdf svf : Nat → Int32} {rc : Nat → Int} {pof pdf psm pkf pst : Nat → Int32} {now : Int} {pm c : Nat} (hCB : hz_CB odf wkf owf szf gdf svf) (hps : ∀ j, j < 600 → 0 ≤ (psm j).toInt ∧ (psm j).toInt ≤ 610000) (hpm : pm ≤ 600) (hc : c < 100) (hrc : 0 ≤ rc c ∧ rc c ≤ 9999) : 0 ≤ hz_Rn odf szf gdf owf svf rc pof pdf psm pkf pst now pm c ∧ hz_Rn odf szf gdf owf svf rc pof pdf psm pkf pst now pm c ≤ 609999 := by
  have h := hCB c hc
  have hp := hz_ps_b (pof := pof) (pdf := pdf) (pkf := pkf) (pst := pst) (d := now) (k := now) (c := (c : Int)) hps pm hpm
  unfold hz_Rn hz_rs hz_bl hz_al hz_pdy
  (repeat' split) <;> omega
/-! THE PAIRS' SUMS as an array; what a ring takes off it -/
def hz_DW (ow : Nat → Int32) (r : Nat → Int) (ag bf : Nat → Int32) (n : Nat) : Prop := ∀ x : Nat, x < 1600 → (ow x).toInt = hz_V r ag bf n (x : Int)
theorem hz_DW_0 {ow ag bf : Nat → Int32} {r : Nat → Int} (h : ∀ j : Nat, (j : Int) < 1600 → ow j = 0) : hz_DW ow r ag bf 0 := fun x hx => by rw [h x (by omega)]; rfl
theorem hz_V_s {r : Nat → Int} {ag bf : Nat → Int32} {k : Nat} {x : Int} : hz_V r ag bf (k + 1) x = hz_V r ag bf k x + (if 40 * (ag k).toInt + (bf k).toInt = x then r k else 0) := by
  unfold hz_V
  simp only [hz_sm]
  congr 1
  by_cases z : 40 * (ag k).toInt + (bf k).toInt = x
  · rw [if_pos (decide_eq_true z), if_pos z]
  · rw [if_neg (fun y => z (of_decide_eq_true y)), if_neg z]
theorem hz_DW_s {ow ow1 ag bf : Nat → Int32} {r : Nat → Int} {k k1 : Int} {v : Int32} {ix : Nat} (h : hz_DW ow r ag bf k.toNat) (h0 : 0 ≤ k) (hk : k < 100) (hr : ∀ c : Nat, (c : Int) ≤ k → 0 ≤ r c ∧ r c ≤ 609999) (hv : v.toInt = r k.toNat) (ei : (ix : Int) = 40 * (ag k.toNat).toInt + (bf k.toNat).toInt) (hix : ix < 1600) (e : ow1 = hx_up ow ix (ow ix + v)) (e1 : k1 = k + 1) : hz_DW ow1 r ag bf k1.toNat := by
  subst e1
  have e2 : (k + 1).toNat = k.toNat + 1 := by omega
  rw [e2]
  intro x hx
  rw [hz_V_s, e]
  have hb := hr k.toNat (by omega)
  have hs := hz_sm_ub (r := r) (mt := fun c => decide (40 * (ag c).toInt + (bf c).toInt = (ix : Int))) k.toNat (fun c hc => hr c (by omega))
  have hs : 0 ≤ hz_V r ag bf k.toNat (ix : Int) ∧ hz_V r ag bf k.toNat (ix : Int) ≤ 609999 * ((k.toNat : Nat) : Int) := hs
  by_cases z : x = ix
  · subst z
    rw [hx_up_at, if_pos ei.symm]
    have h1 := h x hx
    rw [i32_add (h1) hv (by omega) (by omega)]
  · rw [hx_up_ne z, if_neg (by omega), h x hx, Int.add_zero]
theorem hz_DW_n {ow ag bf : Nat → Int32} {r : Nat → Int} {k k1 : Int} (h : hz_DW ow r ag bf k.toNat) (h0 : 0 ≤ k) (hv : r k.toNat = 0) (e1 : k1 = k + 1) : hz_DW ow r ag bf k1.toNat := by
  subst e1
  have e2 : (k + 1).toNat = k.toNat + 1 := by omega
  rw [e2]
  intro x hx
  rw [hz_V_s, h x hx, hv]
  split <;> omega
theorem hz_pa {i n : Int} (h0 : 0 ≤ i) (h1 : i < n) : (i + 1 < n → (i + 1) % n = i + 1) ∧ (¬ i + 1 < n → (i + 1) % n = 0) := by
  refine ⟨fun h => Int.emod_eq_of_lt (by omega) h, fun h => ?_⟩
  have : i + 1 = n := by omega
  rw [this, Int.emod_self]
/-- the pairs' sums, the ring's first k places taken off -/
def hz_DT (ow : Nat → Int32) (V : Int → Int) (g : Nat → Int) (n l : Int) (k : Nat) : Prop := ∀ q p : Int, 0 ≤ q → q < 40 → 0 ≤ p → p < 40 → (ow (40 * q + p).toNat).toInt = V (40 * q + p) - (if hz_eb g n q p k = true then l else 0)
theorem hz_DT_0 {ow ag bf : Nat → Int32} {r : Nat → Int} {g : Nat → Int} {n l : Int} {cn : Nat} (h : hz_DW ow r ag bf cn) : hz_DT ow (hz_V r ag bf cn) g n l 0 := fun q p h1 h2 h3 h4 => by
  rw [if_neg (fun z => by cases z), h _ (by omega), show (((40 * q + p).toNat : Nat) : Int) = 40 * q + p by omega]; omega
theorem hz_DT_s {ow ow1 : Nat → Int32} {V : Int → Int} {g : Nat → Int} {n l k k1 : Int} {v x : Int32} {ix : Nat} (h : hz_DT ow V g n l k.toNat) (h0 : 0 ≤ k) (hk : k < n) (hl : 0 ≤ l) (hlv : v.toInt = l) (gb : ∀ i : Nat, (i : Int) < n → 0 ≤ g i ∧ g i < 40) (gd : ∀ i j : Nat, (i : Int) < n → (j : Int) < n → i ≠ j → g i ≠ g j) (hV : l ≤ V (40 * g k.toNat + g ((k + 1) % n).toNat)) (hV2 : V (40 * g k.toNat + g ((k + 1) % n).toNat) ≤ 2147483647) (ei : (ix : Int) = 40 * g k.toNat + g ((k + 1) % n).toNat) (ex : x = ow ix - v) (e : ow1 = hx_up ow ix x) (e1 : k1 = k + 1) : hz_DT ow1 V g n l k1.toNat := by
  subst e1
  have e2 : (k + 1).toNat = k.toNat + 1 := by omega
  have ek : ((k.toNat : Nat) : Int) = k := by omega
  have hm1 := Int.emod_nonneg (k + 1) (show n ≠ 0 by omega)
  have hm2 := Int.emod_lt_of_pos (k + 1) (show 0 < n by omega)
  have b1 := gb k.toNat (by omega)
  have b2 := gb ((k + 1) % n).toNat (by omega)
  rw [e2]
  intro q p h1 h2 h3 h4
  rw [e]
  by_cases z : g k.toNat = q ∧ g ((k + 1) % n).toNat = p
  · obtain ⟨z1, z2⟩ := z
    subst z1; subst z2
    have eix : (40 * g k.toNat + g ((k + 1) % n).toNat).toNat = ix := by omega
    have hno : ¬ hz_eb g n (g k.toNat) (g ((k + 1) % n).toNat) k.toNat = true := fun y => by
      obtain ⟨i, y1, y2, _⟩ := (hz_eb_t _).mp y
      exact gd i k.toNat (by omega) (by omega) (by omega) y2
    have hh := h _ _ h1 h2 h3 h4
    rw [if_neg hno, eix] at hh
    rw [eix, hx_up_at, if_pos ((hz_eb_t _).mpr ⟨k.toNat, by omega, rfl, by rw [ek]⟩), ex]
    exact i32_sub (by omega) hlv (by omega) (by omega)
  · rw [hz_eb_n (by rw [ek]; exact z), hx_up_ne (by omega)]
    exact h q p h1 h2 h3 h4
theorem hz_DT_e {ow ag bf : Nat → Int32} {r r1 : Nat → Int} {g : Nat → Int} {n l : Int} {cn k : Nat} (h : hz_DT ow (hz_V r ag bf cn) g n l k) (hV : ∀ q p : Int, 0 ≤ p → p < 40 → hz_V r1 ag bf cn (40 * q + p) = hz_V r ag bf cn (40 * q + p) - (if hz_eb g n q p k = true then l else 0)) : hz_DW ow r1 ag bf cn := fun x hx => by
  have e : (40 * ((x : Int) / 40) + (x : Int) % 40) = (x : Int) := by omega
  have := h ((x : Int) / 40) ((x : Int) % 40) (by omega) (by omega) (by omega) (by omega)
  rw [← hV _ _ (by omega) (by omega), e, Int.toNat_natCast] at this
  exact this
/-- one claim more is gone through, as it is done by hand -/
theorem hz_cn_y {r : Nat → Int} {mt : Nat → Bool} {s l m k k1 l1 m1 o : Int} (h : hz_cn r mt s k.toNat = (l, m)) (h0 : 0 ≤ k) (hl : 0 < l) (hm : mt k.toNat = true) (hr : 0 < r k.toNat) (ho : o = hz_mi l (r k.toNat)) (e1 : l1 = l - o) (e2 : m1 = m + 1) (e : k1 = k + 1) : hz_cn r mt s k1.toNat = (l1, m1) := by
  subst e; subst e1; subst e2; subst ho
  have e : (k + 1).toNat = k.toNat + 1 := by omega
  rw [e]; simp only [hz_cn, h]; rw [if_pos ⟨hl, hm, hr⟩]
theorem hz_cn_n {r : Nat → Int} {mt : Nat → Bool} {s l m k k1 : Int} (h : hz_cn r mt s k.toNat = (l, m)) (h0 : 0 ≤ k) (hn : ¬ (0 < l ∧ mt k.toNat = true ∧ 0 < r k.toNat)) (e : k1 = k + 1) : hz_cn r mt s k1.toNat = (l, m) := by
  subst e
  have e : (k + 1).toNat = k.toNat + 1 := by omega
  rw [e]; simp only [hz_cn, h]; rw [if_neg hn]
theorem hz_cn_z {r : Nat → Int} {mt : Nat → Bool} {s l m : Int} {k : Nat} (h : hz_cn r mt s k = (l, m)) (hl : l ≤ 0) : ∀ j : Nat, k ≤ j → hz_cn r mt s j = (l, m) := by
  intro j
  induction j with
  | zero => intro hj; have : k = 0 := by omega
            subst this; exact h
  | succ j ih =>
    intro hj
    by_cases z : k = j + 1
    · subst z; exact h
    · have e := ih (by omega)
      simp only [hz_cn, e]
      rw [if_neg (fun y => by have := y.1; omega)]
theorem hz_tk_y {R : hz_P → Nat → Int} {mt : Nat → Bool} {now c o : Int32} {P Q Q1 : hz_P} {s l k k1 l1 : Int} (h : hz_tk R mt now P s k.toNat = (Q, l)) (h0 : 0 ≤ k) (hk : k < 100) (hl : 0 < l) (hm : mt k.toNat = true) (hr : 0 < R Q k.toNat) (hb : R Q k.toNat ≤ 609999) (hc : c.toInt = k) (ho : o.toInt = hz_mi l (R Q k.toNat)) (eQ : Q1 = hz_ap Q c o now) (e1 : l1 = l - o.toInt) (e : k1 = k + 1) : hz_tk R mt now P s k1.toNat = (Q1, l1) := by
  subst e; subst e1; subst eQ
  have e : (k + 1).toNat = k.toNat + 1 := by omega
  have m1 := hz_mi_l (a := l) (b := R Q k.toNat)
  have m2 := hz_mi_c (a := l) (b := R Q k.toNat)
  have ec : Int32.ofNat k.toNat = c := Int32.toInt_inj.mp (by rw [Int32.toInt_ofNat_of_lt (by omega)]; omega)
  have eo : Int32.ofInt (hz_mi l (R Q k.toNat)) = o := Int32.toInt_inj.mp (by rw [hz_ofI (by omega) (by omega)]; omega)
  rw [e]; simp only [hz_tk, h]; rw [if_pos ⟨hl, hm, hr⟩, ec, eo, ho]
theorem hz_tk_n {R : hz_P → Nat → Int} {mt : Nat → Bool} {now : Int32} {P Q : hz_P} {s l k k1 : Int} (h : hz_tk R mt now P s k.toNat = (Q, l)) (h0 : 0 ≤ k) (hn : ¬ (0 < l ∧ mt k.toNat = true ∧ 0 < R Q k.toNat)) (e : k1 = k + 1) : hz_tk R mt now P s k1.toNat = (Q, l) := by
  subst e
  have e : (k + 1).toNat = k.toNat + 1 := by omega
  rw [e]; simp only [hz_tk, h]; rw [if_neg hn]
theorem hz_tk_z {R : hz_P → Nat → Int} {mt : Nat → Bool} {now : Int32} {P Q : hz_P} {s l : Int} {k : Nat} (h : hz_tk R mt now P s k = (Q, l)) (hl : l ≤ 0) : ∀ j : Nat, k ≤ j → hz_tk R mt now P s j = (Q, l) := by
  intro j
  induction j with
  | zero => intro hj; have : k = 0 := by omega
            subst this; exact h
  | succ j ih =>
    intro hj
    by_cases z : k = j + 1
    · subst z; exact h
    · have e := ih (by omega)
      simp only [hz_tk, e]
      rw [if_neg (fun y => by have := y.1; omega)]
theorem hz_ne_s {r : Nat → Int} {ag bf : Nat → Int32} {g : Nat → Int} {n l k k1 s s1 m : Int} {cn : Nat} {l9 : Int} (h : s = hz_ne r ag bf g n l cn k.toNat) (h0 : 0 ≤ k) (hc : hz_cn r (hz_mt ag bf (g k.toNat) (g ((k + 1) % n).toNat)) l cn = (l9, m)) (es : s1 = s + m) (e : k1 = k + 1) : s1 = hz_ne r ag bf g n l cn k1.toNat := by
  subst e
  have e : (k + 1).toNat = k.toNat + 1 := by omega
  have ek : ((k.toNat : Nat) : Int) = k := by omega
  rw [e]; simp only [hz_ne, ek, hc]; rw [← h, es]
theorem hz_tr_s {R : hz_P → Nat → Int} {ag bf : Nat → Int32} {g : Nat → Int} {n l k k1 : Int} {now : Int32} {cn : Nat} {P Q Q1 : hz_P} {l9 : Int} (h : Q = hz_tr R ag bf g n l now cn P k.toNat) (h0 : 0 ≤ k) (hc : hz_tk R (hz_mt ag bf (g k.toNat) (g ((k + 1) % n).toNat)) now Q l cn = (Q1, l9)) (e : k1 = k + 1) : Q1 = hz_tr R ag bf g n l now cn P k1.toNat := by
  subst e
  have e : (k + 1).toNat = k.toNat + 1 := by omega
  have ek : ((k.toNat : Nat) : Int) = k := by omega
  rw [e]; simp only [hz_tr, ek]; rw [← h, hc]
section HZN
variable {p : Program} {l : Launch} {e : Env} {R : Room} {s : State} {m : MethodId} {args : Array Value} {below : List Frame} {meth : Method} {c : Code} {H : Heap} {locs : List Loc} {cells slots : Nat} {Q : State → Prop}
variable {cc : ByteArray} {pc : Nat} {ls : Array Slot} {rest st0 : List Value} {D : va_G} {cl : List vw_C} {A : Nat → Prop} {a : Nat} {tys : hx_y} {H0 : Heap} {tb : List hx_d} {L : List Nat} {h : hx_h}
variable {y : MethodName} {bytes : ByteArray} {maxL nL mc ms n index : Nat} {ret : Option FieldType} {ws : List Cond} {rm : Room} {Ts : List Cond} {own C host : String} {As : List Value} {Qc : Array Value → State → Outcome → State → Prop}
theorem hz_copyi (hx : p.tables.exec = Jvm.exec) (hb : c.code = cc) (hml : c.maxLocals = ls.size) (hown : s.vm.findClass own = some m.cls) (hlink : (Cond.methodLink own index arraycopyName).before args s = true) (hnat : (Cond.native arraycopyName).before args s = true) (hstat : (Cond.static arraycopyName).before args s = true) (hini : (Cond.initialized "java/lang/System").before args s = true)
    (hW : hx_W tb tys D cl A H0 L h s H locs) (hT : hx_T tb L h) {a0 t t1 : Nat} (g0 : hx_g L h a0 t) (g1 : hx_g L h a t1) {t0 n0 n1 : Nat} {b0 b1 : Int × Int} (hd0 : tb[t]? = some (.inr (t0, n0, .inl b0))) (hd1 : tb[t1]? = some (.inr (t0, n1, .inl b1))) {cA : ClassId} (ht : tys[t0]? = some (cA, .int)) (hbb : b1.1 ≤ b0.1 ∧ b0.2 ≤ b1.2) {z1 z2 z3 : Int32} (e1 : z1 = 0) (e2 : z2 = 0) (h0 : 0 ≤ z3.toInt) (h3 : z3.toInt ≤ n0) (h4 : z3.toInt ≤ n1)
    (hframes : 1 ≤ R.frames) (hlocals : (rest.map fun v => v.category).sum + (nativeFrameWords "java/lang/System" "arraycopy" 5 + 11) ≤ R.locals) (hdg : decode cc pc = .ok (.invokestatic index, 3))
    (kk : ∀ (H1 : Heap) (locs1 : List Loc) (h1 : hx_h), h1.2.1 a = va_cpy (h.2.1 a0) (h.2.1 a) 0 0 z3.toNatClampNeg → hx_W tb tys D cl A H0 L h1 s H1 locs1 → hx_T tb L h1 → hx_S tb [(t1, 0)] L h L h1 → W p l e R s m args below meth c H1 locs1 cells slots Q (F0 m (pc + 3) ls rest)) : W p l e R s m args below meth c H locs cells slots Q (F0 m pc ls (.int z3 :: .int z2 :: .ref a :: .int z1 :: .ref a0 :: rest)) := by
  subst e1; subst e2
  obtain ⟨k0, hk0⟩ := hx_at (tb := tb) (tys := tys) (h := h) g0.1
  obtain ⟨k1, hk1⟩ := hx_at (tb := tb) (tys := tys) (h := h) g1.1
  have hk2 := hk1
  have hcA : hx_t tys t0 = cA := by simp [hx_t, ht]
  rw [hx_e_arr g0.2 hd0, hcA] at hk0
  rw [hx_e_arr g1.2 hd1, hcA] at hk1
  obtain ⟨hK, hP, hD, hS, hA⟩ := hW
  have hcl : z3.toNatClampNeg = z3.toInt.toNat := rfl
  have hneg : ¬ z3 < 0 := by rw [Int32.lt_iff_toInt_lt]; simp; omega
  have z0 : (0 : Int32).toNatClampNeg = 0 := by decide
  refine va_copyi hx hb hml hown hlink hnat hstat hini hK hP hD hS k0 k1 t0 t0 hk0 hk1 ht ht rfl (by decide) (by decide) hneg (by rw [z0, hcl]; omega) (by rw [z0, hcl]; omega) (fun _ _ => rfl) hframes hlocals hdg (fun H1 locs1 hP2 hD2 hS2 => ?_)
  rw [z0] at hP2 hD2
  have he : hx_e tb tys (h.1, fun x j => if x = a then va_cpy (h.2.1 a0) (h.2.1 a) 0 0 z3.toNatClampNeg j else h.2.1 x j, h.2.2) a = .inl (cA, n1, .inl (va_cpy (h.2.1 a0) (h.2.1 a) 0 0 z3.toNatClampNeg)) := by
    rw [hx_e_arr (h := (h.1, fun x j => if x = a then va_cpy (h.2.1 a0) (h.2.1 a) 0 0 z3.toNatClampNeg j else h.2.1 x j, h.2.2)) g1.2 hd1, hcA]
    simp [hx_a]
  rw [hx_set (h1 := (h.1, fun x j => if x = a then va_cpy (h.2.1 a0) (h.2.1 a) 0 0 z3.toNatClampNeg j else h.2.1 x j, h.2.2)) hD g1.1 hk2 he (fun x hxa => by simp [hx_e, hx_fs, hx_a, hxa])] at hP2 hD2
  refine kk H1 locs1 _ (funext fun j => if_pos rfl) ⟨hK, hP2, hD2, hS2, hA⟩ (fun q hq => ?_) ⟨fun q hq => ⟨hq, rfl⟩, fun q hq k hk => ⟨?_, rfl⟩⟩
  · by_cases hqa : q = a
    · subst hqa
      unfold hx_c
      show (match tb[h.1 q]? with | some (.inl (_, fs)) => _ | some (.inr (_, n, f)) => _ | none => False)
      rw [g1.2, hd1]
      intro k hk
      simp only [if_true]
      show b1.1 ≤ _ ∧ _ ≤ b1.2
      by_cases hkz : k < z3.toNatClampNeg
      · have e : va_cpy (h.2.1 a0) (h.2.1 q) 0 0 z3.toNatClampNeg k = h.2.1 a0 k := by simp [va_cpy, hkz]
        rw [e]
        have := hT.ei g0 hd0 (k := k) (by rw [hcl] at hkz; omega)
        exact ⟨Int.le_trans hbb.1 this.1, Int.le_trans this.2 hbb.2⟩
      · have e : va_cpy (h.2.1 a0) (h.2.1 q) 0 0 z3.toNatClampNeg k = h.2.1 q k := by simp [va_cpy, hkz]
        rw [e]
        exact hT.ei g1 hd1 hk
    · have h1 := hT q hq
      unfold hx_c at h1 ⊢
      simp only [hqa, if_false]
      exact h1
  · have hqa : q ≠ a := by
      intro z
      rw [z, g1.2, hd1] at hk
      exact hk (List.mem_singleton.mpr rfl)
    simp [hqa]
end HZN
end
section
/-! NETTED: room for the payments, what is left claim by claim -/
section HZM
variable {R : hz_P → Nat → Int} {now : Int32} {N : Nat}
theorem hz_rs_up {P Q : hz_P} {k : Nat} {s x c : Int32} {ix : Nat} {f f1 : Nat → Int32} (HR : hz_HR R now N) (hN : N ≤ 100) (h : ∀ c : Nat, (c : Int) < N → (f c).toInt = R P c) (hk : k < N) (h0 : 0 < s.toInt) (h1 : s.toInt ≤ R P k) (ei : ix = k) (hx : x.toInt = R P k - s.toInt) (hc : c.toInt = k) (e : f1 = hx_up f ix x) (eQ : Q = hz_ap P c s now) : ∀ c : Nat, (c : Int) < N → (f1 c).toInt = R Q c := by
  subst ei
  have ec : Int32.ofNat ix = c := Int32.toInt_inj.mp (by rw [Int32.toInt_ofNat_of_lt (by omega)]; omega)
  intro c' hc'
  rw [eQ, ← ec, HR P ix s hk h0 h1 c' (by omega), e]
  by_cases z : c' = ix
  · subst z; rw [hx_up_at, if_pos rfl, hx]
  · rw [hx_up_ne z, if_neg z]; exact h c' hc'
theorem hz_cn_m {r : Nat → Int} {mt : Nat → Bool} {s : Int} : ∀ a b : Nat, a ≤ b → (hz_cn r mt s a).2 ≤ (hz_cn r mt s b).2 := by
  intro a b
  induction b with
  | zero => intro h; have : a = 0 := by omega
            subst this; exact Int.le_refl _
  | succ b ih =>
    intro h
    by_cases z : a = b + 1
    · subst z; exact Int.le_refl _
    · have := ih (by omega)
      simp only [hz_cn]
      split
      · show _ ≤ _ + 1; omega
      · exact this
theorem hz_cn_0 {r : Nat → Int} {mt : Nat → Bool} {s : Int} (n : Nat) : 0 ≤ (hz_cn r mt s n).2 := hz_cn_m 0 n (Nat.zero_le _)
theorem hz_ne_m {r : Nat → Int} {ag bf : Nat → Int32} {g : Nat → Int} {n l : Int} {cn : Nat} : ∀ a b : Nat, a ≤ b → hz_ne r ag bf g n l cn a ≤ hz_ne r ag bf g n l cn b := by
  intro a b
  induction b with
  | zero => intro h; have : a = 0 := by omega
            subst this; exact Int.le_refl _
  | succ b ih =>
    intro h
    by_cases z : a = b + 1
    · subst z; exact Int.le_refl _
    · have := ih (by omega)
      have := hz_cn_0 (r := r) (mt := hz_mt ag bf (g b) (g (((b : Int) + 1) % n).toNat)) (s := l) cn
      simp only [hz_ne]; omega
theorem hz_other {ag bf : Nat → Int32} {n l : Int} {g : Nat → Int} {P : hz_P} (HR : hz_HR R now N) (HN : ∀ (P : hz_P) (c : Nat), 0 ≤ R P c) (HB : hz_RB R N P) (hl : 1 ≤ l) (hn : 2 ≤ n ∧ n ≤ 4) (hd : ∀ i j : Nat, (i : Int) < n → (j : Int) < n → i ≠ j → g i ≠ g j) (hV : ∀ i : Nat, (i : Int) < n → l ≤ hz_sm (R P) (hz_mt ag bf (g i) (g (((i : Int) + 1) % n).toNat)) N) {i : Nat} (hi : (i : Int) < n) : hz_RB R N (hz_tr R ag bf g n l now N P i) ∧ hz_cn (R (hz_tr R ag bf g n l now N P i)) (hz_mt ag bf (g i) (g (((i : Int) + 1) % n).toNat)) l N = hz_cn (R P) (hz_mt ag bf (g i) (g (((i : Int) + 1) % n).toNat)) l N ∧ ((hz_nP (hz_tr R ag bf g n l now N P i) : Nat) : Int) = hz_nP P + hz_ne (R P) ag bf g n l N i := by
  obtain ⟨a, b, d, _⟩ := hz_tr_1 (ag := ag) (bf := bf) HR HN HB hl hn hd hV i (by omega)
  refine ⟨fun c hc => ⟨HN _ _, Int.le_trans (a c hc) (HB c hc).2⟩, hz_cn_e N (fun c hc hm => b c hc (fun j hj => hz_mt_f (fun z => ?_))), d⟩
  exact hd j i (by omega) hi (by omega) (z.1.symm.trans (hz_mt_t.mp hm).1)
theorem hz_room {ag bf : Nat → Int32} {n l : Int} {g : Nat → Int} {P Q : hz_P} {left : Int} (HR : hz_HR R now N) (HN : ∀ (P : hz_P) (c : Nat), 0 ≤ R P c) (HB : hz_RB R N P) (hl : 1 ≤ l) (hn : 2 ≤ n ∧ n ≤ 4) (hd : ∀ i j : Nat, (i : Int) < n → (j : Int) < n → i ≠ j → g i ≠ g j) (hV : ∀ i : Nat, (i : Int) < n → l ≤ hz_sm (R P) (hz_mt ag bf (g i) (g (((i : Int) + 1) % n).toNat)) N) (h600 : (hz_nP P : Int) + hz_ne (R P) ag bf g n l N n.toNat ≤ 600) {i k : Nat} (hi : (i : Int) < n) (hk : k < N) (hq : hz_tk R (hz_mt ag bf (g i) (g (((i : Int) + 1) % n).toNat)) now (hz_tr R ag bf g n l now N P i) l k = (Q, left)) (h0 : 0 < left) (hm : hz_mt ag bf (g i) (g (((i : Int) + 1) % n).toNat) k = true) (hr : 0 < R Q k) : (hz_nP Q : Int) + 1 ≤ 600 := by
  obtain ⟨o1, o2, o3⟩ := hz_other (ag := ag) (bf := bf) HR HN HB hl hn hd hV hi
  have T := (hz_tk_1 (mt := hz_mt ag bf (g i) (g (((i : Int) + 1) % n).toNat)) (P := hz_tr R ag bf g n l now N P i) (s := l) HR o1 (k + 1) (by omega)).2.2.1
  have e1 : ((hz_nP (hz_tk R (hz_mt ag bf (g i) (g (((i : Int) + 1) % n).toNat)) now (hz_tr R ag bf g n l now N P i) l (k + 1)).1 : Nat) : Int) = (hz_nP Q : Int) + 1 := by
    simp only [hz_tk, hq]
    rw [if_pos ⟨h0, hm, hr⟩]
    show ((hz_nP Q + 1 : Nat) : Int) = _
    omega
  have m1 := hz_cn_m (r := R (hz_tr R ag bf g n l now N P i)) (mt := hz_mt ag bf (g i) (g (((i : Int) + 1) % n).toNat)) (s := l) (k + 1) N (by omega)
  rw [o2] at m1
  have m2 := hz_ne_m (r := R P) (ag := ag) (bf := bf) (g := g) (n := n) (l := l) (cn := N) (i + 1) n.toNat (by omega)
  simp only [hz_ne] at m2
  omega
theorem hz_roomT {ag bf : Nat → Int32} {n l : Int} {g : Nat → Int} {P : hz_P} (HR : hz_HR R now N) (HN : ∀ (P : hz_P) (c : Nat), 0 ≤ R P c) (HB : hz_RB R N P) (hl : 1 ≤ l) (hn : 2 ≤ n ∧ n ≤ 4) (hd : ∀ i j : Nat, (i : Int) < n → (j : Int) < n → i ≠ j → g i ≠ g j) (hV : ∀ i : Nat, (i : Int) < n → l ≤ hz_sm (R P) (hz_mt ag bf (g i) (g (((i : Int) + 1) % n).toNat)) N) (h600 : (hz_nP P : Int) + hz_ne (R P) ag bf g n l N n.toNat ≤ 600) {i : Nat} (hi : (i : Int) < n) : (hz_nP (hz_tr R ag bf g n l now N P i) : Int) + (hz_cn (R (hz_tr R ag bf g n l now N P i)) (hz_mt ag bf (g i) (g (((i : Int) + 1) % n).toNat)) l N).2 ≤ 600 := by
  obtain ⟨o1, o2, o3⟩ := hz_other (ag := ag) (bf := bf) HR HN HB hl hn hd hV hi
  have m2 := hz_ne_m (r := R P) (ag := ag) (bf := bf) (g := g) (n := n) (l := l) (cn := N) (i + 1) n.toNat (by omega)
  simp only [hz_ne] at m2
  rw [o2]
  omega
/-- what a ring that is gone for is -/
theorem hz_be_f {ag bf : Nat → Int32} {cn : Nat} {np : Int} {P : hz_P} {l n : Int} {g : Nat → Int} (HN : ∀ (P : hz_P) (c : Nat), 0 ≤ R P c) (hbf : ∀ c, c < cn → 0 ≤ (bf c).toInt ∧ (bf c).toInt < 40) (hnp : 0 ≤ np ∧ np ≤ 40) (e : hz_be R ag bf cn np P = (l, n, g)) (hn : 0 < n) : 1 ≤ l ∧ (2 ≤ n ∧ n ≤ 4) ∧ (∀ i : Nat, (i : Int) < n → 0 ≤ g i ∧ g i < 40) ∧ (∀ i j : Nat, (i : Int) < n → (j : Int) < n → i ≠ j → g i ≠ g j) ∧ (∀ i : Nat, (i : Int) < n → l ≤ hz_sm (R P) (hz_mt ag bf (g i) (g (((i : Int) + 1) % n).toNat)) cn) ∧ (∀ i : Nat, (i : Int) < n → l ≤ hz_V (R P) ag bf cn (40 * g i + g (((i : Int) + 1) % n).toNat)) := by
  have RGb := hz_F1_R (V := hz_V (R P) ag bf cn) (np := np) (hz_V_0 (fun c _ => HN P c)) np.toNat (by omega)
  have RGb : hz_RG (hz_V (R P) ag bf cn) np (hz_be R ag bf cn np P) := RGb
  rw [e] at RGb
  obtain ⟨r0, r1⟩ := RGb
  obtain ⟨n2, n4, l1, gb, gd, gl, _⟩ := r1.resolve_left (by intro z; have : n = 0 := z; omega)
  have n2 : 2 ≤ n := n2
  have n4 : n ≤ 4 := n4
  have gb : ∀ i : Nat, (i : Int) < n → 0 ≤ g i ∧ g i < np := gb
  refine ⟨l1, ⟨n2, n4⟩, fun i hi => ⟨(gb i hi).1, by have := (gb i hi).2; omega⟩, gd, fun i hi => ?_, gl⟩
  have h1 := Int.emod_nonneg ((i : Int) + 1) (show n ≠ 0 by omega)
  have h2 := Int.emod_lt_of_pos ((i : Int) + 1) (show 0 < n by omega)
  have b := gb (((i : Int) + 1) % n).toNat (by omega)
  rw [← hz_V_m ⟨b.1, by omega⟩ hbf]; exact gl i hi
end HZM

/-! NETTED, told step by step -/
theorem hz_ap_eq {pof pof1 pdf pdf1 psm psm1 pkf pkf1 pst pst1 : Nat → Int32} {n n1 : Nat} {c s now : Int32} (h : hz_AP n c now s now pof pof1 pdf pdf1 psm psm1 pkf pkf1 pst pst1) (e : n1 = n + 1) : ((pof1, pdf1, psm1, pkf1, pst1, n1) : hz_P) = hz_ap (pof, pdf, psm, pkf, pst, n) c s now := by
  obtain ⟨a1, a2, a3, a4, a5⟩ := h
  subst a1; subst a2; subst a3; subst a4; subst a5; subst e
  rfl
theorem hz_mi_2 {r a b : Int32} (h : (r = a ∧ a.toInt < b.toInt) ∨ (r = b ∧ b.toInt ≤ a.toInt)) : r.toInt = hz_mi a.toInt b.toInt := by
  unfold hz_mi
  rcases h with ⟨e, h⟩ | ⟨e, h⟩ <;> subst e <;> split <;> omega
theorem hz_V_ub {r : Nat → Int} {ag bf : Nat → Int32} {cn : Nat} (hr : ∀ c, c < cn → 0 ≤ r c ∧ r c ≤ 609999) (hcn : cn ≤ 100) (x : Int) : 0 ≤ hz_V r ag bf cn x ∧ hz_V r ag bf cn x ≤ 61000000 := by
  have h := hz_sm_ub (r := r) (mt := fun c => decide (40 * (ag c).toInt + (bf c).toInt = x)) cn hr
  have h : 0 ≤ hz_V r ag bf cn x ∧ hz_V r ag bf cn x ≤ 609999 * (cn : Int) := h
  omega
theorem hz_rs_s {f f1 : Nat → Int32} {r : Nat → Int} {k k1 : Int} {ix : Nat} {v : Int32} (h : ∀ c : Nat, (c : Int) < k → (f c).toInt = r c) (h0 : 0 ≤ k) (ei : (ix : Int) = k) (hv : v.toInt = r k.toNat) (e : f1 = hx_up f ix v) (e1 : k1 = k + 1) : ∀ c : Nat, (c : Int) < k1 → (f1 c).toInt = r c := by
  subst e1
  have e2 : ix = k.toNat := by omega
  subst e2
  intro c hc
  rw [e]
  by_cases z : c = k.toNat
  · subst z; rw [hx_up_at, hv]
  · rw [hx_up_ne z]; exact h c (by omega)
/-- what a ring that is taken is -/
def hz_RI (l n : Int) (g : Nat → Int) (r : Nat → Int) (ag bf : Nat → Int32) (cn : Nat) : Prop := 1 ≤ l ∧ (2 ≤ n ∧ n ≤ 4) ∧ (∀ i : Nat, (i : Int) < n → 0 ≤ g i ∧ g i < 40) ∧ (∀ i j : Nat, (i : Int) < n → (j : Int) < n → i ≠ j → g i ≠ g j) ∧ (∀ i : Nat, (i : Int) < n → l ≤ hz_sm r (hz_mt ag bf (g i) (g (((i : Int) + 1) % n).toNat)) cn) ∧ (∀ i : Nat, (i : Int) < n → l ≤ hz_V r ag bf cn (40 * g i + g (((i : Int) + 1) % n).toNat))
section HZO
variable {R : hz_P → Nat → Int} {now : Int32} {N : Nat} {ag bf : Nat → Int32} {cn : Nat} {np : Int} {P : hz_P} {l n : Int} {g : Nat → Int}
theorem hz_tk_RB {mt : Nat → Bool} {Q : hz_P} {s l : Int} {k : Nat} (HR : hz_HR R now N) (HN : ∀ (P : hz_P) (c : Nat), 0 ≤ R P c) (HB : hz_RB R N P) (hk : k ≤ N) (h : hz_tk R mt now P s k = (Q, l)) : hz_RB R N Q := by
  have T := (hz_tk_1 (mt := mt) (s := s) HR HB k hk).2.2.2.1
  rw [h] at T
  exact fun c hc => ⟨HN _ _, Int.le_trans (T c hc) (HB c hc).2⟩
theorem hz_room1 {mt : Nat → Bool} {Q : hz_P} {s left k : Int} (HR : hz_HR R now N) (HB : hz_RB R N P) (h600 : (hz_nP P : Int) + (hz_cn (R P) mt s N).2 ≤ 600) (h9 : 0 ≤ k) (hk : k.toNat < N) (hq : hz_tk R mt now P s k.toNat = (Q, left)) (h0 : 0 < left) (hm : mt k.toNat = true) (hr : 0 < R Q k.toNat) : (hz_nP Q : Int) + 1 ≤ 600 := by
  have T := (hz_tk_1 (mt := mt) (P := P) (s := s) HR HB (k.toNat + 1) (by omega)).2.2.1
  have e1 : ((hz_nP (hz_tk R mt now P s (k.toNat + 1)).1 : Nat) : Int) = (hz_nP Q : Int) + 1 := by
    simp only [hz_tk, hq]
    rw [if_pos ⟨h0, hm, hr⟩]
    show ((hz_nP Q + 1 : Nat) : Int) = _
    omega
  have m1 := hz_cn_m (r := R P) (mt := mt) (s := s) (k.toNat + 1) N (by omega)
  omega
theorem hz_roomI {Q : hz_P} {left j : Int} (HR : hz_HR R now N) (HN : ∀ (P : hz_P) (c : Nat), 0 ≤ R P c) (HB : hz_RB R N P) (hl : 1 ≤ l) (hn : 2 ≤ n ∧ n ≤ 4) (hd : ∀ i j : Nat, (i : Int) < n → (j : Int) < n → i ≠ j → g i ≠ g j) (hV : ∀ i : Nat, (i : Int) < n → l ≤ hz_sm (R P) (hz_mt ag bf (g i) (g (((i : Int) + 1) % n).toNat)) N) (h600 : (hz_nP P : Int) + hz_ne (R P) ag bf g n l N n.toNat ≤ 600) (hj0 : 0 ≤ j) (hj : j < n) {k : Nat} (hk : k < N) (hq : hz_tk R (hz_mt ag bf (g j.toNat) (g ((j + 1) % n).toNat)) now (hz_tr R ag bf g n l now N P j.toNat) l k = (Q, left)) (h0 : 0 < left) (hm : hz_mt ag bf (g j.toNat) (g ((j + 1) % n).toNat) k = true) (hr : 0 < R Q k) : (hz_nP Q : Int) + 1 ≤ 600 := by
  have e : ((j.toNat : Nat) : Int) = j := by omega
  exact hz_room (i := j.toNat) HR HN HB hl hn hd hV h600 (by omega) hk (by rw [e]; exact hq) h0 (by rw [e]; exact hm) hr
theorem hz_roomTI {Q : hz_P} {j : Int} (HR : hz_HR R now N) (HN : ∀ (P : hz_P) (c : Nat), 0 ≤ R P c) (HB : hz_RB R N P) (hl : 1 ≤ l) (hn : 2 ≤ n ∧ n ≤ 4) (hd : ∀ i j : Nat, (i : Int) < n → (j : Int) < n → i ≠ j → g i ≠ g j) (hV : ∀ i : Nat, (i : Int) < n → l ≤ hz_sm (R P) (hz_mt ag bf (g i) (g (((i : Int) + 1) % n).toNat)) N) (h600 : (hz_nP P : Int) + hz_ne (R P) ag bf g n l N n.toNat ≤ 600) (hj0 : 0 ≤ j) (hj : j < n) (hQ : Q = hz_tr R ag bf g n l now N P j.toNat) : (hz_nP Q : Int) + (hz_cn (R Q) (hz_mt ag bf (g j.toNat) (g ((j + 1) % n).toNat)) l N).2 ≤ 600 := by
  have e : ((j.toNat : Nat) : Int) = j := by omega
  have h := hz_roomT (ag := ag) (bf := bf) (i := j.toNat) HR HN HB hl hn hd hV h600 (by omega)
  rw [e] at h
  subst hQ
  exact h
theorem hz_otherI {Q : hz_P} {j : Int} (HR : hz_HR R now N) (HN : ∀ (P : hz_P) (c : Nat), 0 ≤ R P c) (HB : hz_RB R N P) (hl : 1 ≤ l) (hn : 2 ≤ n ∧ n ≤ 4) (hd : ∀ i j : Nat, (i : Int) < n → (j : Int) < n → i ≠ j → g i ≠ g j) (hV : ∀ i : Nat, (i : Int) < n → l ≤ hz_sm (R P) (hz_mt ag bf (g i) (g (((i : Int) + 1) % n).toNat)) N) (hj0 : 0 ≤ j) (hj : j < n) (hQ : Q = hz_tr R ag bf g n l now N P j.toNat) : hz_RB R N Q := by
  subst hQ
  exact (hz_other (ag := ag) (bf := bf) (i := j.toNat) HR HN HB hl hn hd hV (by omega)).1
theorem hz_rs_upI {cn k : Int} {Q : hz_P} {s x c : Int32} {ix : Nat} {f f1 : Nat → Int32} (HR : hz_HR R now cn.toNat) (hcn : 0 ≤ cn ∧ cn ≤ 100) (h : ∀ c : Nat, (c : Int) < cn → (f c).toInt = R P c) (h0 : 0 ≤ k) (hk : k < cn) (hs : 0 < s.toInt) (h1 : s.toInt ≤ R P k.toNat) (ei : (ix : Int) = k) (hx : x.toInt = R P k.toNat - s.toInt) (hc : c.toInt = k) (e : f1 = hx_up f ix x) (eQ : Q = hz_ap P c s now) : ∀ c : Nat, (c : Int) < cn → (f1 c).toInt = R Q c := by
  have q := hz_rs_up (N := cn.toNat) (k := k.toNat) HR (by omega) (fun c hc => h c (by omega)) (by omega) hs h1 (show ix = k.toNat by omega) hx (by omega) e eQ
  exact fun c hc => q c (by omega)
theorem hz_DT_W {ow : Nat → Int32} (HR : hz_HR R now N) (HN : ∀ (P : hz_P) (c : Nat), 0 ≤ R P c) (HB : hz_RB R N P) (hl : 1 ≤ l) (hn : 2 ≤ n ∧ n ≤ 4) (hd : ∀ i j : Nat, (i : Int) < n → (j : Int) < n → i ≠ j → g i ≠ g j) (hV : ∀ i : Nat, (i : Int) < n → l ≤ hz_sm (R P) (hz_mt ag bf (g i) (g (((i : Int) + 1) % n).toNat)) N) (hbf : ∀ c, c < N → 0 ≤ (bf c).toInt ∧ (bf c).toInt < 40) (h : hz_DT ow (hz_V (R P) ag bf N) g n l n.toNat) : hz_DW ow (R (hz_tr R ag bf g n l now N P n.toNat)) ag bf N :=
  hz_DT_e h (fun q p h0 h1 => by
    rw [hz_V_m ⟨h0, h1⟩ hbf, hz_V_m ⟨h0, h1⟩ hbf]
    exact (hz_tr_1 (ag := ag) (bf := bf) HR HN HB hl hn hd hV n.toNat (by omega)).2.2.2 q p)
theorem hz_it_s {Q0 Q1 : hz_P} {k k1 bl bs : Int} (h : Q0 = hz_it R ag bf cn np now P k.toNat) (h0 : 0 ≤ k) (e1 : (hz_be R ag bf cn np Q0).1 = bl) (e2 : (hz_be R ag bf cn np Q0).2.1 = bs) (hq : Q1 = hz_tr R ag bf (hz_be R ag bf cn np Q0).2.2 bs bl now cn Q0 bs.toNat) (e : k1 = k + 1) : Q1 = hz_it R ag bf cn np now P k1.toNat := by
  subst e; subst e1; subst e2
  have e : (k + 1).toNat = k.toNat + 1 := by omega
  rw [e, hq, h]; rfl
theorem hz_go_i {Q : hz_P} {bl bs ne : Int} {m : Nat} (e1 : (hz_be R ag bf cn np Q).1 = bl) (e2 : (hz_be R ag bf cn np Q).2.1 = bs) (en : hz_nP Q = m) (ee : ne = hz_ne (R Q) ag bf (hz_be R ag bf cn np Q).2.2 bs bl cn bs.toNat) : hz_go R ag bf cn np Q ↔ (0 < bs ∧ (m : Int) + ne ≤ 600) := by
  subst e1; subst e2; subst en; subst ee
  exact Iff.rfl
theorem hz_gos {Q0 : hz_P} {k k1 : Int} (h : ∀ j : Nat, j < k.toNat → hz_go R ag bf cn np (hz_it R ag bf cn np now P j)) (hq : Q0 = hz_it R ag bf cn np now P k.toNat) (h0 : 0 ≤ k) (hg : hz_go R ag bf cn np Q0) (e : k1 = k + 1) : ∀ j : Nat, j < k1.toNat → hz_go R ag bf cn np (hz_it R ag bf cn np now P j) := by
  subst e
  intro j hj
  by_cases z : j = k.toNat
  · subst z; rw [← hq]; exact hg
  · exact h j (by omega)
theorem hz_sa_s {Q0 : hz_P} {k k1 : Int} {a t x bl bs : Int32} (h : a.toInt = (hz_sa2 R ag bf cn np now P k.toNat).toInt) (hq : Q0 = hz_it R ag bf cn np now P k.toNat) (h0 : 0 ≤ k) (e1 : (hz_be R ag bf cn np Q0).1 = bl.toInt) (e2 : (hz_be R ag bf cn np Q0).2.1 = bs.toInt) (ht : t = bl * bs) (e : x = a + t) (ek : k1 = k + 1) : x.toInt = (hz_sa2 R ag bf cn np now P k1.toNat).toInt := by
  subst ek
  have e9 : (k + 1).toNat = k.toNat + 1 := by omega
  have h9 := Int32.toInt_inj.mp h
  rw [e, h9, ht, e9]
  simp only [hz_sa2]
  rw [← hq, e1, e2, Int32.ofInt_toInt, Int32.ofInt_toInt]
theorem hz_ls_s {Q0 : hz_P} {k k1 : Int} {f f1 : Nat → Int32} {ix : Nat} {bl : Int32} (h : ∀ j : Nat, j < k.toNat → (f j).toInt = (hz_be R ag bf cn np (hz_it R ag bf cn np now P j)).1) (hq : Q0 = hz_it R ag bf cn np now P k.toNat) (h0 : 0 ≤ k) (ei : (ix : Int) = k) (e1 : (hz_be R ag bf cn np Q0).1 = bl.toInt) (e : f1 = hx_up f ix bl) (ek : k1 = k + 1) : ∀ j : Nat, j < k1.toNat → (f1 j).toInt = (hz_be R ag bf cn np (hz_it R ag bf cn np now P j)).1 := by
  subst ek
  have e2 : ix = k.toNat := by omega
  subst e2
  intro j hj
  rw [e]
  by_cases z : j = k.toNat
  · subst z; rw [hx_up_at, ← hq, e1]
  · rw [hx_up_ne z]; exact h j (by omega)
theorem hz_be_RI {l n : Int} {br : Nat → Int32} (HN : ∀ (P : hz_P) (c : Nat), 0 ≤ R P c) (hbf : ∀ c, c < cn → 0 ≤ (bf c).toInt ∧ (bf c).toInt < 40) (hnp : 0 ≤ np ∧ np ≤ 40) (h : hz_SR (hz_be R ag bf cn np P) l n br) (hn : 0 < n) : hz_RI l n (hz_be R ag bf cn np P).2.2 (R P) ag bf cn :=
  hz_be_f HN hbf hnp (Prod.ext h.1 (Prod.ext h.2.1 rfl)) hn
end HZO
/-- what both sides' net comes to -/
def hz_NR (R : hz_P → Nat → Int) (ag bf : Nat → Int32) (cn : Nat) (np : Int) (now : Int32) (P Q : hz_P) (r ct : Int) (ls : Nat → Int32) : Prop := ∃ k : Nat, hz_NT R ag bf cn np now P k ∧ Q = hz_it R ag bf cn np now P k ∧ r = (hz_sa2 R ag bf cn np now P k).toInt ∧ ct = k ∧ ∀ j : Nat, j < k → (ls j).toInt = (hz_be R ag bf cn np (hz_it R ag bf cn np now P j)).1
theorem hz_NR_eq {R : hz_P → Nat → Int} {ag bf : Nat → Int32} {cn : Nat} {np : Int} {now : Int32} {P Q Q' : hz_P} {r r' ct ct' : Int} {ls ls' : Nat → Int32} (h : hz_NR R ag bf cn np now P Q r ct ls) (h' : hz_NR R ag bf cn np now P Q' r' ct' ls') : Q = Q' ∧ r = r' ∧ ct = ct' ∧ ∀ j : Nat, (j : Int) < ct → (ls j).toInt = (ls' j).toInt := by
  obtain ⟨k, a, b, c, d, e⟩ := h
  obtain ⟨k', a', b', c', d', e'⟩ := h'
  have ek := hz_NT_u a a'
  subst ek
  exact ⟨b.trans b'.symm, c.trans c'.symm, d.trans d'.symm, fun j hj => (e j (by omega)).trans (e' j (by omega)).symm⟩
/-- netted() -/
def hz_ND (k ct r : Int) (ls : Nat → Int32) : Prop := (k = -1 ∧ r = ct) ∨ (k ≠ -1 ∧ (k < 0 ∨ ct ≤ k) ∧ r = -1) ∨ ((0 ≤ k ∧ k < ct) ∧ r = (ls k.toNat).toInt)
theorem hz_ND_eq {k ct ct' r r' : Int} {ls ls' : Nat → Int32} (h : hz_ND k ct r ls) (h' : hz_ND k ct' r' ls') (e : ct = ct') (el : ∀ j : Nat, (j : Int) < ct → (ls j).toInt = (ls' j).toInt) : r = r' := by
  subst e
  unfold hz_ND at h h'
  by_cases z : 0 ≤ k ∧ k < ct
  · have := el k.toNat (by omega); omega
  · omega
/-! THE LAW: what both sides' answers are alike by -/
theorem hz_i100 {i n : Int} (h0 : 0 ≤ i) (h1 : i < n) (hn : n ≤ 100) : i.toNat < 100 := by omega
theorem hz_ix {F : Nat → Int32} (b : ∀ k, k < 100 → 0 ≤ (F k).toInt ∧ (F k).toInt ≤ 39) {i n : Int} (h0 : 0 ≤ i) (h1 : i < n) (hn : n ≤ 100) : (F i.toNat).toInt.toNat < 40 := by
  have := b i.toNat (by omega)
  omega
theorem hz_OC_i {n i w ju od de de' : Int} (h : 0 ≤ i → i < n → de = de') : hz_OC n i w ju od de ↔ hz_OC n i w ju od de' := by
  unfold hz_OC
  constructor <;> intro a <;> have e := h a.1.1 a.1.2
  · exact ⟨a.1, a.2.1, a.2.2.1, by have := a.2.2.2.1; omega, a.2.2.2.2⟩
  · exact ⟨a.1, a.2.1, a.2.2.1, by have := a.2.2.2.1; omega, a.2.2.2.2⟩
theorem hz_ZC_i {n i w sz st st' : Int} (h : 0 ≤ i → i < n → st = st') : hz_ZC n i w sz st ↔ hz_ZC n i w sz st' := by
  unfold hz_ZC
  constructor <;> intro a <;> have e := h a.1.1 a.1.2
  · exact ⟨a.1, a.2.1, a.2.2.1, by have := a.2.2.2; omega⟩
  · exact ⟨a.1, a.2.1, a.2.2.1, by have := a.2.2.2; omega⟩
theorem hz_GC_i {n i sz de de' st st' : Int} (h : 0 ≤ i → i < n → de = de' ∧ st = st') : hz_GC n i sz de st ↔ hz_GC n i sz de' st' := by
  unfold hz_GC
  constructor <;> intro a <;> have e := h a.1.1 a.1.2
  · exact ⟨a.1, a.2.1, by have := a.2.2.1; omega, by have := a.2.2.2; omega⟩
  · exact ⟨a.1, a.2.1, by have := a.2.2.1; omega, by have := a.2.2.2; omega⟩
theorem hz_adf {r r2 i : Int} {v : Int32} {d d1 g1 : Nat → Int32} (er : r = r2) (p : hw_AD r i v d d1) (q : hw_AD r2 i v d g1) : d1 = g1 := by
  rcases p with ⟨a, b⟩ | ⟨a, b⟩ <;> rcases q with ⟨a', b'⟩ | ⟨a', b'⟩
  · exact b.trans b'.symm
  · omega
  · omega
  · exact b.trans b'.symm
/-- how often net was called: the rings' count, or none yet -/
def hz_NQ (ct hn rm : Int) : Prop := (hn = 0 ∧ ct = -1) ∨ (hn ≠ 0 ∧ ct = rm)
def hz_ND2 (hn k rm r : Int) (ls : Nat → Int32) : Prop := (hn = 0 ∧ r = -1) ∨ (hn ≠ 0 ∧ hz_ND k rm r ls)
theorem hz_ND_f {k ct hn rm r r' : Int} {ls ls' : Nat → Int32} (h : hz_ND k ct r ls) (h' : hz_ND2 hn k rm r' ls') (q : hz_NQ ct hn rm) (el : ∀ j : Nat, (j : Int) < ct → (ls j).toInt = (ls' j).toInt) : r = r' := by
  rcases h' with ⟨a, b⟩ | ⟨a, b⟩
  · have e : ct = -1 := by unfold hz_NQ at q; omega
    unfold hz_ND at h
    omega
  · have e : ct = rm := by unfold hz_NQ at q; omega
    exact hz_ND_eq h b e el
end
section
set_option maxHeartbeats 4000000 in
set_option maxRecDepth 100000 in
theorem t_X7_clear_v (l : Launch) (dC : Nat → ClassId) (dI : Nat → Nat → Nat) (dA : Nat → ClassId) (L : List Nat) (h : hx_h) (sz : Nat) (x : Nat) (i1 : Int32) (hT : hx_T T_tb L h) (gx : hx_g L h x 7) (qow : Nat) (gqow : hx_g L h qow 36) (f_x_5 : h.2.2 x 5 = some qow) (owf : Nat → Int32) (af_qow : h.2.1 qow = owf) (hi1 : 0 ≤ i1.toInt ∧ i1.toInt ≤ 40) : Met l yX7_clear (Cond.code yX7_clear cX7_clear 3 none :: hx_all) ({ frames := 0, cells := 0, slots := 0, locals := 0 }) (va_Pc [.ref x, .int i1] (hx_B T_tb (P_ty dA) (dC, dI) vwCl L h sz)) (va_Qv (fun (u : List Nat × hx_h) => (∃ (c1 : Int32) (s1 : Int32) (owf1 : Nat → Int32), u.2.2.1 x 0 = c1 ∧ u.2.2.1 x 4 = s1 ∧ u.2.2.1 qow = owf1 ∧ (c1.toInt = 0 ∧ s1 = i1 ∧ ∀ j : Nat, (j : Int) < 1600 → owf1 j = 0)) ∧ hx_T T_tb u.1 u.2 ∧ hx_S T_tb [(7, 0), (7, 4), (36, 0)] L h u.1 u.2) (hx_E T_tb (P_ty dA) (dC, dI) vwCl (hx_A L sz)) (hx_A L sz)) 0 0 (hx_A L sz) := by
  refine hx_met (lv := [(0, .ref x), (1, .int i1)]) (by decide +kernel) rfl (Nat.le_of_ble_eq_true rfl) rfl ?_
  intro p e s m below meth c hx hb hml hr hlk hts0 hown hin hsz hW ls hl
  have hts : ∀ w ∈ hx_all, w.before _ s = true := fun w hw => hts0 w (List.mem_cons_of_mem _ hw)
  have hown : s.vm.findClass "SmallCourt$Rings" = some m.cls := hown
  have hM : hx_S T_tb [(7, 0), (7, 4), (36, 0)] L h L h := hx_S.rf
  refine lv_aload_n hx hb dX7_clear_0 rfl (lv_at hl 0 rfl) ?_
  refine lv_iload_n hx hb dX7_clear_1 rfl (lv_at hl 1 rfl) ?_
  refine hx_puti hx hb hts hC_7 hown hW hT (hx_S.rf (M := [(7, 4)])) (gx.S hM) tt_7 4 ?o0 rfl kw_317 ⟨rfl, rfl, rfl⟩ rfl (x := i1) ⟨?o1, ?o2⟩ rfl rfl rfl (List.mem_singleton.mpr rfl) dX7_clear_2 (fun H locs h_1 eh_1 hW hT hs => ?_)
  case o0 => decide
  case o1 => omega
  case o2 => omega
  replace af_qow : h_1.2.1 qow = owf := (funext fun j => (hs.a (gqow.S hM) rfl j).1).trans af_qow
  replace hM := hM.tr (hs.mono ?o3)
  case o3 => decide
  have f_2 : h_1.2.1 x 4 = i1 := ?o4
  case o4 =>
    rw [eh_1]
    exact hx_pi_at _ _ _ _
  refine lv_aload_n hx hb dX7_clear_5 rfl (lv_at hl 0 rfl) ?_
  refine lv_iconst (v := 0) hx hb dX7_clear_6 ?o5 ?_
  case o5 => decide
  refine hx_puti hx hb hts hC_7 hown hW hT (hx_S.rf (M := [(7, 0)])) (gx.S hM) tt_7 0 ?o6 rfl kw_309 ⟨rfl, rfl, rfl⟩ rfl (x := (0 : Int32)) ?o7 rfl rfl rfl (List.mem_singleton.mpr rfl) dX7_clear_7 (fun H locs h_3 eh_3 hW hT hs => ?_)
  case o6 => decide
  case o7 => decide
  replace f_2 := (hs.o (gx.S hM) trivial rfl).1.trans f_2
  replace af_qow : h_3.2.1 qow = owf := (funext fun j => (hs.a (gqow.S hM) rfl j).1).trans af_qow
  replace hM := hM.tr (hs.mono ?o8)
  case o8 => decide
  have f_4 : h_3.2.1 x 0 = (0 : Int32) := ?o9
  case o9 =>
    rw [eh_3]
    exact hx_pi_at _ _ _ _
  refine lv_iconst (v := 0) hx hb dX7_clear_10 ?o10 ?_
  case o10 => decide
  refine lv_istore_n (lv' := [(2, .int (0 : Int32)), (0, .ref x), (1, .int i1)]) hx hb dX7_clear_11 rfl hl ?o11 rfl (fun ls hl => ?_)
  case o11 => decide
  have loop12 : ∀ (n12 : Nat) (iv12_2 : Int32) (ia12_qow : Nat → Int32) (H : Heap) (locs : List Loc) (hL1 : List Nat) (hl1 : hx_h), 0 ≤ iv12_2.toInt → iv12_2.toInt ≤ 1600 → (∀ j : Nat, (j : Int) < iv12_2.toInt → ia12_qow j = 0) → ∀ (ls : Array Slot), 1600 - iv12_2.toInt < (n12 : Int) → hx_W T_tb (P_ty dA) (dC, dI) vwCl (hx_A L sz) s.heap hL1 hl1 s H locs → hx_T T_tb hL1 hl1 → hx_S T_tb [(7, 0), (7, 4), (36, 0)] L h hL1 hl1 → hl1.2.1 x 4 = i1 → hl1.2.1 x 0 = (0 : Int32) → hl1.2.1 qow = ia12_qow → lv_has ls 3 [(2, .int iv12_2), (0, .ref x), (1, .int i1)] → W p l e ({ frames := 0, cells := 0, slots := 0, locals := 0 }) s m ([.ref x, .int i1] : List Value).toArray below meth c H locs 0 0 (MQ below (va_Qv (fun (u : List Nat × hx_h) => (∃ (c1 : Int32) (s1 : Int32) (owf1 : Nat → Int32), u.2.2.1 x 0 = c1 ∧ u.2.2.1 x 4 = s1 ∧ u.2.2.1 qow = owf1 ∧ (c1.toInt = 0 ∧ s1 = i1 ∧ ∀ j : Nat, (j : Int) < 1600 → owf1 j = 0)) ∧ hx_T T_tb u.1 u.2 ∧ hx_S T_tb [(7, 0), (7, 4), (36, 0)] L h u.1 u.2) (hx_E T_tb (P_ty dA) (dC, dI) vwCl (hx_A L sz)) (hx_A L sz)) ([.ref x, .int i1] : List Value).toArray s 0 0 (hx_A L sz)) (F0 m 12 ls []) := by
    intro n12
    induction n12 with
    | zero => intro iv12_2 ia12_qow H locs hL1 hl1 bliv12_2 buiv12_2 vi12_0 ls hn12; exfalso; omega
    | succ n12 ih12 =>
      intro iv12_2 ia12_qow H locs hL1 hl1 bliv12_2 buiv12_2 vi12_0 ls hn12 hW hT hM f_2 f_4 nia12_qow hl
      refine lv_iload_n hx hb dX7_clear_12 rfl (lv_at hl 0 rfl) ?_
      refine lv_aload_n hx hb dX7_clear_13 rfl (lv_at hl 1 rfl) ?_
      refine hk_getr hx hb hts hC_7 hown hW (gx.S hM) tt_7 5 ?o12 rfl kw_318 ⟨rfl, rfl, rfl⟩ ((hM.o gx trivial rfl).2.trans f_x_5) dX7_clear_14 ?_
      case o12 => decide
      refine hx_alen hx hb hW (gqow.S hM) tt_36 rfl dX7_clear_17 ?_
      refine lv_topi (fun x_5 ex_5 => ?_)
      obtain rfl : x_5 = (1600 : Int32) := ex_5.trans (by decide)
      refine hb_icmp_ge (zx := iv12_2.toInt) (zy := 1600) (tgt := 34) hx hb rfl ?o13 dX7_clear_18 ?o14 (fun c_6 => ?_) (fun c_6 => ?_)
      case o13 => decide
      case o14 => decide
      · skip
        have zo_0 : (0 : Int32).toInt = 0 := ?o15
        case o15 => decide
        refine hx_retv hx hb hr hlk hW ⟨⟨(0 : Int32), i1, ia12_qow, f_4, f_2, nia12_qow, ⟨?o16, rfl, fun j hj => vi12_0 j ?o17⟩⟩, hT, hM⟩ dX7_clear_34
        case o16 => decide
        case o17 => omega
      · skip
        refine lv_aload_n hx hb dX7_clear_21 rfl (lv_at hl 1 rfl) ?_
        refine hk_getr hx hb hts hC_7 hown hW (gx.S hM) tt_7 5 ?o18 rfl kw_318 ⟨rfl, rfl, rfl⟩ ((hM.o gx trivial rfl).2.trans f_x_5) dX7_clear_22 ?_
        case o18 => decide
        refine lv_iload_n hx hb dX7_clear_25 rfl (lv_at hl 0 rfl) ?_
        refine lv_iconst (v := 0) hx hb dX7_clear_26 ?o19 ?_
        case o19 => decide
        have nia12_qowO := nia12_qow
        refine hx_iast hx hb hW hT (hx_S.rf (M := [(36, 0)])) (gqow.S hM) tt_36 rfl ⟨?o20, ?o21⟩ rfl ?o22 (List.mem_singleton.mpr rfl) dX7_clear_27 (fun H locs h_7 eh_7 hW hT hs => ?_)
        case o20 => omega
        case o21 => omega
        case o22 => decide
        replace f_2 := (hs.o (gx.S hM) trivial rfl).1.trans f_2
        replace f_4 := (hs.o (gx.S hM) trivial rfl).1.trans f_4
        replace hM := hM.tr (hs.mono ?o23)
        case o23 => decide
        obtain ⟨fa_8, dfa_8⟩ : ∃ g : Nat → Int32, g = hx_up ia12_qow iv12_2.toNatClampNeg (0 : Int32) := ⟨_, rfl⟩
        have nfa_8 : h_7.2.1 qow = fa_8 := ?o24
        case o24 =>
          rw [eh_7, dfa_8, ← nia12_qowO]
          exact hx_pi_fun _ _ _ _
        obtain ⟨x_9, ex_9⟩ : ∃ y : Int32, y = iv12_2 + Int32.ofInt 1 := ⟨_, rfl⟩
        have rg_10 := i32_r iv12_2
        have zx_9 : x_9.toInt = iv12_2.toInt + (1) := ?o25
        case o25 =>
          rw [ex_9]
          refine i32_add rfl ?o26 ?o27 ?o28
          case o26 => decide
          case o27 => omega
          case o28 => omega
        refine lv_iinc (v := x_9) (lv' := [(2, .int x_9), (0, .ref x), (1, .int i1)]) hx hb dX7_clear_28 hl (k := 0) rfl ex_9.symm ?o29 rfl (fun ls hl => ?_)
        case o29 => decide
        refine lv_goto (tgt := 12) hx hb dX7_clear_31 ?o30 ?_
        case o30 => decide
        refine ih12 x_9 fa_8 _ _ hL1 h_7 ?o31 ?o32 (hy_cl_s vi12_0 ?o33 dfa_8 zx_9) ls ?o34 hW hT hM f_2 f_4 nfa_8 (lv_sub hl [0, 1, 2] rfl)
        case o31 => omega
        case o32 => omega
        case o33 => omega
        case o34 => omega
  have zk_0 : (0 : Int32).toInt = 0 := ?o35
  case o35 => decide
  refine loop12 1601 (0 : Int32) owf _ _ L h_3 ?o36 ?o37 (fun j hj => ?o38) ls ?o39 hW hT hM f_2 f_4 af_qow hl
  case o36 => decide
  case o37 => decide
  case o38 =>
    exfalso
    omega
  case o39 => omega


set_option maxHeartbeats 4000000 in
set_option maxRecDepth 100000 in
theorem t_X7_owe_v (l : Launch) (dC : Nat → ClassId) (dI : Nat → Nat → Nat) (dA : Nat → ClassId) (L : List Nat) (h : hx_h) (sz : Nat) (x : Nat) (i1 : Int32) (i2 : Int32) (i3 : Int32) (hT : hx_T T_tb L h) (gx : hx_g L h x 7) (qow : Nat) (gqow : hx_g L h qow 36) (f_x_5 : h.2.2 x 5 = some qow) (owf : Nat → Int32) (af_qow : h.2.1 qow = owf) (hi1 : 0 ≤ i1.toInt ∧ i1.toInt ≤ 39) (hi2 : 0 ≤ i2.toInt ∧ i2.toInt ≤ 39) : Met l yX7_owe (Cond.code yX7_owe cX7_owe 4 none :: hx_all) ({ frames := 0, cells := 0, slots := 0, locals := 0 }) (va_Pc [.ref x, .int i1, .int i2, .int i3] (hx_B T_tb (P_ty dA) (dC, dI) vwCl L h sz)) (va_Qv (fun (u : List Nat × hx_h) => (∃ (owf1 : Nat → Int32), u.2.2.1 qow = owf1 ∧ (owf1 = hx_up owf (40 * i1.toInt + i2.toInt).toNat (owf (40 * i1.toInt + i2.toInt).toNat + i3))) ∧ hx_T T_tb u.1 u.2 ∧ hx_S T_tb [(36, 0)] L h u.1 u.2) (hx_E T_tb (P_ty dA) (dC, dI) vwCl (hx_A L sz)) (hx_A L sz)) 0 0 (hx_A L sz) := by
  refine hx_met (lv := [(0, .ref x), (1, .int i1), (2, .int i2), (3, .int i3)]) (by decide +kernel) rfl (Nat.le_of_ble_eq_true rfl) rfl ?_
  intro p e s m below meth c hx hb hml hr hlk hts0 hown hin hsz hW ls hl
  have hts : ∀ w ∈ hx_all, w.before _ s = true := fun w hw => hts0 w (List.mem_cons_of_mem _ hw)
  have hown : s.vm.findClass "SmallCourt$Rings" = some m.cls := hown
  have hM : hx_S T_tb [(36, 0)] L h L h := hx_S.rf
  refine lv_aload_n hx hb dX7_owe_0 rfl (lv_at hl 0 rfl) ?_
  refine hk_getr hx hb hts hC_7 hown hW (gx.S hM) tt_7 5 ?o0 rfl kw_318 ⟨rfl, rfl, rfl⟩ ((hM.o gx trivial rfl).2.trans f_x_5) dX7_owe_1 ?_
  case o0 => decide
  refine lv_iload_n hx hb dX7_owe_4 rfl (lv_at hl 1 rfl) ?_
  refine lv_bipush (v := 40) hx hb dX7_owe_5 ?o1 ?_
  case o1 => decide
  refine lv_imul hx hb dX7_owe_7 ?_
  refine lv_topi (fun x_1 ex_1 => ?_)
  have zx_1 : x_1.toInt = i1.toInt * 40 := ?o2
  case o2 =>
    rw [ex_1]
    refine i32_mul rfl ?o3 rfl ?o4 ?o5
    case o3 => decide
    case o4 => omega
    case o5 => omega
  refine lv_iload_n hx hb dX7_owe_8 rfl (lv_at hl 2 rfl) ?_
  refine lv_iadd hx hb dX7_owe_9 ?_
  have rg_2 := i32_r x_1
  have rg_3 := i32_r i2
  refine lv_topi (fun x_4 ex_4 => ?_)
  have zx_4 : x_4.toInt = x_1.toInt + i2.toInt := ?o6
  case o6 =>
    rw [ex_4]
    refine i32_add rfl rfl ?o7 ?o8
    case o7 => omega
    case o8 => omega
  refine lv_dup2_11 hx hb dX7_owe_10 rfl rfl ?_
  refine hx_iald hx hb hW hT (gqow.S hM) tt_36 rfl ⟨?o9, ?o10⟩ dX7_owe_11 (fun x_5 ex_5 lx_5 ux_5 => ?_)
  case o9 => omega
  case o10 => omega
  have ax_5 : x_5 = owf x_4.toNatClampNeg := ex_5.trans (congrFun af_qow _)
  refine lv_iload_n hx hb dX7_owe_12 rfl (lv_at hl 3 rfl) ?_
  refine lv_iadd hx hb dX7_owe_13 ?_
  have rg_6 := i32_r x_5
  have rg_7 := i32_r i3
  refine lv_topi (fun x_8 ex_8 => ?_)
  have af_qowO := af_qow
  refine hx_iast hx hb hW hT (hx_S.rf (M := [(36, 0)])) (gqow.S hM) tt_36 rfl ⟨?o11, ?o12⟩ rfl (i32_r _) (List.mem_singleton.mpr rfl) dX7_owe_14 (fun H locs h_9 eh_9 hW hT hs => ?_)
  case o11 => omega
  case o12 => omega
  replace hM := hM.tr (hs.mono ?o13)
  case o13 => decide
  obtain ⟨fa_10, dfa_10⟩ : ∃ g : Nat → Int32, g = hx_up owf x_4.toNatClampNeg x_8 := ⟨_, rfl⟩
  have nfa_10 : h_9.2.1 qow = fa_10 := ?o14
  case o14 =>
    rw [eh_9, dfa_10, ← af_qowO]
    exact hx_pi_fun _ _ _ _
  exact hx_retv hx hb hr hlk hW ⟨⟨fa_10, nfa_10, (by have k9 : x_4.toNatClampNeg = (40 * i1.toInt + i2.toInt).toNat := (by unfold Int32.toNatClampNeg; omega); rw [dfa_10, ex_8, ax_5, k9])⟩, hT, hM⟩ dX7_owe_15


set_option maxHeartbeats 4000000 in
set_option maxRecDepth 100000 in
theorem t_X7_isInRing_v (l : Launch) (dC : Nat → ClassId) (dI : Nat → Nat → Nat) (dA : Nat → ClassId) (L : List Nat) (h : hx_h) (sz : Nat) (x : Nat) (i1 : Int32) (i2 : Int32) (hT : hx_T T_tb L h) (gx : hx_g L h x 7) (qrg : Nat) (gqrg : hx_g L h qrg 37) (f_x_6 : h.2.2 x 6 = some qrg) (rgf : Nat → Int32) (af_qrg : h.2.1 qrg = rgf) (hi2 : 0 ≤ i2.toInt ∧ i2.toInt ≤ 4) : Met l yX7_isInRing (Cond.code yX7_isInRing cX7_isInRing 4 (some .boolean) :: hx_all) ({ frames := 0, cells := 0, slots := 0, locals := 0 }) (va_Pc [.ref x, .int i1, .int i2] (hx_B T_tb (P_ty dA) (dC, dI) vwCl L h sz)) (va_Qi (fun (r : Int32) (u : List Nat × hx_h) => ((r.toInt = 1 ∧ hx_isin rgf i2.toInt i1) ∨ (r.toInt = 0 ∧ ¬ hx_isin rgf i2.toInt i1)) ∧ hx_T T_tb u.1 u.2 ∧ hx_S T_tb [] L h u.1 u.2) (hx_E T_tb (P_ty dA) (dC, dI) vwCl (hx_A L sz)) (hx_A L sz)) 0 0 (hx_A L sz) := by
  refine hx_met (lv := [(0, .ref x), (1, .int i1), (2, .int i2)]) (by decide +kernel) rfl (Nat.le_of_ble_eq_true rfl) rfl ?_
  intro p e s m below meth c hx hb hml hr hlk hts0 hown hin hsz hW ls hl
  have hts : ∀ w ∈ hx_all, w.before _ s = true := fun w hw => hts0 w (List.mem_cons_of_mem _ hw)
  have hown : s.vm.findClass "SmallCourt$Rings" = some m.cls := hown
  have hM : hx_S T_tb [] L h L h := hx_S.rf
  refine lv_iconst (v := 0) hx hb dX7_isInRing_0 ?o0 ?_
  case o0 => decide
  refine lv_istore_n (lv' := [(3, .int (0 : Int32)), (0, .ref x), (1, .int i1), (2, .int i2)]) hx hb dX7_isInRing_1 rfl hl ?o1 rfl (fun ls hl => ?_)
  case o1 => decide
  have loop2 : ∀ (n2 : Nat) (iv2_3 : Int32) (H : Heap) (locs : List Loc) (hL1 : List Nat) (hl1 : hx_h), 0 ≤ iv2_3.toInt → iv2_3.toInt ≤ 4 → (∀ k : Nat, (k : Int) < iv2_3.toInt → rgf k ≠ i1) → (iv2_3.toInt ≤ i2.toInt) → ∀ (ls : Array Slot), 4 - iv2_3.toInt < (n2 : Int) → hx_W T_tb (P_ty dA) (dC, dI) vwCl (hx_A L sz) s.heap hL1 hl1 s H locs → hx_T T_tb hL1 hl1 → hx_S T_tb [] L h hL1 hl1 → lv_has ls 4 [(3, .int iv2_3), (0, .ref x), (1, .int i1), (2, .int i2)] → W p l e ({ frames := 0, cells := 0, slots := 0, locals := 0 }) s m ([.ref x, .int i1, .int i2] : List Value).toArray below meth c H locs 0 0 (MQ below (va_Qi (fun (r : Int32) (u : List Nat × hx_h) => ((r.toInt = 1 ∧ hx_isin rgf i2.toInt i1) ∨ (r.toInt = 0 ∧ ¬ hx_isin rgf i2.toInt i1)) ∧ hx_T T_tb u.1 u.2 ∧ hx_S T_tb [] L h u.1 u.2) (hx_E T_tb (P_ty dA) (dC, dI) vwCl (hx_A L sz)) (hx_A L sz)) ([.ref x, .int i1, .int i2] : List Value).toArray s 0 0 (hx_A L sz)) (F0 m 2 ls []) := by
    intro n2
    induction n2 with
    | zero => intro iv2_3 H locs hL1 hl1 bliv2_3 buiv2_3 vi2_0 vi2_1 ls hn2; exfalso; omega
    | succ n2 ih2 =>
      intro iv2_3 H locs hL1 hl1 bliv2_3 buiv2_3 vi2_0 vi2_1 ls hn2 hW hT hM   hl
      refine lv_iload_n hx hb dX7_isInRing_2 rfl (lv_at hl 0 rfl) ?_
      refine lv_iload_n hx hb dX7_isInRing_3 rfl (lv_at hl 3 rfl) ?_
      refine hb_icmp_ge (zx := iv2_3.toInt) (zy := i2.toInt) (tgt := 25) hx hb rfl rfl dX7_isInRing_4 ?o2 (fun c_1 => ?_) (fun c_1 => ?_)
      case o2 => decide
      · skip
        refine lv_iconst (v := 0) hx hb dX7_isInRing_25 ?o3 ?_
        case o3 => decide
        refine hx_retz hx hb hr rfl hlk hW ⟨(Or.inr ⟨?o4, fun hc => by obtain ⟨k, hk, ek⟩ := hc; exact vi2_0 k (by omega) ek⟩), hT, hM⟩ dX7_isInRing_26
        case o4 => decide
      · skip
        refine lv_aload_n hx hb dX7_isInRing_7 rfl (lv_at hl 1 rfl) ?_
        refine hk_getr hx hb hts hC_7 hown hW (gx.S hM) tt_7 6 ?o5 rfl kw_319 ⟨rfl, rfl, rfl⟩ ((hM.o gx trivial rfl).2.trans f_x_6) dX7_isInRing_8 ?_
        case o5 => decide
        refine lv_iload_n hx hb dX7_isInRing_11 rfl (lv_at hl 0 rfl) ?_
        refine hx_iald hx hb hW hT (gqrg.S hM) tt_37 rfl ⟨?o6, ?o7⟩ dX7_isInRing_12 (fun x_2 ex_2 lx_2 ux_2 => ?_)
        case o6 => omega
        case o7 => omega
        have ax_2 : x_2 = rgf iv2_3.toNatClampNeg := ex_2.trans (congrFun (hx_afS hM gqrg rfl af_qrg) _)
        refine lv_iload_n hx hb dX7_isInRing_13 rfl (lv_at hl 2 rfl) ?_
        refine hb_icmp_ne (zx := x_2.toInt) (zy := i1.toInt) (tgt := 19) hx hb rfl rfl dX7_isInRing_14 ?o8 (fun c_3 => ?_) (fun c_3 => ?_)
        case o8 => decide
        · skip
          obtain ⟨x_4, ex_4⟩ : ∃ y : Int32, y = iv2_3 + Int32.ofInt 1 := ⟨_, rfl⟩
          have rg_5 := i32_r iv2_3
          have zx_4 : x_4.toInt = iv2_3.toInt + (1) := ?o9
          case o9 =>
            rw [ex_4]
            refine i32_add rfl ?o10 ?o11 ?o12
            case o10 => decide
            case o11 => omega
            case o12 => omega
          refine lv_iinc (v := x_4) (lv' := [(3, .int x_4), (0, .ref x), (1, .int i1), (2, .int i2)]) hx hb dX7_isInRing_19 hl (k := 0) rfl ex_4.symm ?o13 rfl (fun ls hl => ?_)
          case o13 => decide
          refine lv_goto (tgt := 2) hx hb dX7_isInRing_22 ?o14 ?_
          case o14 => decide
          refine ih2 x_4 _ _ hL1 hl1 ?o15 ?o16 (hx_nin_s vi2_0 ?o17 (fun e => by have h9 : x_2.toInt = i1.toInt := congrArg Int32.toInt (ax_2.trans e); omega) zx_4) ?o18 ls ?o19 hW hT hM   (lv_sub hl [0, 1, 2, 3] rfl)
          case o15 => omega
          case o16 => omega
          case o17 => omega
          case o18 => omega
          case o19 => omega
        · skip
          refine lv_iconst (v := 1) hx hb dX7_isInRing_17 ?o20 ?_
          case o20 => decide
          refine hx_retz hx hb hr rfl hlk hW ⟨(Or.inl ⟨?o21, iv2_3.toNatClampNeg, (by unfold Int32.toNatClampNeg; omega), ax_2.symm.trans (Int32.toInt_inj.mp ?o22)⟩), hT, hM⟩ dX7_isInRing_18
          case o21 => decide
          case o22 => omega
  have zk_0 : (0 : Int32).toInt = 0 := ?o23
  case o23 => decide
  refine loop2 5 (0 : Int32) _ _ L h ?o24 ?o25 (fun j hj => ?o26) ?o27 ls ?o28 hW hT hM   hl
  case o24 => decide
  case o25 => decide
  case o26 =>
    exfalso
    omega
  case o27 => omega
  case o28 => omega


set_option maxHeartbeats 4000000 in
set_option maxRecDepth 100000 in
theorem t_X7_keepIfBetter_v (l : Launch) (dC : Nat → ClassId) (dI : Nat → Nat → Nat) (dA : Nat → ClassId) (L : List Nat) (h : hx_h) (sz : Nat) (x : Nat) (i1 : Int32) (i2 : Int32) (hT : hx_T T_tb L h) (gx : hx_g L h x 7) (qrg : Nat) (gqrg : hx_g L h qrg 37) (f_x_6 : h.2.2 x 6 = some qrg) (qbe : Nat) (gqbe : hx_g L h qbe 38) (f_x_7 : h.2.2 x 7 = some qbe) (rgf : Nat → Int32) (af_qrg : h.2.1 qrg = rgf) (bef : Nat → Int32) (af_qbe : h.2.1 qbe = bef) (bl0 : Int32) (f_x_2 : h.2.1 x 2 = bl0) (bs0 : Int32) (f_x_1 : h.2.1 x 1 = bs0) (hi1 : 0 ≤ i1.toInt ∧ i1.toInt ≤ 4) (hi2 : 0 ≤ i2.toInt) (g : Nat → Int) (hg : ∀ i : Nat, (i : Int) < i1.toInt → (rgf i).toInt = g i) (o : Int × Int × (Nat → Int)) (hSR : hz_SR o bl0.toInt bs0.toInt bef) : Met l yX7_keepIfBetter (Cond.code yX7_keepIfBetter cX7_keepIfBetter 3 none :: hx_all) ({ frames := 1, cells := 0, slots := 0, locals := 40 }) (va_Pc [.ref x, .int i1, .int i2] (hx_B T_tb (P_ty dA) (dC, dI) vwCl L h sz)) (va_Qv (fun (u : List Nat × hx_h) => (∃ (bl1 : Int32) (bs1 : Int32) (bef1 : Nat → Int32), u.2.2.1 x 2 = bl1 ∧ u.2.2.1 x 1 = bs1 ∧ u.2.2.1 qbe = bef1 ∧ (hz_SR (hz_of i1.toInt i2.toInt g o) bl1.toInt bs1.toInt bef1)) ∧ hx_T T_tb u.1 u.2 ∧ hx_S T_tb [(7, 1), (7, 2), (38, 0)] L h u.1 u.2) (hx_E T_tb (P_ty dA) (dC, dI) vwCl (hx_A L sz)) (hx_A L sz)) 0 0 (hx_A L sz) := by
  refine hx_met (lv := [(0, .ref x), (1, .int i1), (2, .int i2)]) (by decide +kernel) rfl (Nat.le_of_ble_eq_true rfl) rfl ?_
  intro p e s m below meth c hx hb hml hr hlk hts0 hown hin hsz hW ls hl
  have hts : ∀ w ∈ hx_all, w.before _ s = true := fun w hw => hts0 w (List.mem_cons_of_mem _ hw)
  have hown : s.vm.findClass "SmallCourt$Rings" = some m.cls := hown
  have hM : hx_S T_tb [(7, 1), (7, 2), (38, 0)] L h L h := hx_S.rf
  have b_bl0 := hT.gi gx tt_7 (k := 2) rfl
  rw [f_x_2] at b_bl0
  have b_bl0 : -2147483648 ≤ bl0.toInt ∧ bl0.toInt ≤ 2147483647 := b_bl0
  have b_bs0 := hT.gi gx tt_7 (k := 1) rfl
  rw [f_x_1] at b_bs0
  have b_bs0 : 0 ≤ bs0.toInt ∧ bs0.toInt ≤ 4 := b_bs0
  have hsb9 := hSR.2.2.1
  refine lv_iload_n hx hb dX7_keepIfBetter_0 rfl (lv_at hl 2 rfl) ?_
  refine lv_aload_n hx hb dX7_keepIfBetter_1 rfl (lv_at hl 0 rfl) ?_
  refine hk_geti hx hb hts hC_7 hown hW gx tt_7 2 ?o0 rfl kw_313 ⟨rfl, rfl, rfl⟩ f_x_2 dX7_keepIfBetter_2 ?_
  case o0 => decide
  refine hb_icmp_gt (zx := i2.toInt) (zy := bl0.toInt) (tgt := 24) hx hb rfl rfl dX7_keepIfBetter_5 ?o1 (fun c_1 => ?_) (fun c_1 => ?_)
  case o1 => decide
  · skip
    refine lv_aload_n hx hb dX7_keepIfBetter_24 rfl (lv_at hl 0 rfl) ?_
    refine lv_iload_n hx hb dX7_keepIfBetter_25 rfl (lv_at hl 2 rfl) ?_
    refine hx_puti hx hb hts hC_7 hown hW hT (hx_S.rf (M := [(7, 2)])) gx tt_7 2 ?o2 rfl kw_313 ⟨rfl, rfl, rfl⟩ rfl (x := i2) (i32_r _) rfl rfl rfl (List.mem_singleton.mpr rfl) dX7_keepIfBetter_26 (fun H locs h_2 eh_2 hW hT hs => ?_)
    case o2 => decide
    replace f_x_6 := (hs.o gx trivial rfl).2.trans f_x_6
    replace f_x_7 := (hs.o gx trivial rfl).2.trans f_x_7
    replace f_x_1 := (hs.o gx trivial rfl).1.trans f_x_1
    replace af_qrg : h_2.2.1 qrg = rgf := (funext fun j => (hs.a gqrg rfl j).1).trans af_qrg
    replace af_qbe : h_2.2.1 qbe = bef := (funext fun j => (hs.a gqbe rfl j).1).trans af_qbe
    replace hM := hM.tr (hs.mono ?o3)
    case o3 => decide
    replace gx := gx.S hs
    replace gqrg := gqrg.S hs
    replace gqbe := gqbe.S hs
    have f_3 : h_2.2.1 x 2 = i2 := ?o4
    case o4 =>
      rw [eh_2]
      exact hx_pi_at _ _ _ _
    refine lv_aload_n hx hb dX7_keepIfBetter_29 rfl (lv_at hl 0 rfl) ?_
    refine lv_iload_n hx hb dX7_keepIfBetter_30 rfl (lv_at hl 1 rfl) ?_
    refine hx_puti hx hb hts hC_7 hown hW hT (hx_S.rf (M := [(7, 1)])) gx tt_7 1 ?o5 rfl kw_311 ⟨rfl, rfl, rfl⟩ rfl (x := i1) ⟨?o6, ?o7⟩ rfl rfl rfl (List.mem_singleton.mpr rfl) dX7_keepIfBetter_31 (fun H locs h_4 eh_4 hW hT hs => ?_)
    case o5 => decide
    case o6 => omega
    case o7 => omega
    replace f_x_6 := (hs.o gx trivial rfl).2.trans f_x_6
    replace f_x_7 := (hs.o gx trivial rfl).2.trans f_x_7
    replace f_3 := (hs.o gx trivial rfl).1.trans f_3
    replace af_qrg : h_4.2.1 qrg = rgf := (funext fun j => (hs.a gqrg rfl j).1).trans af_qrg
    replace af_qbe : h_4.2.1 qbe = bef := (funext fun j => (hs.a gqbe rfl j).1).trans af_qbe
    replace hM := hM.tr (hs.mono ?o8)
    case o8 => decide
    replace gx := gx.S hs
    replace gqrg := gqrg.S hs
    replace gqbe := gqbe.S hs
    have f_5 : h_4.2.1 x 1 = i1 := ?o9
    case o9 =>
      rw [eh_4]
      exact hx_pi_at _ _ _ _
    refine lv_aload_n hx hb dX7_keepIfBetter_34 rfl (lv_at hl 0 rfl) ?_
    refine hk_getr hx hb hts hC_7 hown hW gx tt_7 6 ?o10 rfl kw_319 ⟨rfl, rfl, rfl⟩ f_x_6 dX7_keepIfBetter_35 ?_
    case o10 => decide
    refine lv_iconst (v := 0) hx hb dX7_keepIfBetter_38 ?o11 ?_
    case o11 => decide
    refine lv_aload_n hx hb dX7_keepIfBetter_39 rfl (lv_at hl 0 rfl) ?_
    refine hk_getr hx hb hts hC_7 hown hW gx tt_7 7 ?o12 rfl kw_320 ⟨rfl, rfl, rfl⟩ f_x_7 dX7_keepIfBetter_40 ?_
    case o12 => decide
    refine lv_iconst (v := 0) hx hb dX7_keepIfBetter_43 ?o13 ?_
    case o13 => decide
    refine lv_iload_n hx hb dX7_keepIfBetter_44 rfl (lv_at hl 1 rfl) ?_
    have af_qrgO := af_qrg; have af_qbeO := af_qbe
    refine hz_copyi hx hb (hml.trans hl.1.symm) hown (hts _ kw_1007) (hts _ kw_158) (hts _ kw_157) (hts _ kw_97) hW hT gqrg gqbe tt_37 tt_38 rfl ?o14 rfl rfl ?o15 ?o16 ?o17 (Nat.le_of_ble_eq_true rfl) (Nat.le_of_ble_eq_true rfl) dX7_keepIfBetter_45 (fun H locs h_6 eh_6 hW hT hs => ?_)
    case o14 => decide
    case o15 => omega
    case o16 => omega
    case o17 => omega
    replace f_x_6 := (hs.o gx trivial rfl).2.trans f_x_6
    replace f_x_7 := (hs.o gx trivial rfl).2.trans f_x_7
    replace f_3 := (hs.o gx trivial rfl).1.trans f_3
    replace f_5 := (hs.o gx trivial rfl).1.trans f_5
    replace af_qrg : h_6.2.1 qrg = rgf := (funext fun j => (hs.a gqrg rfl j).1).trans af_qrg
    replace hM := hM.tr (hs.mono ?o18)
    case o18 => decide
    replace gx := gx.S hs
    replace gqrg := gqrg.S hs
    replace gqbe := gqbe.S hs
    obtain ⟨fa_7, dfa_7⟩ : ∃ g : Nat → Int32, g = va_cpy rgf bef 0 0 i1.toNatClampNeg := ⟨_, rfl⟩
    have nfa_7 : h_6.2.1 qbe = fa_7 := ?o19
    case o19 => rw [eh_6, dfa_7, af_qrgO, af_qbeO]
    refine hx_retv hx hb hr hlk hW ⟨⟨i2, i1, fa_7, f_3, f_5, nfa_7, (hz_SR_y hSR ?o20 rfl rfl ⟨?o21, ?o22⟩ (fun i hi => by rw [dfa_7]; unfold va_cpy; rw [if_pos ⟨Nat.zero_le _, by unfold Int32.toNatClampNeg; omega⟩]; rw [show 0 + (i - 0) = i by omega]; exact hg i hi))⟩, hT, hM⟩ dX7_keepIfBetter_48
    case o20 => omega
    case o21 => omega
    case o22 => omega
  · skip
    refine lv_iload_n hx hb dX7_keepIfBetter_8 rfl (lv_at hl 2 rfl) ?_
    refine lv_aload_n hx hb dX7_keepIfBetter_9 rfl (lv_at hl 0 rfl) ?_
    refine hk_geti hx hb hts hC_7 hown hW gx tt_7 2 ?o23 rfl kw_313 ⟨rfl, rfl, rfl⟩ f_x_2 dX7_keepIfBetter_10 ?_
    case o23 => decide
    refine hb_icmp_ne (zx := i2.toInt) (zy := bl0.toInt) (tgt := 48) hx hb rfl rfl dX7_keepIfBetter_13 ?o24 (fun c_8 => ?_) (fun c_8 => ?_)
    case o24 => decide
    · skip
      refine hx_retv hx hb hr hlk hW ⟨⟨bl0, bs0, bef, f_x_2, f_x_1, af_qbe, (hz_SR_n hSR ?o25)⟩, hT, hM⟩ dX7_keepIfBetter_48
      case o25 => omega
    · skip
      refine lv_iload_n hx hb dX7_keepIfBetter_16 rfl (lv_at hl 1 rfl) ?_
      refine lv_aload_n hx hb dX7_keepIfBetter_17 rfl (lv_at hl 0 rfl) ?_
      refine hk_geti hx hb hts hC_7 hown hW gx tt_7 1 ?o26 rfl kw_311 ⟨rfl, rfl, rfl⟩ f_x_1 dX7_keepIfBetter_18 ?_
      case o26 => decide
      refine hb_icmp_ge (zx := i1.toInt) (zy := bs0.toInt) (tgt := 48) hx hb rfl rfl dX7_keepIfBetter_21 ?o27 (fun c_9 => ?_) (fun c_9 => ?_)
      case o27 => decide
      · skip
        refine hx_retv hx hb hr hlk hW ⟨⟨bl0, bs0, bef, f_x_2, f_x_1, af_qbe, (hz_SR_n hSR ?o28)⟩, hT, hM⟩ dX7_keepIfBetter_48
        case o28 => omega
      · skip
        refine lv_aload_n hx hb dX7_keepIfBetter_24 rfl (lv_at hl 0 rfl) ?_
        refine lv_iload_n hx hb dX7_keepIfBetter_25 rfl (lv_at hl 2 rfl) ?_
        refine hx_puti hx hb hts hC_7 hown hW hT (hx_S.rf (M := [(7, 2)])) gx tt_7 2 ?o29 rfl kw_313 ⟨rfl, rfl, rfl⟩ rfl (x := i2) (i32_r _) rfl rfl rfl (List.mem_singleton.mpr rfl) dX7_keepIfBetter_26 (fun H locs h_10 eh_10 hW hT hs => ?_)
        case o29 => decide
        replace f_x_6 := (hs.o gx trivial rfl).2.trans f_x_6
        replace f_x_7 := (hs.o gx trivial rfl).2.trans f_x_7
        replace f_x_1 := (hs.o gx trivial rfl).1.trans f_x_1
        replace af_qrg : h_10.2.1 qrg = rgf := (funext fun j => (hs.a gqrg rfl j).1).trans af_qrg
        replace af_qbe : h_10.2.1 qbe = bef := (funext fun j => (hs.a gqbe rfl j).1).trans af_qbe
        replace hM := hM.tr (hs.mono ?o30)
        case o30 => decide
        replace gx := gx.S hs
        replace gqrg := gqrg.S hs
        replace gqbe := gqbe.S hs
        have f_11 : h_10.2.1 x 2 = i2 := ?o31
        case o31 =>
          rw [eh_10]
          exact hx_pi_at _ _ _ _
        refine lv_aload_n hx hb dX7_keepIfBetter_29 rfl (lv_at hl 0 rfl) ?_
        refine lv_iload_n hx hb dX7_keepIfBetter_30 rfl (lv_at hl 1 rfl) ?_
        refine hx_puti hx hb hts hC_7 hown hW hT (hx_S.rf (M := [(7, 1)])) gx tt_7 1 ?o32 rfl kw_311 ⟨rfl, rfl, rfl⟩ rfl (x := i1) ⟨?o33, ?o34⟩ rfl rfl rfl (List.mem_singleton.mpr rfl) dX7_keepIfBetter_31 (fun H locs h_12 eh_12 hW hT hs => ?_)
        case o32 => decide
        case o33 => omega
        case o34 => omega
        replace f_x_6 := (hs.o gx trivial rfl).2.trans f_x_6
        replace f_x_7 := (hs.o gx trivial rfl).2.trans f_x_7
        replace f_11 := (hs.o gx trivial rfl).1.trans f_11
        replace af_qrg : h_12.2.1 qrg = rgf := (funext fun j => (hs.a gqrg rfl j).1).trans af_qrg
        replace af_qbe : h_12.2.1 qbe = bef := (funext fun j => (hs.a gqbe rfl j).1).trans af_qbe
        replace hM := hM.tr (hs.mono ?o35)
        case o35 => decide
        replace gx := gx.S hs
        replace gqrg := gqrg.S hs
        replace gqbe := gqbe.S hs
        have f_13 : h_12.2.1 x 1 = i1 := ?o36
        case o36 =>
          rw [eh_12]
          exact hx_pi_at _ _ _ _
        refine lv_aload_n hx hb dX7_keepIfBetter_34 rfl (lv_at hl 0 rfl) ?_
        refine hk_getr hx hb hts hC_7 hown hW gx tt_7 6 ?o37 rfl kw_319 ⟨rfl, rfl, rfl⟩ f_x_6 dX7_keepIfBetter_35 ?_
        case o37 => decide
        refine lv_iconst (v := 0) hx hb dX7_keepIfBetter_38 ?o38 ?_
        case o38 => decide
        refine lv_aload_n hx hb dX7_keepIfBetter_39 rfl (lv_at hl 0 rfl) ?_
        refine hk_getr hx hb hts hC_7 hown hW gx tt_7 7 ?o39 rfl kw_320 ⟨rfl, rfl, rfl⟩ f_x_7 dX7_keepIfBetter_40 ?_
        case o39 => decide
        refine lv_iconst (v := 0) hx hb dX7_keepIfBetter_43 ?o40 ?_
        case o40 => decide
        refine lv_iload_n hx hb dX7_keepIfBetter_44 rfl (lv_at hl 1 rfl) ?_
        have af_qrgO := af_qrg; have af_qbeO := af_qbe
        refine hz_copyi hx hb (hml.trans hl.1.symm) hown (hts _ kw_1007) (hts _ kw_158) (hts _ kw_157) (hts _ kw_97) hW hT gqrg gqbe tt_37 tt_38 rfl ?o41 rfl rfl ?o42 ?o43 ?o44 (Nat.le_of_ble_eq_true rfl) (Nat.le_of_ble_eq_true rfl) dX7_keepIfBetter_45 (fun H locs h_14 eh_14 hW hT hs => ?_)
        case o41 => decide
        case o42 => omega
        case o43 => omega
        case o44 => omega
        replace f_x_6 := (hs.o gx trivial rfl).2.trans f_x_6
        replace f_x_7 := (hs.o gx trivial rfl).2.trans f_x_7
        replace f_11 := (hs.o gx trivial rfl).1.trans f_11
        replace f_13 := (hs.o gx trivial rfl).1.trans f_13
        replace af_qrg : h_14.2.1 qrg = rgf := (funext fun j => (hs.a gqrg rfl j).1).trans af_qrg
        replace hM := hM.tr (hs.mono ?o45)
        case o45 => decide
        replace gx := gx.S hs
        replace gqrg := gqrg.S hs
        replace gqbe := gqbe.S hs
        obtain ⟨fa_15, dfa_15⟩ : ∃ g : Nat → Int32, g = va_cpy rgf bef 0 0 i1.toNatClampNeg := ⟨_, rfl⟩
        have nfa_15 : h_14.2.1 qbe = fa_15 := ?o46
        case o46 => rw [eh_14, dfa_15, af_qrgO, af_qbeO]
        refine hx_retv hx hb hr hlk hW ⟨⟨i2, i1, fa_15, f_11, f_13, nfa_15, (hz_SR_y hSR ?o47 rfl rfl ⟨?o48, ?o49⟩ (fun i hi => by rw [dfa_15]; unfold va_cpy; rw [if_pos ⟨Nat.zero_le _, by unfold Int32.toNatClampNeg; omega⟩]; rw [show 0 + (i - 0) = i by omega]; exact hg i hi))⟩, hT, hM⟩ dX7_keepIfBetter_48
        case o47 => omega
        case o48 => omega
        case o49 => omega


set_option maxHeartbeats 4000000 in
set_option maxRecDepth 100000 in
theorem t_X7_goOn_4v (l : Launch) (dC : Nat → ClassId) (dI : Nat → Nat → Nat) (dA : Nat → ClassId) (L : List Nat) (h : hx_h) (sz : Nat) (x : Nat) (i2 : Int32) (hT : hx_T T_tb L h) (gx : hx_g L h x 7) (qow : Nat) (gqow : hx_g L h qow 36) (f_x_5 : h.2.2 x 5 = some qow) (qrg : Nat) (gqrg : hx_g L h qrg 37) (f_x_6 : h.2.2 x 6 = some qrg) (qbe : Nat) (gqbe : hx_g L h qbe 38) (f_x_7 : h.2.2 x 7 = some qbe) (owf : Nat → Int32) (af_qow : h.2.1 qow = owf) (rgf : Nat → Int32) (af_qrg : h.2.1 qrg = rgf) (bef : Nat → Int32) (af_qbe : h.2.1 qbe = bef) (bl0 : Int32) (f_x_2 : h.2.1 x 2 = bl0) (bs0 : Int32) (f_x_1 : h.2.1 x 1 = bs0) (sz0 : Int32) (f_x_4 : h.2.1 x 4 = sz0) (a b c9 d9 : Int) (hr0 : (rgf 0).toInt = a) (hq0 : 0 ≤ a ∧ a ≤ 39) (hr1 : (rgf 1).toInt = b) (hq1 : 0 ≤ b ∧ b ≤ 39) (hr2 : (rgf 2).toInt = c9) (hq2 : 0 ≤ c9 ∧ c9 ≤ 39) (hr3 : (rgf 3).toInt = d9) (hq3 : 0 ≤ d9 ∧ d9 ≤ 39) (V : Int → Int) (hV : ∀ x : Nat, x < 1600 → (owf x).toInt = V (x : Int)) (hVb : ∀ x : Int, 0 ≤ V x ∧ V x ≤ 61000000) (hi2 : 0 < i2.toInt) (o : Int × Int × (Nat → Int)) (hSR : hz_SR o bl0.toInt bs0.toInt bef) : Met l yX7_goOn (Cond.code yX7_goOn cX7_goOn 6 none :: hx_all) ({ frames := 2, cells := 0, slots := 0, locals := 62 }) (va_Pc [.ref x, .int (4 : Int32), .int i2] (hx_B T_tb (P_ty dA) (dC, dI) vwCl L h sz)) (va_Qv (fun (u : List Nat × hx_h) => (∃ (bl1 : Int32) (bs1 : Int32) (bef1 : Nat → Int32), u.2.2.1 x 2 = bl1 ∧ u.2.2.1 x 1 = bs1 ∧ u.2.2.1 qbe = bef1 ∧ (hz_SR (hz_of 4 (hz_mi i2.toInt (V (40 * d9 + a))) (hz_g a b c9 d9) o) bl1.toInt bs1.toInt bef1)) ∧ hx_T T_tb u.1 u.2 ∧ hx_S T_tb [(7, 1), (7, 2), (38, 0)] L h u.1 u.2) (hx_E T_tb (P_ty dA) (dC, dI) vwCl (hx_A L sz)) (hx_A L sz)) 0 0 (hx_A L sz) := by
  refine hx_met (lv := [(0, .ref x), (1, .int (4 : Int32)), (2, .int i2)]) (by decide +kernel) rfl (Nat.le_of_ble_eq_true rfl) rfl ?_
  intro p e s m below meth c hx hb hml hr hlk hts0 hown hin hsz hW ls hl
  have hts : ∀ w ∈ hx_all, w.before _ s = true := fun w hw => hts0 w (List.mem_cons_of_mem _ hw)
  have hown : s.vm.findClass "SmallCourt$Rings" = some m.cls := hown
  have hM : hx_S T_tb [(7, 1), (7, 2), (38, 0)] L h L h := hx_S.rf
  have b_bl0 := hT.gi gx tt_7 (k := 2) rfl
  rw [f_x_2] at b_bl0
  have b_bl0 : -2147483648 ≤ bl0.toInt ∧ bl0.toInt ≤ 2147483647 := b_bl0
  have b_bs0 := hT.gi gx tt_7 (k := 1) rfl
  rw [f_x_1] at b_bs0
  have b_bs0 : 0 ≤ bs0.toInt ∧ bs0.toInt ≤ 4 := b_bs0
  have b_sz0 := hT.gi gx tt_7 (k := 4) rfl
  rw [f_x_4] at b_sz0
  have b_sz0 : 0 ≤ sz0.toInt ∧ sz0.toInt ≤ 40 := b_sz0
  refine lv_aload_n hx hb dX7_goOn_0 rfl (lv_at hl 0 rfl) ?_
  refine hk_getr hx hb hts hC_7 hown hW (gx.S hM) tt_7 6 ?o0 rfl kw_319 ⟨rfl, rfl, rfl⟩ ((hM.o gx trivial rfl).2.trans f_x_6) dX7_goOn_1 ?_
  case o0 => decide
  refine lv_iload_n hx hb dX7_goOn_4 rfl (lv_at hl 1 rfl) ?_
  refine lv_iconst (v := 1) hx hb dX7_goOn_5 ?o1 ?_
  case o1 => decide
  refine lv_isub hx hb dX7_goOn_6 ?_
  refine lv_topi (fun x_1 ex_1 => ?_)
  obtain rfl : x_1 = (3 : Int32) := ex_1.trans (by decide)
  refine hx_iald hx hb hW hT (gqrg.S hM) tt_37 rfl ?o2 dX7_goOn_7 (fun x_2 ex_2 lx_2 ux_2 => ?_)
  case o2 => decide
  have ax_2 : x_2 = rgf (3 : Int32).toNatClampNeg := ex_2.trans (congrFun (hx_afS hM gqrg rfl af_qrg) _)
  have hla9 : x_2.toInt = d9 := ?o3
  case o3 =>
    rw [ax_2, show (3 : Int32).toNatClampNeg = 3 from by decide]
    exact hr3
  refine lv_bipush (v := 40) hx hb dX7_goOn_8 ?o4 ?_
  case o4 => decide
  refine lv_imul hx hb dX7_goOn_10 ?_
  refine lv_topi (fun x_3 ex_3 => ?_)
  have zx_3 : x_3.toInt = x_2.toInt * 40 := ?o5
  case o5 =>
    rw [ex_3]
    refine i32_mul rfl ?o6 rfl ?o7 ?o8
    case o6 => decide
    case o7 => omega
    case o8 => omega
  refine lv_istore_n (lv' := [(3, .int x_3), (0, .ref x), (1, .int (4 : Int32)), (2, .int i2)]) hx hb dX7_goOn_11 rfl hl ?o9 rfl (fun ls hl => ?_)
  case o9 => decide
  refine lv_iload_n hx hb dX7_goOn_12 rfl (lv_at hl 2 rfl) ?_
  refine lv_iconst (v := 1) hx hb dX7_goOn_13 ?o10 ?_
  case o10 => decide
  refine hb_icmp_le (zx := 4) (zy := 1) (tgt := 39) hx hb ?o11 ?o12 dX7_goOn_14 ?o13 (fun c_4 => ?o14) (fun c_4 => ?_)
  case o11 => decide
  case o12 => decide
  case o13 => decide
  case o14 =>
    exfalso
    omega
  refine lv_aload_n hx hb dX7_goOn_17 rfl (lv_at hl 1 rfl) ?_
  refine lv_iload_n hx hb dX7_goOn_18 rfl (lv_at hl 2 rfl) ?_
  refine lv_iload_n hx hb dX7_goOn_19 rfl (lv_at hl 3 rfl) ?_
  refine lv_aload_n hx hb dX7_goOn_20 rfl (lv_at hl 1 rfl) ?_
  refine hk_getr hx hb hts hC_7 hown hW (gx.S hM) tt_7 5 ?o15 rfl kw_318 ⟨rfl, rfl, rfl⟩ ((hM.o gx trivial rfl).2.trans f_x_5) dX7_goOn_21 ?_
  case o15 => decide
  refine lv_iload_n hx hb dX7_goOn_24 rfl (lv_at hl 0 rfl) ?_
  refine lv_aload_n hx hb dX7_goOn_25 rfl (lv_at hl 1 rfl) ?_
  refine hk_getr hx hb hts hC_7 hown hW (gx.S hM) tt_7 6 ?o16 rfl kw_319 ⟨rfl, rfl, rfl⟩ ((hM.o gx trivial rfl).2.trans f_x_6) dX7_goOn_26 ?_
  case o16 => decide
  refine lv_iconst (v := 0) hx hb dX7_goOn_29 ?o17 ?_
  case o17 => decide
  refine hx_iald hx hb hW hT (gqrg.S hM) tt_37 rfl ?o18 dX7_goOn_30 (fun x_5 ex_5 lx_5 ux_5 => ?_)
  case o18 => decide
  have ax_5 : x_5 = rgf (0 : Int32).toNatClampNeg := ex_5.trans (congrFun (hx_afS hM gqrg rfl af_qrg) _)
  have hfi31 : x_5.toInt = a := ?o19
  case o19 =>
    rw [ax_5, show (0 : Int32).toNatClampNeg = 0 from by decide]
    exact hr0
  refine lv_iadd hx hb dX7_goOn_31 ?_
  have rg_6 := i32_r x_3
  have rg_7 := i32_r x_5
  refine lv_topi (fun x_8 ex_8 => ?_)
  have zx_8 : x_8.toInt = x_3.toInt + x_5.toInt := ?o20
  case o20 =>
    rw [ex_8]
    refine i32_add rfl rfl ?o21 ?o22
    case o21 => omega
    case o22 => omega
  refine hx_iald hx hb hW hT (gqow.S hM) tt_36 rfl ⟨?o23, ?o24⟩ dX7_goOn_32 (fun x_9 ex_9 lx_9 ux_9 => ?_)
  case o23 => omega
  case o24 => omega
  have ax_9 : x_9 = owf x_8.toNatClampNeg := ex_9.trans (congrFun (hx_afS hM gqow rfl af_qow) _)
  have hv_10 : x_9.toInt = V (40 * d9 + a) := ?o25
  case o25 =>
    have h9 := hV x_8.toNatClampNeg (by unfold Int32.toNatClampNeg; omega)
    rw [← ax_9, show ((x_8.toNatClampNeg : Nat) : Int) = 40 * d9 + a by unfold Int32.toNatClampNeg; omega] at h9
    exact h9
  have hv_10b := hVb (40 * d9 + a); rw [← hv_10] at hv_10b
  refine va_mmin hx hb (hml.trans hl.1.symm) hown (hts _ kw_1002) (hts _ kw_917) (hts _ kw_109) (hts _ kw_918) (Nat.le_of_ble_eq_true rfl) (Nat.le_of_ble_eq_true rfl) (Nat.le_of_ble_eq_true rfl) (Nat.le_of_ble_eq_true rfl) dX7_goOn_33 ?_
  refine lv_topi (fun x_11 ex_11 => ?_)
  have hmi9 := hz_mi_e ex_11; rw [hv_10] at hmi9
  have hmb9 := hz_mi_l (a := i2.toInt) (b := V (40 * d9 + a)); have hmc9 := hz_mi_c (a := i2.toInt) (b := V (40 * d9 + a))
  have zc_4 : (4 : Int32).toInt = 4 := ?o26
  case o26 => decide
  refine hx_gov (hx_runV (As := [.int (4 : Int32), .int x_11]) (rest := []) ⟨hx, hb, hml, hown, hts⟩ hW (gx.S hM) tt_7 (T := TX7) (N := 8) rfl (t_X7_keepIfBetter_v l dC dI dA L h s.heap.size x (4 : Int32) x_11 hT (gx.S hM) qrg (gqrg.S hM) ((hM.o gx trivial rfl).2.trans f_x_6) qbe (gqbe.S hM) ((hM.o gx trivial rfl).2.trans f_x_7) rgf (hx_afS hM gqrg rfl af_qrg) bef af_qbe bl0 f_x_2 bs0 f_x_1 (by decide) (by omega) (hz_g a b c9 d9) (fun i hi => by rcases (show i = 0 ∨ i = 1 ∨ i = 2 ∨ i = 3 by omega) with z9 | z9 | z9 | z9 <;> subst z9 <;> first | exact hr0 | exact hr1 | exact hr2 | exact hr3) o hSR) (cwV 2 hts (hx_gV kw_1006 kw_1003 kw_1005 kw_37 kw_101) rfl rfl rfl (by decide +kernel) ⟨Nat.le_of_ble_eq_true rfl, Nat.le_of_ble_eq_true rfl⟩) rfl hl.1 rfl (Nat.le_of_ble_eq_true rfl) dX7_goOn_36 ⟨Nat.le_of_ble_eq_true rfl, Nat.le_of_ble_eq_true rfl⟩) hW (fun L_12 h_13 H locs p_15 hW => ?_)
  obtain ⟨⟨w_17, w_18, w_19, fw_17, fw_18, fw_19, hr_16⟩, hT, hs⟩ := p_15
  replace hT : hx_T T_tb L_12 h_13 := hT
  replace hs : hx_S T_tb [(7, 1), (7, 2), (38, 0)] L h L_12 h_13 := hs
  replace ex_2 := ex_2.trans (hs.a (gqrg.S hM) rfl _).1.symm
  replace ex_5 := ex_5.trans (hs.a (gqrg.S hM) rfl _).1.symm
  replace ex_9 := ex_9.trans (hs.a (gqow.S hM) rfl _).1.symm
  replace hM := hM.tr (hs.mono ?o27)
  case o27 => decide
  have fw_17 : h_13.2.1 x 2 = w_17 := fw_17
  have bw_17 := hT.gi (gx.S hM) tt_7 (k := 2) rfl
  rw [fw_17] at bw_17
  have bw_17 : -2147483648 ≤ w_17.toInt ∧ w_17.toInt ≤ 2147483647 := bw_17
  have fw_18 : h_13.2.1 x 1 = w_18 := fw_18
  have bw_18 := hT.gi (gx.S hM) tt_7 (k := 1) rfl
  rw [fw_18] at bw_18
  have bw_18 : 0 ≤ w_18.toInt ∧ w_18.toInt ≤ 4 := bw_18
  have fw_19 : h_13.2.1 qbe = w_19 := fw_19
  have hS9 : hz_SR (hz_of 4 (hz_mi i2.toInt (V (40 * d9 + a))) (hz_g a b c9 d9) o) w_17.toInt w_18.toInt w_19 := ?o28
  case o28 =>
    have h9 := hr_16
    rw [hmi9, zc_4] at h9
    exact h9
  refine lv_aload_n hx hb dX7_goOn_39 rfl (lv_at hl 1 rfl) ?_
  refine hk_getr hx hb hts hC_7 hown hW (gx.S hM) tt_7 6 ?o29 rfl kw_319 ⟨rfl, rfl, rfl⟩ ((hM.o gx trivial rfl).2.trans f_x_6) dX7_goOn_40 ?_
  case o29 => decide
  refine lv_iconst (v := 0) hx hb dX7_goOn_43 ?o30 ?_
  case o30 => decide
  refine hx_iald hx hb hW hT (gqrg.S hM) tt_37 rfl ?o31 dX7_goOn_44 (fun x_20 ex_20 lx_20 ux_20 => ?_)
  case o31 => decide
  have ax_20 : x_20 = rgf (0 : Int32).toNatClampNeg := ex_20.trans (congrFun (hx_afS hM gqrg rfl af_qrg) _)
  obtain rfl : x_5 = x_20 := ex_5.trans ex_20.symm
  have hf46 : x_5.toInt = a := ?o32
  case o32 =>
    rw [ax_5, show (0 : Int32).toNatClampNeg = 0 from by decide]
    exact hr0
  refine lv_iconst (v := 1) hx hb dX7_goOn_45 ?o33 ?_
  case o33 => decide
  refine lv_iadd hx hb dX7_goOn_46 ?_
  refine lv_topi (fun x_21 ex_21 => ?_)
  have zx_21 : x_21.toInt = x_5.toInt + 1 := ?o34
  case o34 =>
    rw [ex_21]
    refine i32_add rfl ?o35 ?o36 ?o37
    case o35 => decide
    case o36 => omega
    case o37 => omega
  refine lv_istore (lv' := [(4, .int x_21), (3, .int x_3), (0, .ref x), (1, .int (4 : Int32)), (2, .int i2)]) hx hb dX7_goOn_47 hl ?o38 rfl (fun ls hl => ?_)
  case o38 => decide
  refine lv_iload hx hb dX7_goOn_49 (lv_at hl 0 rfl) ?_
  refine lv_aload_n hx hb dX7_goOn_51 rfl (lv_at hl 2 rfl) ?_
  refine hk_geti hx hb hts hC_7 hown hW (gx.S hM) tt_7 4 ?o39 rfl kw_317 ⟨rfl, rfl, rfl⟩ ((hM.o gx trivial rfl).1.trans f_x_4) dX7_goOn_52 ?_
  case o39 => decide
  refine hb_icmp_ge (zx := x_21.toInt) (zy := sz0.toInt) (tgt := 125) hx hb rfl rfl dX7_goOn_55 ?o40 (fun c_22 => ?_) (fun c_22 => ?_)
  case o40 => decide
  · skip
    exact hx_retv hx hb hr hlk hW ⟨⟨w_17, w_18, w_19, fw_17, fw_18, fw_19, hS9⟩, hT, hM⟩ dX7_goOn_125
  · skip
    refine lv_iload_n hx hb dX7_goOn_58 rfl (lv_at hl 3 rfl) ?_
    refine lv_iconst (v := 4) hx hb dX7_goOn_59 ?o41 ?_
    case o41 => decide
    refine hb_icmp_ge (zx := 4) (zy := 4) (tgt := 125) hx hb ?o42 ?o43 dX7_goOn_60 ?o44 (fun c_23 => ?_) (fun c_23 => ?o45)
    case o42 => decide
    case o43 => decide
    case o44 => decide
    case o45 =>
      exfalso
      omega
    exact hx_retv hx hb hr hlk hW ⟨⟨w_17, w_18, w_19, fw_17, fw_18, fw_19, hS9⟩, hT, hM⟩ dX7_goOn_125


set_option maxHeartbeats 4000000 in
set_option maxRecDepth 100000 in
theorem t_X7_goOn_3v (l : Launch) (dC : Nat → ClassId) (dI : Nat → Nat → Nat) (dA : Nat → ClassId) (L : List Nat) (h : hx_h) (sz : Nat) (x : Nat) (i2 : Int32) (hT : hx_T T_tb L h) (gx : hx_g L h x 7) (qow : Nat) (gqow : hx_g L h qow 36) (f_x_5 : h.2.2 x 5 = some qow) (qrg : Nat) (gqrg : hx_g L h qrg 37) (f_x_6 : h.2.2 x 6 = some qrg) (qbe : Nat) (gqbe : hx_g L h qbe 38) (f_x_7 : h.2.2 x 7 = some qbe) (owf : Nat → Int32) (af_qow : h.2.1 qow = owf) (rgf : Nat → Int32) (af_qrg : h.2.1 qrg = rgf) (bef : Nat → Int32) (af_qbe : h.2.1 qbe = bef) (bl0 : Int32) (f_x_2 : h.2.1 x 2 = bl0) (bs0 : Int32) (f_x_1 : h.2.1 x 1 = bs0) (sz0 : Int32) (f_x_4 : h.2.1 x 4 = sz0) (a b c9 : Int) (hr0 : (rgf 0).toInt = a) (hq0 : 0 ≤ a ∧ a ≤ 39) (hr1 : (rgf 1).toInt = b) (hq1 : 0 ≤ b ∧ b ≤ 39) (hr2 : (rgf 2).toInt = c9) (hq2 : 0 ≤ c9 ∧ c9 ≤ 39) (V : Int → Int) (hV : ∀ x : Nat, x < 1600 → (owf x).toInt = V (x : Int)) (hVb : ∀ x : Int, 0 ≤ V x ∧ V x ≤ 61000000) (hi2 : 0 < i2.toInt) (o : Int × Int × (Nat → Int)) (hSR : hz_SR o bl0.toInt bs0.toInt bef) : Met l yX7_goOn (Cond.code yX7_goOn cX7_goOn 6 none :: hx_all) ({ frames := 3, cells := 0, slots := 0, locals := 87 }) (va_Pc [.ref x, .int (3 : Int32), .int i2] (hx_B T_tb (P_ty dA) (dC, dI) vwCl L h sz)) (va_Qv (fun (u : List Nat × hx_h) => (∃ (bl1 : Int32) (bs1 : Int32) (bef1 : Nat → Int32) (rgf1 : Nat → Int32), u.2.2.1 x 2 = bl1 ∧ u.2.2.1 x 1 = bs1 ∧ u.2.2.1 qbe = bef1 ∧ u.2.2.1 qrg = rgf1 ∧ (hz_SR (hz_F4 V a b c9 i2.toInt (hz_of 3 (hz_mi i2.toInt (V (40 * c9 + a))) (hz_g a b c9 0) o) (sz0.toInt - a - 1).toNat) bl1.toInt bs1.toInt bef1 ∧ ∀ j : Nat, j < 3 → rgf1 j = rgf j)) ∧ hx_T T_tb u.1 u.2 ∧ hx_S T_tb [(7, 1), (7, 2), (37, 0), (38, 0)] L h u.1 u.2) (hx_E T_tb (P_ty dA) (dC, dI) vwCl (hx_A L sz)) (hx_A L sz)) 0 0 (hx_A L sz) := by
  refine hx_met (lv := [(0, .ref x), (1, .int (3 : Int32)), (2, .int i2)]) (by decide +kernel) rfl (Nat.le_of_ble_eq_true rfl) rfl ?_
  intro p e s m below meth c hx hb hml hr hlk hts0 hown hin hsz hW ls hl
  have hts : ∀ w ∈ hx_all, w.before _ s = true := fun w hw => hts0 w (List.mem_cons_of_mem _ hw)
  have hown : s.vm.findClass "SmallCourt$Rings" = some m.cls := hown
  have hM : hx_S T_tb [(7, 1), (7, 2), (37, 0), (38, 0)] L h L h := hx_S.rf
  have b_bl0 := hT.gi gx tt_7 (k := 2) rfl
  rw [f_x_2] at b_bl0
  have b_bl0 : -2147483648 ≤ bl0.toInt ∧ bl0.toInt ≤ 2147483647 := b_bl0
  have b_bs0 := hT.gi gx tt_7 (k := 1) rfl
  rw [f_x_1] at b_bs0
  have b_bs0 : 0 ≤ bs0.toInt ∧ bs0.toInt ≤ 4 := b_bs0
  have b_sz0 := hT.gi gx tt_7 (k := 4) rfl
  rw [f_x_4] at b_sz0
  have b_sz0 : 0 ≤ sz0.toInt ∧ sz0.toInt ≤ 40 := b_sz0
  refine lv_aload_n hx hb dX7_goOn_0 rfl (lv_at hl 0 rfl) ?_
  refine hk_getr hx hb hts hC_7 hown hW (gx.S hM) tt_7 6 ?o0 rfl kw_319 ⟨rfl, rfl, rfl⟩ ((hM.o gx trivial rfl).2.trans f_x_6) dX7_goOn_1 ?_
  case o0 => decide
  refine lv_iload_n hx hb dX7_goOn_4 rfl (lv_at hl 1 rfl) ?_
  refine lv_iconst (v := 1) hx hb dX7_goOn_5 ?o1 ?_
  case o1 => decide
  refine lv_isub hx hb dX7_goOn_6 ?_
  refine lv_topi (fun x_1 ex_1 => ?_)
  obtain rfl : x_1 = (2 : Int32) := ex_1.trans (by decide)
  refine hx_iald hx hb hW hT (gqrg.S hM) tt_37 rfl ?o2 dX7_goOn_7 (fun x_2 ex_2 lx_2 ux_2 => ?_)
  case o2 => decide
  have ax_2 : x_2 = rgf (2 : Int32).toNatClampNeg := ex_2.trans (congrFun af_qrg _)
  have hla9 : x_2.toInt = c9 := ?o3
  case o3 =>
    rw [ax_2, show (2 : Int32).toNatClampNeg = 2 from by decide]
    exact hr2
  refine lv_bipush (v := 40) hx hb dX7_goOn_8 ?o4 ?_
  case o4 => decide
  refine lv_imul hx hb dX7_goOn_10 ?_
  refine lv_topi (fun x_3 ex_3 => ?_)
  have zx_3 : x_3.toInt = x_2.toInt * 40 := ?o5
  case o5 =>
    rw [ex_3]
    refine i32_mul rfl ?o6 rfl ?o7 ?o8
    case o6 => decide
    case o7 => omega
    case o8 => omega
  refine lv_istore_n (lv' := [(3, .int x_3), (0, .ref x), (1, .int (3 : Int32)), (2, .int i2)]) hx hb dX7_goOn_11 rfl hl ?o9 rfl (fun ls hl => ?_)
  case o9 => decide
  refine lv_iload_n hx hb dX7_goOn_12 rfl (lv_at hl 2 rfl) ?_
  refine lv_iconst (v := 1) hx hb dX7_goOn_13 ?o10 ?_
  case o10 => decide
  refine hb_icmp_le (zx := 3) (zy := 1) (tgt := 39) hx hb ?o11 ?o12 dX7_goOn_14 ?o13 (fun c_4 => ?o14) (fun c_4 => ?_)
  case o11 => decide
  case o12 => decide
  case o13 => decide
  case o14 =>
    exfalso
    omega
  refine lv_aload_n hx hb dX7_goOn_17 rfl (lv_at hl 1 rfl) ?_
  refine lv_iload_n hx hb dX7_goOn_18 rfl (lv_at hl 2 rfl) ?_
  refine lv_iload_n hx hb dX7_goOn_19 rfl (lv_at hl 3 rfl) ?_
  refine lv_aload_n hx hb dX7_goOn_20 rfl (lv_at hl 1 rfl) ?_
  refine hk_getr hx hb hts hC_7 hown hW (gx.S hM) tt_7 5 ?o15 rfl kw_318 ⟨rfl, rfl, rfl⟩ ((hM.o gx trivial rfl).2.trans f_x_5) dX7_goOn_21 ?_
  case o15 => decide
  refine lv_iload_n hx hb dX7_goOn_24 rfl (lv_at hl 0 rfl) ?_
  refine lv_aload_n hx hb dX7_goOn_25 rfl (lv_at hl 1 rfl) ?_
  refine hk_getr hx hb hts hC_7 hown hW (gx.S hM) tt_7 6 ?o16 rfl kw_319 ⟨rfl, rfl, rfl⟩ ((hM.o gx trivial rfl).2.trans f_x_6) dX7_goOn_26 ?_
  case o16 => decide
  refine lv_iconst (v := 0) hx hb dX7_goOn_29 ?o17 ?_
  case o17 => decide
  refine hx_iald hx hb hW hT (gqrg.S hM) tt_37 rfl ?o18 dX7_goOn_30 (fun x_5 ex_5 lx_5 ux_5 => ?_)
  case o18 => decide
  have ax_5 : x_5 = rgf (0 : Int32).toNatClampNeg := ex_5.trans (congrFun af_qrg _)
  have hfi31 : x_5.toInt = a := ?o19
  case o19 =>
    rw [ax_5, show (0 : Int32).toNatClampNeg = 0 from by decide]
    exact hr0
  refine lv_iadd hx hb dX7_goOn_31 ?_
  have rg_6 := i32_r x_3
  have rg_7 := i32_r x_5
  refine lv_topi (fun x_8 ex_8 => ?_)
  have zx_8 : x_8.toInt = x_3.toInt + x_5.toInt := ?o20
  case o20 =>
    rw [ex_8]
    refine i32_add rfl rfl ?o21 ?o22
    case o21 => omega
    case o22 => omega
  refine hx_iald hx hb hW hT (gqow.S hM) tt_36 rfl ⟨?o23, ?o24⟩ dX7_goOn_32 (fun x_9 ex_9 lx_9 ux_9 => ?_)
  case o23 => omega
  case o24 => omega
  have ax_9 : x_9 = owf x_8.toNatClampNeg := ex_9.trans (congrFun (hx_afS hM gqow rfl af_qow) _)
  have hv_10 : x_9.toInt = V (40 * c9 + a) := ?o25
  case o25 =>
    have h9 := hV x_8.toNatClampNeg (by unfold Int32.toNatClampNeg; omega)
    rw [← ax_9, show ((x_8.toNatClampNeg : Nat) : Int) = 40 * c9 + a by unfold Int32.toNatClampNeg; omega] at h9
    exact h9
  have hv_10b := hVb (40 * c9 + a); rw [← hv_10] at hv_10b
  refine va_mmin hx hb (hml.trans hl.1.symm) hown (hts _ kw_1002) (hts _ kw_917) (hts _ kw_109) (hts _ kw_918) (Nat.le_of_ble_eq_true rfl) (Nat.le_of_ble_eq_true rfl) (Nat.le_of_ble_eq_true rfl) (Nat.le_of_ble_eq_true rfl) dX7_goOn_33 ?_
  refine lv_topi (fun x_11 ex_11 => ?_)
  have hmi9 := hz_mi_e ex_11; rw [hv_10] at hmi9
  have hmb9 := hz_mi_l (a := i2.toInt) (b := V (40 * c9 + a)); have hmc9 := hz_mi_c (a := i2.toInt) (b := V (40 * c9 + a))
  have zc_3 : (3 : Int32).toInt = 3 := ?o26
  case o26 => decide
  refine hx_gov (hx_runV (As := [.int (3 : Int32), .int x_11]) (rest := []) ⟨hx, hb, hml, hown, hts⟩ hW (gx.S hM) tt_7 (T := TX7) (N := 8) rfl (t_X7_keepIfBetter_v l dC dI dA L h s.heap.size x (3 : Int32) x_11 hT (gx.S hM) qrg (gqrg.S hM) ((hM.o gx trivial rfl).2.trans f_x_6) qbe (gqbe.S hM) ((hM.o gx trivial rfl).2.trans f_x_7) rgf af_qrg bef af_qbe bl0 f_x_2 bs0 f_x_1 (by decide) (by omega) (hz_g a b c9 0) (fun i hi => by rcases (show i = 0 ∨ i = 1 ∨ i = 2 by omega) with z9 | z9 | z9 <;> subst z9 <;> first | exact hr0 | exact hr1 | exact hr2) o hSR) (cwV 2 hts (hx_gV kw_1006 kw_1003 kw_1005 kw_37 kw_101) rfl rfl rfl (by decide +kernel) ⟨Nat.le_of_ble_eq_true rfl, Nat.le_of_ble_eq_true rfl⟩) rfl hl.1 rfl (Nat.le_of_ble_eq_true rfl) dX7_goOn_36 ⟨Nat.le_of_ble_eq_true rfl, Nat.le_of_ble_eq_true rfl⟩) hW (fun L_12 h_13 H locs p_15 hW => ?_)
  obtain ⟨⟨w_17, w_18, w_19, fw_17, fw_18, fw_19, hr_16⟩, hT, hs⟩ := p_15
  replace hT : hx_T T_tb L_12 h_13 := hT
  replace hs : hx_S T_tb [(7, 1), (7, 2), (38, 0)] L h L_12 h_13 := hs
  replace af_qrg : h_13.2.1 qrg = rgf := (funext fun j => (hs.a (gqrg.S hM) rfl j).1).trans af_qrg
  replace ex_2 := ex_2.trans (hs.a (gqrg.S hM) rfl _).1.symm
  replace ex_5 := ex_5.trans (hs.a (gqrg.S hM) rfl _).1.symm
  replace ex_9 := ex_9.trans (hs.a (gqow.S hM) rfl _).1.symm
  replace hM := hM.tr (hs.mono ?o27)
  case o27 => decide
  have fw_17 : h_13.2.1 x 2 = w_17 := fw_17
  have bw_17 := hT.gi (gx.S hM) tt_7 (k := 2) rfl
  rw [fw_17] at bw_17
  have bw_17 : -2147483648 ≤ w_17.toInt ∧ w_17.toInt ≤ 2147483647 := bw_17
  have fw_18 : h_13.2.1 x 1 = w_18 := fw_18
  have bw_18 := hT.gi (gx.S hM) tt_7 (k := 1) rfl
  rw [fw_18] at bw_18
  have bw_18 : 0 ≤ w_18.toInt ∧ w_18.toInt ≤ 4 := bw_18
  have fw_19 : h_13.2.1 qbe = w_19 := fw_19
  have hS9 : hz_SR (hz_of 3 (hz_mi i2.toInt (V (40 * c9 + a))) (hz_g a b c9 0) o) w_17.toInt w_18.toInt w_19 := ?o28
  case o28 =>
    have h9 := hr_16
    rw [hmi9, zc_3] at h9
    exact h9
  refine lv_aload_n hx hb dX7_goOn_39 rfl (lv_at hl 1 rfl) ?_
  refine hk_getr hx hb hts hC_7 hown hW (gx.S hM) tt_7 6 ?o29 rfl kw_319 ⟨rfl, rfl, rfl⟩ ((hM.o gx trivial rfl).2.trans f_x_6) dX7_goOn_40 ?_
  case o29 => decide
  refine lv_iconst (v := 0) hx hb dX7_goOn_43 ?o30 ?_
  case o30 => decide
  refine hx_iald hx hb hW hT (gqrg.S hM) tt_37 rfl ?o31 dX7_goOn_44 (fun x_20 ex_20 lx_20 ux_20 => ?_)
  case o31 => decide
  have ax_20 : x_20 = rgf (0 : Int32).toNatClampNeg := ex_20.trans (congrFun af_qrg _)
  obtain rfl : x_5 = x_20 := ex_5.trans ex_20.symm
  have hf46 : x_5.toInt = a := ?o32
  case o32 =>
    rw [ax_5, show (0 : Int32).toNatClampNeg = 0 from by decide]
    exact hr0
  refine lv_iconst (v := 1) hx hb dX7_goOn_45 ?o33 ?_
  case o33 => decide
  refine lv_iadd hx hb dX7_goOn_46 ?_
  refine lv_topi (fun x_21 ex_21 => ?_)
  have zx_21 : x_21.toInt = x_5.toInt + 1 := ?o34
  case o34 =>
    rw [ex_21]
    refine i32_add rfl ?o35 ?o36 ?o37
    case o35 => decide
    case o36 => omega
    case o37 => omega
  refine lv_istore (lv' := [(4, .int x_21), (3, .int x_3), (0, .ref x), (1, .int (3 : Int32)), (2, .int i2)]) hx hb dX7_goOn_47 hl ?o38 rfl (fun ls hl => ?_)
  case o38 => decide
  have loop49 : ∀ (n49 : Nat) (iv49_4 fw49_x_2 fw49_x_1 : Int32) (ia49_qrg ia49_qbe : Nat → Int32) (H : Heap) (locs : List Loc) (hL1 : List Nat) (hl1 : hx_h), 1 ≤ iv49_4.toInt → iv49_4.toInt ≤ 40 → -2147483648 ≤ fw49_x_2.toInt → fw49_x_2.toInt ≤ 2147483647 → 0 ≤ fw49_x_1.toInt → fw49_x_1.toInt ≤ 4 → (hz_SR (hz_F4 V a b c9 i2.toInt (hz_of 3 (hz_mi i2.toInt (V (40 * c9 + a))) (hz_g a b c9 0) o) (iv49_4.toInt - a - 1).toNat) fw49_x_2.toInt fw49_x_1.toInt ia49_qbe) → (a + 1 ≤ iv49_4.toInt ∧ (iv49_4.toInt ≤ sz0.toInt ∨ iv49_4.toInt = a + 1)) → ((ia49_qrg 0).toInt = a) → ((ia49_qrg 1).toInt = b) → ((ia49_qrg 2).toInt = c9) → ∀ (ls : Array Slot), 40 - iv49_4.toInt < (n49 : Int) → hx_W T_tb (P_ty dA) (dC, dI) vwCl (hx_A L sz) s.heap hL1 hl1 s H locs → hx_T T_tb hL1 hl1 → hx_S T_tb [(7, 1), (7, 2), (37, 0), (38, 0)] L h hL1 hl1 → hl1.2.1 x 2 = fw49_x_2 → hl1.2.1 x 1 = fw49_x_1 → hl1.2.1 qrg = ia49_qrg → hl1.2.1 qbe = ia49_qbe → lv_has ls 6 [(4, .int iv49_4), (3, .int x_3), (0, .ref x), (1, .int (3 : Int32)), (2, .int i2)] → W p l e ({ frames := 3, cells := 0, slots := 0, locals := 87 }) s m ([.ref x, .int (3 : Int32), .int i2] : List Value).toArray below meth c H locs 0 0 (MQ below (va_Qv (fun (u : List Nat × hx_h) => (∃ (bl1 : Int32) (bs1 : Int32) (bef1 : Nat → Int32) (rgf1 : Nat → Int32), u.2.2.1 x 2 = bl1 ∧ u.2.2.1 x 1 = bs1 ∧ u.2.2.1 qbe = bef1 ∧ u.2.2.1 qrg = rgf1 ∧ (hz_SR (hz_F4 V a b c9 i2.toInt (hz_of 3 (hz_mi i2.toInt (V (40 * c9 + a))) (hz_g a b c9 0) o) (sz0.toInt - a - 1).toNat) bl1.toInt bs1.toInt bef1 ∧ ∀ j : Nat, j < 3 → rgf1 j = rgf j)) ∧ hx_T T_tb u.1 u.2 ∧ hx_S T_tb [(7, 1), (7, 2), (37, 0), (38, 0)] L h u.1 u.2) (hx_E T_tb (P_ty dA) (dC, dI) vwCl (hx_A L sz)) (hx_A L sz)) ([.ref x, .int (3 : Int32), .int i2] : List Value).toArray s 0 0 (hx_A L sz)) (F0 m 49 ls []) := by
    intro n49
    induction n49 with
    | zero => intro iv49_4 fw49_x_2 fw49_x_1 ia49_qrg ia49_qbe H locs hL1 hl1 bliv49_4 buiv49_4 blfw49_x_2 bufw49_x_2 blfw49_x_1 bufw49_x_1 vi49_0 vi49_1 vi49_2 vi49_3 vi49_4 ls hn49; exfalso; omega
    | succ n49 ih49 =>
      intro iv49_4 fw49_x_2 fw49_x_1 ia49_qrg ia49_qbe H locs hL1 hl1 bliv49_4 buiv49_4 blfw49_x_2 bufw49_x_2 blfw49_x_1 bufw49_x_1 vi49_0 vi49_1 vi49_2 vi49_3 vi49_4 ls hn49 hW hT hM ffw49_x_2 ffw49_x_1 nia49_qrg nia49_qbe hl
      have rr09 := vi49_2
      have rr19 := vi49_3
      have rr29 := vi49_4
      refine lv_iload hx hb dX7_goOn_49 (lv_at hl 0 rfl) ?_
      refine lv_aload_n hx hb dX7_goOn_51 rfl (lv_at hl 2 rfl) ?_
      refine hk_geti hx hb hts hC_7 hown hW (gx.S hM) tt_7 4 ?o39 rfl kw_317 ⟨rfl, rfl, rfl⟩ ((hM.o gx trivial rfl).1.trans f_x_4) dX7_goOn_52 ?_
      case o39 => decide
      refine hb_icmp_ge (zx := iv49_4.toInt) (zy := sz0.toInt) (tgt := 125) hx hb rfl rfl dX7_goOn_55 ?o40 (fun c_22 => ?_) (fun c_22 => ?_)
      case o40 => decide
      · skip
        exact hx_retv hx hb hr hlk hW ⟨⟨fw49_x_2, fw49_x_1, ia49_qbe, ia49_qrg, ffw49_x_2, ffw49_x_1, nia49_qbe, nia49_qrg, ⟨(by have h9 := vi49_0; rw [show (iv49_4.toInt - a - 1).toNat = (sz0.toInt - a - 1).toNat by omega] at h9; exact h9), (fun j hj => Int32.toInt_inj.mp (by rcases (show j = 0 ∨ j = 1 ∨ j = 2 by omega) with z9 | z9 | z9 <;> rw [z9] <;> omega))⟩⟩, hT, hM⟩ dX7_goOn_125
      · skip
        refine lv_iload_n hx hb dX7_goOn_58 rfl (lv_at hl 3 rfl) ?_
        refine lv_iconst (v := 4) hx hb dX7_goOn_59 ?o41 ?_
        case o41 => decide
        refine hb_icmp_ge (zx := 3) (zy := 4) (tgt := 125) hx hb ?o42 ?o43 dX7_goOn_60 ?o44 (fun c_23 => ?o45) (fun c_23 => ?_)
        case o42 => decide
        case o43 => decide
        case o44 => decide
        case o45 =>
          exfalso
          omega
        refine lv_aload_n hx hb dX7_goOn_63 rfl (lv_at hl 2 rfl) ?_
        refine hk_getr hx hb hts hC_7 hown hW (gx.S hM) tt_7 5 ?o46 rfl kw_318 ⟨rfl, rfl, rfl⟩ ((hM.o gx trivial rfl).2.trans f_x_5) dX7_goOn_64 ?_
        case o46 => decide
        refine lv_iload_n hx hb dX7_goOn_67 rfl (lv_at hl 1 rfl) ?_
        refine lv_iload hx hb dX7_goOn_68 (lv_at hl 0 rfl) ?_
        refine lv_iadd hx hb dX7_goOn_70 ?_
        have rg_24 := i32_r iv49_4
        refine lv_topi (fun x_25 ex_25 => ?_)
        have zx_25 : x_25.toInt = x_3.toInt + iv49_4.toInt := ?o47
        case o47 =>
          rw [ex_25]
          refine i32_add rfl rfl ?o48 ?o49
          case o48 => omega
          case o49 => omega
        refine hx_iald hx hb hW hT (gqow.S hM) tt_36 rfl ⟨?o50, ?o51⟩ dX7_goOn_71 (fun x_26 ex_26 lx_26 ux_26 => ?_)
        case o50 => omega
        case o51 => omega
        have ax_26 : x_26 = owf x_25.toNatClampNeg := ex_26.trans (congrFun (hx_afS hM gqow rfl af_qow) _)
        have hv_27 : x_26.toInt = V (40 * c9 + iv49_4.toInt) := ?o52
        case o52 =>
          have h9 := hV x_25.toNatClampNeg (by unfold Int32.toNatClampNeg; omega)
          rw [← ax_26, show ((x_25.toNatClampNeg : Nat) : Int) = 40 * c9 + iv49_4.toInt by unfold Int32.toNatClampNeg; omega] at h9
          exact h9
        have hv_27b := hVb (40 * c9 + iv49_4.toInt); rw [← hv_27] at hv_27b
        refine lv_istore (lv' := [(5, .int x_26), (4, .int iv49_4), (3, .int x_3), (0, .ref x), (1, .int (3 : Int32)), (2, .int i2)]) hx hb dX7_goOn_72 hl ?o53 rfl (fun ls hl => ?_)
        case o53 => decide
        refine lv_iload hx hb dX7_goOn_74 (lv_at hl 0 rfl) ?_
        refine hb_if_le (zx := x_26.toInt) (tgt := 119) hx hb rfl dX7_goOn_76 ?o54 (fun c_28 => ?_) (fun c_28 => ?_)
        case o54 => decide
        · skip
          obtain ⟨x_29, ex_29⟩ : ∃ y : Int32, y = iv49_4 + Int32.ofInt 1 := ⟨_, rfl⟩
          have zx_29 : x_29.toInt = iv49_4.toInt + (1) := ?o55
          case o55 =>
            rw [ex_29]
            refine i32_add rfl ?o56 ?o57 ?o58
            case o56 => decide
            case o57 => omega
            case o58 => omega
          refine lv_iinc (v := x_29) (lv' := [(4, .int x_29), (5, .int x_26), (3, .int x_3), (0, .ref x), (1, .int (3 : Int32)), (2, .int i2)]) hx hb dX7_goOn_119 hl (k := 1) rfl ex_29.symm ?o59 rfl (fun ls hl => ?_)
          case o59 => decide
          refine lv_goto (tgt := 49) hx hb dX7_goOn_122 ?o60 ?_
          case o60 => decide
          refine ih49 x_29 fw49_x_2 fw49_x_1 ia49_qrg ia49_qbe _ _ hL1 hl1 ?o61 ?o62 (i32_r _).1 (i32_r _).2 ?o63 ?o64 (hz_F4_n vi49_0 ?o65 (Or.inr (Or.inr (by unfold hz_mi; split <;> omega))) zx_29) ?o66 rr09 rr19 rr29 ls ?o67 hW hT hM ffw49_x_2 ffw49_x_1 nia49_qrg nia49_qbe (lv_sub hl [0, 2, 3, 4, 5] rfl)
          case o61 => omega
          case o62 => omega
          case o63 => omega
          case o64 => omega
          case o65 => omega
          case o66 => omega
          case o67 => omega
        · skip
          refine lv_iload hx hb dX7_goOn_79 (lv_at hl 0 rfl) ?_
          refine lv_aload_n hx hb dX7_goOn_81 rfl (lv_at hl 3 rfl) ?_
          refine hk_geti hx hb hts hC_7 hown hW (gx.S hM) tt_7 2 ?o68 rfl kw_313 ⟨rfl, rfl, rfl⟩ ffw49_x_2 dX7_goOn_82 ?_
          case o68 => decide
          refine hb_icmp_lt (zx := x_26.toInt) (zy := fw49_x_2.toInt) (tgt := 119) hx hb rfl rfl dX7_goOn_85 ?o69 (fun c_30 => ?_) (fun c_30 => ?_)
          case o69 => decide
          · skip
            obtain ⟨x_31, ex_31⟩ : ∃ y : Int32, y = iv49_4 + Int32.ofInt 1 := ⟨_, rfl⟩
            have zx_31 : x_31.toInt = iv49_4.toInt + (1) := ?o70
            case o70 =>
              rw [ex_31]
              refine i32_add rfl ?o71 ?o72 ?o73
              case o71 => decide
              case o72 => omega
              case o73 => omega
            refine lv_iinc (v := x_31) (lv' := [(4, .int x_31), (5, .int x_26), (3, .int x_3), (0, .ref x), (1, .int (3 : Int32)), (2, .int i2)]) hx hb dX7_goOn_119 hl (k := 1) rfl ex_31.symm ?o74 rfl (fun ls hl => ?_)
            case o74 => decide
            refine lv_goto (tgt := 49) hx hb dX7_goOn_122 ?o75 ?_
            case o75 => decide
            refine ih49 x_31 fw49_x_2 fw49_x_1 ia49_qrg ia49_qbe _ _ hL1 hl1 ?o76 ?o77 (i32_r _).1 (i32_r _).2 ?o78 ?o79 (hz_F4_p vi49_0 ?o80 ?o81 zx_31) ?o82 rr09 rr19 rr29 ls ?o83 hW hT hM ffw49_x_2 ffw49_x_1 nia49_qrg nia49_qbe (lv_sub hl [0, 2, 3, 4, 5] rfl)
            case o76 => omega
            case o77 => omega
            case o78 => omega
            case o79 => omega
            case o80 => omega
            case o81 => omega
            case o82 => omega
            case o83 => omega
          · skip
            refine lv_aload_n hx hb dX7_goOn_88 rfl (lv_at hl 3 rfl) ?_
            refine lv_iload hx hb dX7_goOn_89 (lv_at hl 1 rfl) ?_
            refine lv_iload_n hx hb dX7_goOn_91 rfl (lv_at hl 4 rfl) ?_
            refine hx_goi (hx_runV (As := [.int iv49_4, .int (3 : Int32)]) (rest := []) ⟨hx, hb, hml, hown, hts⟩ hW (gx.S hM) tt_7 (T := TX7) (N := 8) rfl (t_X7_isInRing_v l dC dI dA hL1 hl1 H.size x iv49_4 (3 : Int32) hT (gx.S hM) qrg (gqrg.S hM) ((hM.o gx trivial rfl).2.trans f_x_6) ia49_qrg nia49_qrg ?o84) (cwV 2 hts (hx_gV kw_1011 kw_1008 kw_1010 kw_38 kw_101) rfl rfl rfl (by decide +kernel) ⟨Nat.le_of_ble_eq_true rfl, Nat.le_of_ble_eq_true rfl⟩) rfl hl.1 rfl (Nat.le_of_ble_eq_true rfl) dX7_goOn_92 ⟨Nat.le_of_ble_eq_true rfl, Nat.le_of_ble_eq_true rfl⟩) hW (fun r_34 L_32 h_33 H locs p_35 hW => ?_)
            case o84 => decide
            obtain ⟨hr_36, hT, hs⟩ := p_35
            replace hT : hx_T T_tb L_32 h_33 := hT
            replace hs : hx_S T_tb [] hL1 hl1 L_32 h_33 := hs
            replace ffw49_x_2 := (hs.o (gx.S hM) trivial rfl).1.trans ffw49_x_2
            replace ffw49_x_1 := (hs.o (gx.S hM) trivial rfl).1.trans ffw49_x_1
            replace nia49_qrg : h_33.2.1 qrg = ia49_qrg := (funext fun j => (hs.a (gqrg.S hM) rfl j).1).trans nia49_qrg
            replace nia49_qbe : h_33.2.1 qbe = ia49_qbe := (funext fun j => (hs.a (gqbe.S hM) rfl j).1).trans nia49_qbe
            replace ex_26 := ex_26.trans (hs.a (gqow.S hM) rfl _).1.symm
            replace hM := hM.tr (hs.mono ?o85)
            case o85 => decide
            refine hb_if_ne (zx := r_34.toInt) (tgt := 119) hx hb rfl dX7_goOn_95 ?o86 (fun c_37 => ?_) (fun c_37 => ?_)
            case o86 => decide
            · skip
              obtain ⟨x_38, ex_38⟩ : ∃ y : Int32, y = iv49_4 + Int32.ofInt 1 := ⟨_, rfl⟩
              have zx_38 : x_38.toInt = iv49_4.toInt + (1) := ?o87
              case o87 =>
                rw [ex_38]
                refine i32_add rfl ?o88 ?o89 ?o90
                case o88 => decide
                case o89 => omega
                case o90 => omega
              refine lv_iinc (v := x_38) (lv' := [(4, .int x_38), (5, .int x_26), (3, .int x_3), (0, .ref x), (1, .int (3 : Int32)), (2, .int i2)]) hx hb dX7_goOn_119 hl (k := 1) rfl ex_38.symm ?o91 rfl (fun ls hl => ?_)
              case o91 => decide
              refine lv_goto (tgt := 49) hx hb dX7_goOn_122 ?o92 ?_
              case o92 => decide
              refine ih49 x_38 fw49_x_2 fw49_x_1 ia49_qrg ia49_qbe _ _ L_32 h_33 ?o93 ?o94 (i32_r _).1 (i32_r _).2 ?o95 ?o96 (hz_F4_n vi49_0 ?o97 (by rcases hr_36 with ⟨_, j9, hj9, ej9⟩ | z9; (have e9 := congrArg Int32.toInt ej9; rcases (show j9 = 0 ∨ j9 = 1 ∨ j9 = 2 by omega) with y9 | y9 | y9 <;> rw [y9] at e9 <;> omega); exfalso; omega) zx_38) ?o98 rr09 rr19 rr29 ls ?o99 hW hT hM ffw49_x_2 ffw49_x_1 nia49_qrg nia49_qbe (lv_sub hl [0, 2, 3, 4, 5] rfl)
              case o93 => omega
              case o94 => omega
              case o95 => omega
              case o96 => omega
              case o97 => omega
              case o98 => omega
              case o99 => omega
            · skip
              have hni9 : ¬ hx_isin ia49_qrg 3 iv49_4 := ?o100
              case o100 =>
                rcases hr_36 with z9 | z9
                (exfalso; omega)
                rw [zc_3] at z9
                exact z9.2
              have hne19 : iv49_4.toInt ≠ b := fun z9 => hni9 ⟨1, ?o101, Int32.toInt_inj.mp (by rw [rr19]; omega)⟩
              case o101 => decide
              have hne29 : iv49_4.toInt ≠ c9 := fun z9 => hni9 ⟨2, ?o102, Int32.toInt_inj.mp (by rw [rr29]; omega)⟩
              case o102 => decide
              refine lv_aload_n hx hb dX7_goOn_98 rfl (lv_at hl 3 rfl) ?_
              refine hk_getr hx hb hts hC_7 hown hW (gx.S hM) tt_7 6 ?o103 rfl kw_319 ⟨rfl, rfl, rfl⟩ ((hM.o gx trivial rfl).2.trans f_x_6) dX7_goOn_99 ?_
              case o103 => decide
              refine lv_iload_n hx hb dX7_goOn_102 rfl (lv_at hl 4 rfl) ?_
              refine lv_iload hx hb dX7_goOn_103 (lv_at hl 1 rfl) ?_
              have nia49_qrgO := nia49_qrg
              refine hx_iast hx hb hW hT (hx_S.rf (M := [(37, 0)])) (gqrg.S hM) tt_37 rfl ?o104 rfl ⟨?o105, ?o106⟩ (List.mem_singleton.mpr rfl) dX7_goOn_105 (fun H locs h_39 eh_39 hW hT hs => ?_)
              case o104 => decide
              case o105 => omega
              case o106 => omega
              replace ffw49_x_2 := (hs.o (gx.S hM) trivial rfl).1.trans ffw49_x_2
              replace ffw49_x_1 := (hs.o (gx.S hM) trivial rfl).1.trans ffw49_x_1
              replace nia49_qbe : h_39.2.1 qbe = ia49_qbe := (funext fun j => (hs.a (gqbe.S hM) rfl j).1).trans nia49_qbe
              replace ex_26 := ex_26.trans (hs.a (gqow.S hM) rfl _).1.symm
              replace hM := hM.tr (hs.mono ?o107)
              case o107 => decide
              obtain ⟨fa_40, dfa_40⟩ : ∃ g : Nat → Int32, g = hx_up ia49_qrg (3 : Int32).toNatClampNeg iv49_4 := ⟨_, rfl⟩
              have nfa_40 : h_39.2.1 qrg = fa_40 := ?o108
              case o108 =>
                rw [eh_39, dfa_40, ← nia49_qrgO]
                exact hx_pi_fun _ _ _ _
              have rs09 : (fa_40 0).toInt = a := ?o109
              case o109 =>
                rw [dfa_40, hx_up_ne (show 0 ≠ (3 : Int32).toNatClampNeg by decide)]
                exact rr09
              have rs19 : (fa_40 1).toInt = b := ?o110
              case o110 =>
                rw [dfa_40, hx_up_ne (show 1 ≠ (3 : Int32).toNatClampNeg by decide)]
                exact rr19
              have rs29 : (fa_40 2).toInt = c9 := ?o111
              case o111 =>
                rw [dfa_40, hx_up_ne (show 2 ≠ (3 : Int32).toNatClampNeg by decide)]
                exact rr29
              have rs39 : (fa_40 3).toInt = iv49_4.toInt := ?o112
              case o112 => rw [dfa_40, show (3 : Int32).toNatClampNeg = 3 from by decide, hx_up_at]
              refine lv_aload_n hx hb dX7_goOn_106 rfl (lv_at hl 3 rfl) ?_
              refine lv_iload_n hx hb dX7_goOn_107 rfl (lv_at hl 4 rfl) ?_
              refine lv_iconst (v := 1) hx hb dX7_goOn_108 ?o113 ?_
              case o113 => decide
              refine lv_iadd hx hb dX7_goOn_109 ?_
              refine lv_topi (fun x_41 ex_41 => ?_)
              obtain rfl : x_41 = (4 : Int32) := ex_41.trans (by decide)
              refine lv_iload_n hx hb dX7_goOn_110 rfl (lv_at hl 5 rfl) ?_
              refine lv_iload hx hb dX7_goOn_111 (lv_at hl 0 rfl) ?_
              refine va_mmin hx hb (hml.trans hl.1.symm) hown (hts _ kw_1002) (hts _ kw_917) (hts _ kw_109) (hts _ kw_918) (Nat.le_of_ble_eq_true rfl) (Nat.le_of_ble_eq_true rfl) (Nat.le_of_ble_eq_true rfl) (Nat.le_of_ble_eq_true rfl) dX7_goOn_113 ?_
              refine lv_topi (fun x_42 ex_42 => ?_)
              have hmn9 := hz_mi_e ex_42; rw [hv_27] at hmn9
              have hmk9 := hz_mi_l (a := i2.toInt) (b := V (40 * c9 + iv49_4.toInt)); have hmj9 := hz_mi_c (a := i2.toInt) (b := V (40 * c9 + iv49_4.toInt))
              have zc_4 : (4 : Int32).toInt = 4 := ?o114
              case o114 => decide
              refine hx_gov (hx_runV (As := [.int (4 : Int32), .int x_42]) (rest := []) ⟨hx, hb, hml, hown, hts⟩ hW (gx.S hM) tt_7 (T := TX7) (N := 8) rfl (t_X7_goOn_4v l dC dI dA L_32 h_39 H.size x x_42 hT (gx.S hM) qow (gqow.S hM) ((hM.o gx trivial rfl).2.trans f_x_5) qrg (gqrg.S hM) ((hM.o gx trivial rfl).2.trans f_x_6) qbe (gqbe.S hM) ((hM.o gx trivial rfl).2.trans f_x_7) owf (hx_afS hM gqow rfl af_qow) fa_40 nfa_40 ia49_qbe nia49_qbe fw49_x_2 ffw49_x_2 fw49_x_1 ffw49_x_1 sz0 ((hM.o gx trivial rfl).1.trans f_x_4) a b c9 iv49_4.toInt rs09 hq0 rs19 hq1 rs29 hq2 rs39 ⟨?o115, ?o116⟩ V hV hVb ?o117 _ vi49_0) (cwV 2 hts (hx_gV kw_1001 kw_998 kw_1000 kw_36 kw_101) rfl rfl rfl (by decide +kernel) ⟨Nat.le_of_ble_eq_true rfl, Nat.le_of_ble_eq_true rfl⟩) rfl hl.1 rfl (Nat.le_of_ble_eq_true rfl) dX7_goOn_116 ⟨Nat.le_of_ble_eq_true rfl, Nat.le_of_ble_eq_true rfl⟩) hW (fun L_43 h_44 H locs p_46 hW => ?_)
              case o115 => omega
              case o116 => omega
              case o117 => omega
              obtain ⟨⟨w_48, w_49, w_50, fw_48, fw_49, fw_50, hr_47⟩, hT, hs⟩ := p_46
              replace hT : hx_T T_tb L_43 h_44 := hT
              replace hs : hx_S T_tb [(7, 1), (7, 2), (38, 0)] L_32 h_39 L_43 h_44 := hs
              replace nfa_40 : h_44.2.1 qrg = fa_40 := (funext fun j => (hs.a (gqrg.S hM) rfl j).1).trans nfa_40
              replace ex_26 := ex_26.trans (hs.a (gqow.S hM) rfl _).1.symm
              replace hM := hM.tr (hs.mono ?o118)
              case o118 => decide
              have fw_48 : h_44.2.1 x 2 = w_48 := fw_48
              have bw_48 := hT.gi (gx.S hM) tt_7 (k := 2) rfl
              rw [fw_48] at bw_48
              have bw_48 : -2147483648 ≤ w_48.toInt ∧ w_48.toInt ≤ 2147483647 := bw_48
              have fw_49 : h_44.2.1 x 1 = w_49 := fw_49
              have bw_49 := hT.gi (gx.S hM) tt_7 (k := 1) rfl
              rw [fw_49] at bw_49
              have bw_49 : 0 ≤ w_49.toInt ∧ w_49.toInt ≤ 4 := bw_49
              have fw_50 : h_44.2.1 qbe = w_50 := fw_50
              have rt09 := rs09
              have rt19 := rs19
              have rt29 := rs29
              obtain ⟨x_51, ex_51⟩ : ∃ y : Int32, y = iv49_4 + Int32.ofInt 1 := ⟨_, rfl⟩
              have zx_51 : x_51.toInt = iv49_4.toInt + (1) := ?o119
              case o119 =>
                rw [ex_51]
                refine i32_add rfl ?o120 ?o121 ?o122
                case o120 => decide
                case o121 => omega
                case o122 => omega
              refine lv_iinc (v := x_51) (lv' := [(4, .int x_51), (5, .int x_26), (3, .int x_3), (0, .ref x), (1, .int (3 : Int32)), (2, .int i2)]) hx hb dX7_goOn_119 hl (k := 1) rfl ex_51.symm ?o123 rfl (fun ls hl => ?_)
              case o123 => decide
              refine lv_goto (tgt := 49) hx hb dX7_goOn_122 ?o124 ?_
              case o124 => decide
              refine ih49 x_51 w_48 w_49 fa_40 w_50 _ _ L_43 h_44 ?o125 ?o126 (i32_r _).1 (i32_r _).2 ?o127 ?o128 (hz_F4_y (by have h9 := hr_47; rw [hmn9] at h9; exact h9) ?o129 (fun z9 => by rcases z9 with z9 | z9 | z9; exact hne19 z9; exact hne29 z9; omega) zx_51) ?o130 rt09 rt19 rt29 ls ?o131 hW hT hM fw_48 fw_49 nfa_40 fw_50 (lv_sub hl [0, 2, 3, 4, 5] rfl)
              case o125 => omega
              case o126 => omega
              case o127 => omega
              case o128 => omega
              case o129 => omega
              case o130 => omega
              case o131 => omega
  refine loop49 41 x_21 w_17 w_18 rgf w_19 _ _ L_12 h_13 ?o132 ?o133 (i32_r _).1 (i32_r _).2 ?o134 ?o135 (by have h9 := hS9; rw [show (x_21.toInt - a - 1).toNat = 0 by omega]; exact h9) ?o136 hr0 hr1 hr2 ls ?o137 hW hT hM fw_17 fw_18 af_qrg fw_19 hl
  case o132 => omega
  case o133 => omega
  case o134 => omega
  case o135 => omega
  case o136 => omega
  case o137 => omega


set_option maxHeartbeats 4000000 in
set_option maxRecDepth 100000 in
theorem t_X7_goOn_2v (l : Launch) (dC : Nat → ClassId) (dI : Nat → Nat → Nat) (dA : Nat → ClassId) (L : List Nat) (h : hx_h) (sz : Nat) (x : Nat) (i2 : Int32) (hT : hx_T T_tb L h) (gx : hx_g L h x 7) (qow : Nat) (gqow : hx_g L h qow 36) (f_x_5 : h.2.2 x 5 = some qow) (qrg : Nat) (gqrg : hx_g L h qrg 37) (f_x_6 : h.2.2 x 6 = some qrg) (qbe : Nat) (gqbe : hx_g L h qbe 38) (f_x_7 : h.2.2 x 7 = some qbe) (owf : Nat → Int32) (af_qow : h.2.1 qow = owf) (rgf : Nat → Int32) (af_qrg : h.2.1 qrg = rgf) (bef : Nat → Int32) (af_qbe : h.2.1 qbe = bef) (bl0 : Int32) (f_x_2 : h.2.1 x 2 = bl0) (bs0 : Int32) (f_x_1 : h.2.1 x 1 = bs0) (sz0 : Int32) (f_x_4 : h.2.1 x 4 = sz0) (a b : Int) (hr0 : (rgf 0).toInt = a) (hq0 : 0 ≤ a ∧ a ≤ 39) (hr1 : (rgf 1).toInt = b) (hq1 : 0 ≤ b ∧ b ≤ 39) (V : Int → Int) (hV : ∀ x : Nat, x < 1600 → (owf x).toInt = V (x : Int)) (hVb : ∀ x : Int, 0 ≤ V x ∧ V x ≤ 61000000) (hi2 : 0 < i2.toInt) (o : Int × Int × (Nat → Int)) (hSR : hz_SR o bl0.toInt bs0.toInt bef) : Met l yX7_goOn (Cond.code yX7_goOn cX7_goOn 6 none :: hx_all) ({ frames := 4, cells := 0, slots := 0, locals := 112 }) (va_Pc [.ref x, .int (2 : Int32), .int i2] (hx_B T_tb (P_ty dA) (dC, dI) vwCl L h sz)) (va_Qv (fun (u : List Nat × hx_h) => (∃ (bl1 : Int32) (bs1 : Int32) (bef1 : Nat → Int32) (rgf1 : Nat → Int32), u.2.2.1 x 2 = bl1 ∧ u.2.2.1 x 1 = bs1 ∧ u.2.2.1 qbe = bef1 ∧ u.2.2.1 qrg = rgf1 ∧ (hz_SR (hz_F3 V sz0.toInt a b i2.toInt (hz_of 2 (hz_mi i2.toInt (V (40 * b + a))) (hz_g a b 0 0) o) (sz0.toInt - a - 1).toNat) bl1.toInt bs1.toInt bef1 ∧ ∀ j : Nat, j < 2 → rgf1 j = rgf j)) ∧ hx_T T_tb u.1 u.2 ∧ hx_S T_tb [(7, 1), (7, 2), (37, 0), (38, 0)] L h u.1 u.2) (hx_E T_tb (P_ty dA) (dC, dI) vwCl (hx_A L sz)) (hx_A L sz)) 0 0 (hx_A L sz) := by
  refine hx_met (lv := [(0, .ref x), (1, .int (2 : Int32)), (2, .int i2)]) (by decide +kernel) rfl (Nat.le_of_ble_eq_true rfl) rfl ?_
  intro p e s m below meth c hx hb hml hr hlk hts0 hown hin hsz hW ls hl
  have hts : ∀ w ∈ hx_all, w.before _ s = true := fun w hw => hts0 w (List.mem_cons_of_mem _ hw)
  have hown : s.vm.findClass "SmallCourt$Rings" = some m.cls := hown
  have hM : hx_S T_tb [(7, 1), (7, 2), (37, 0), (38, 0)] L h L h := hx_S.rf
  have b_bl0 := hT.gi gx tt_7 (k := 2) rfl
  rw [f_x_2] at b_bl0
  have b_bl0 : -2147483648 ≤ bl0.toInt ∧ bl0.toInt ≤ 2147483647 := b_bl0
  have b_bs0 := hT.gi gx tt_7 (k := 1) rfl
  rw [f_x_1] at b_bs0
  have b_bs0 : 0 ≤ bs0.toInt ∧ bs0.toInt ≤ 4 := b_bs0
  have b_sz0 := hT.gi gx tt_7 (k := 4) rfl
  rw [f_x_4] at b_sz0
  have b_sz0 : 0 ≤ sz0.toInt ∧ sz0.toInt ≤ 40 := b_sz0
  refine lv_aload_n hx hb dX7_goOn_0 rfl (lv_at hl 0 rfl) ?_
  refine hk_getr hx hb hts hC_7 hown hW (gx.S hM) tt_7 6 ?o0 rfl kw_319 ⟨rfl, rfl, rfl⟩ ((hM.o gx trivial rfl).2.trans f_x_6) dX7_goOn_1 ?_
  case o0 => decide
  refine lv_iload_n hx hb dX7_goOn_4 rfl (lv_at hl 1 rfl) ?_
  refine lv_iconst (v := 1) hx hb dX7_goOn_5 ?o1 ?_
  case o1 => decide
  refine lv_isub hx hb dX7_goOn_6 ?_
  refine lv_topi (fun x_1 ex_1 => ?_)
  obtain rfl : x_1 = (1 : Int32) := ex_1.trans (by decide)
  refine hx_iald hx hb hW hT (gqrg.S hM) tt_37 rfl ?o2 dX7_goOn_7 (fun x_2 ex_2 lx_2 ux_2 => ?_)
  case o2 => decide
  have ax_2 : x_2 = rgf (1 : Int32).toNatClampNeg := ex_2.trans (congrFun af_qrg _)
  have hla9 : x_2.toInt = b := ?o3
  case o3 =>
    rw [ax_2, show (1 : Int32).toNatClampNeg = 1 from by decide]
    exact hr1
  refine lv_bipush (v := 40) hx hb dX7_goOn_8 ?o4 ?_
  case o4 => decide
  refine lv_imul hx hb dX7_goOn_10 ?_
  refine lv_topi (fun x_3 ex_3 => ?_)
  have zx_3 : x_3.toInt = x_2.toInt * 40 := ?o5
  case o5 =>
    rw [ex_3]
    refine i32_mul rfl ?o6 rfl ?o7 ?o8
    case o6 => decide
    case o7 => omega
    case o8 => omega
  refine lv_istore_n (lv' := [(3, .int x_3), (0, .ref x), (1, .int (2 : Int32)), (2, .int i2)]) hx hb dX7_goOn_11 rfl hl ?o9 rfl (fun ls hl => ?_)
  case o9 => decide
  refine lv_iload_n hx hb dX7_goOn_12 rfl (lv_at hl 2 rfl) ?_
  refine lv_iconst (v := 1) hx hb dX7_goOn_13 ?o10 ?_
  case o10 => decide
  refine hb_icmp_le (zx := 2) (zy := 1) (tgt := 39) hx hb ?o11 ?o12 dX7_goOn_14 ?o13 (fun c_4 => ?o14) (fun c_4 => ?_)
  case o11 => decide
  case o12 => decide
  case o13 => decide
  case o14 =>
    exfalso
    omega
  refine lv_aload_n hx hb dX7_goOn_17 rfl (lv_at hl 1 rfl) ?_
  refine lv_iload_n hx hb dX7_goOn_18 rfl (lv_at hl 2 rfl) ?_
  refine lv_iload_n hx hb dX7_goOn_19 rfl (lv_at hl 3 rfl) ?_
  refine lv_aload_n hx hb dX7_goOn_20 rfl (lv_at hl 1 rfl) ?_
  refine hk_getr hx hb hts hC_7 hown hW (gx.S hM) tt_7 5 ?o15 rfl kw_318 ⟨rfl, rfl, rfl⟩ ((hM.o gx trivial rfl).2.trans f_x_5) dX7_goOn_21 ?_
  case o15 => decide
  refine lv_iload_n hx hb dX7_goOn_24 rfl (lv_at hl 0 rfl) ?_
  refine lv_aload_n hx hb dX7_goOn_25 rfl (lv_at hl 1 rfl) ?_
  refine hk_getr hx hb hts hC_7 hown hW (gx.S hM) tt_7 6 ?o16 rfl kw_319 ⟨rfl, rfl, rfl⟩ ((hM.o gx trivial rfl).2.trans f_x_6) dX7_goOn_26 ?_
  case o16 => decide
  refine lv_iconst (v := 0) hx hb dX7_goOn_29 ?o17 ?_
  case o17 => decide
  refine hx_iald hx hb hW hT (gqrg.S hM) tt_37 rfl ?o18 dX7_goOn_30 (fun x_5 ex_5 lx_5 ux_5 => ?_)
  case o18 => decide
  have ax_5 : x_5 = rgf (0 : Int32).toNatClampNeg := ex_5.trans (congrFun af_qrg _)
  have hfi31 : x_5.toInt = a := ?o19
  case o19 =>
    rw [ax_5, show (0 : Int32).toNatClampNeg = 0 from by decide]
    exact hr0
  refine lv_iadd hx hb dX7_goOn_31 ?_
  have rg_6 := i32_r x_3
  have rg_7 := i32_r x_5
  refine lv_topi (fun x_8 ex_8 => ?_)
  have zx_8 : x_8.toInt = x_3.toInt + x_5.toInt := ?o20
  case o20 =>
    rw [ex_8]
    refine i32_add rfl rfl ?o21 ?o22
    case o21 => omega
    case o22 => omega
  refine hx_iald hx hb hW hT (gqow.S hM) tt_36 rfl ⟨?o23, ?o24⟩ dX7_goOn_32 (fun x_9 ex_9 lx_9 ux_9 => ?_)
  case o23 => omega
  case o24 => omega
  have ax_9 : x_9 = owf x_8.toNatClampNeg := ex_9.trans (congrFun (hx_afS hM gqow rfl af_qow) _)
  have hv_10 : x_9.toInt = V (40 * b + a) := ?o25
  case o25 =>
    have h9 := hV x_8.toNatClampNeg (by unfold Int32.toNatClampNeg; omega)
    rw [← ax_9, show ((x_8.toNatClampNeg : Nat) : Int) = 40 * b + a by unfold Int32.toNatClampNeg; omega] at h9
    exact h9
  have hv_10b := hVb (40 * b + a); rw [← hv_10] at hv_10b
  refine va_mmin hx hb (hml.trans hl.1.symm) hown (hts _ kw_1002) (hts _ kw_917) (hts _ kw_109) (hts _ kw_918) (Nat.le_of_ble_eq_true rfl) (Nat.le_of_ble_eq_true rfl) (Nat.le_of_ble_eq_true rfl) (Nat.le_of_ble_eq_true rfl) dX7_goOn_33 ?_
  refine lv_topi (fun x_11 ex_11 => ?_)
  have hmi9 := hz_mi_e ex_11; rw [hv_10] at hmi9
  have hmb9 := hz_mi_l (a := i2.toInt) (b := V (40 * b + a)); have hmc9 := hz_mi_c (a := i2.toInt) (b := V (40 * b + a))
  have zc_2 : (2 : Int32).toInt = 2 := ?o26
  case o26 => decide
  refine hx_gov (hx_runV (As := [.int (2 : Int32), .int x_11]) (rest := []) ⟨hx, hb, hml, hown, hts⟩ hW (gx.S hM) tt_7 (T := TX7) (N := 8) rfl (t_X7_keepIfBetter_v l dC dI dA L h s.heap.size x (2 : Int32) x_11 hT (gx.S hM) qrg (gqrg.S hM) ((hM.o gx trivial rfl).2.trans f_x_6) qbe (gqbe.S hM) ((hM.o gx trivial rfl).2.trans f_x_7) rgf af_qrg bef af_qbe bl0 f_x_2 bs0 f_x_1 (by decide) (by omega) (hz_g a b 0 0) (fun i hi => by rcases (show i = 0 ∨ i = 1 by omega) with z9 | z9 <;> subst z9 <;> first | exact hr0 | exact hr1) o hSR) (cwV 2 hts (hx_gV kw_1006 kw_1003 kw_1005 kw_37 kw_101) rfl rfl rfl (by decide +kernel) ⟨Nat.le_of_ble_eq_true rfl, Nat.le_of_ble_eq_true rfl⟩) rfl hl.1 rfl (Nat.le_of_ble_eq_true rfl) dX7_goOn_36 ⟨Nat.le_of_ble_eq_true rfl, Nat.le_of_ble_eq_true rfl⟩) hW (fun L_12 h_13 H locs p_15 hW => ?_)
  obtain ⟨⟨w_17, w_18, w_19, fw_17, fw_18, fw_19, hr_16⟩, hT, hs⟩ := p_15
  replace hT : hx_T T_tb L_12 h_13 := hT
  replace hs : hx_S T_tb [(7, 1), (7, 2), (38, 0)] L h L_12 h_13 := hs
  replace af_qrg : h_13.2.1 qrg = rgf := (funext fun j => (hs.a (gqrg.S hM) rfl j).1).trans af_qrg
  replace ex_2 := ex_2.trans (hs.a (gqrg.S hM) rfl _).1.symm
  replace ex_5 := ex_5.trans (hs.a (gqrg.S hM) rfl _).1.symm
  replace ex_9 := ex_9.trans (hs.a (gqow.S hM) rfl _).1.symm
  replace hM := hM.tr (hs.mono ?o27)
  case o27 => decide
  have fw_17 : h_13.2.1 x 2 = w_17 := fw_17
  have bw_17 := hT.gi (gx.S hM) tt_7 (k := 2) rfl
  rw [fw_17] at bw_17
  have bw_17 : -2147483648 ≤ w_17.toInt ∧ w_17.toInt ≤ 2147483647 := bw_17
  have fw_18 : h_13.2.1 x 1 = w_18 := fw_18
  have bw_18 := hT.gi (gx.S hM) tt_7 (k := 1) rfl
  rw [fw_18] at bw_18
  have bw_18 : 0 ≤ w_18.toInt ∧ w_18.toInt ≤ 4 := bw_18
  have fw_19 : h_13.2.1 qbe = w_19 := fw_19
  have hS9 : hz_SR (hz_of 2 (hz_mi i2.toInt (V (40 * b + a))) (hz_g a b 0 0) o) w_17.toInt w_18.toInt w_19 := ?o28
  case o28 =>
    have h9 := hr_16
    rw [hmi9, zc_2] at h9
    exact h9
  refine lv_aload_n hx hb dX7_goOn_39 rfl (lv_at hl 1 rfl) ?_
  refine hk_getr hx hb hts hC_7 hown hW (gx.S hM) tt_7 6 ?o29 rfl kw_319 ⟨rfl, rfl, rfl⟩ ((hM.o gx trivial rfl).2.trans f_x_6) dX7_goOn_40 ?_
  case o29 => decide
  refine lv_iconst (v := 0) hx hb dX7_goOn_43 ?o30 ?_
  case o30 => decide
  refine hx_iald hx hb hW hT (gqrg.S hM) tt_37 rfl ?o31 dX7_goOn_44 (fun x_20 ex_20 lx_20 ux_20 => ?_)
  case o31 => decide
  have ax_20 : x_20 = rgf (0 : Int32).toNatClampNeg := ex_20.trans (congrFun af_qrg _)
  obtain rfl : x_5 = x_20 := ex_5.trans ex_20.symm
  have hf46 : x_5.toInt = a := ?o32
  case o32 =>
    rw [ax_5, show (0 : Int32).toNatClampNeg = 0 from by decide]
    exact hr0
  refine lv_iconst (v := 1) hx hb dX7_goOn_45 ?o33 ?_
  case o33 => decide
  refine lv_iadd hx hb dX7_goOn_46 ?_
  refine lv_topi (fun x_21 ex_21 => ?_)
  have zx_21 : x_21.toInt = x_5.toInt + 1 := ?o34
  case o34 =>
    rw [ex_21]
    refine i32_add rfl ?o35 ?o36 ?o37
    case o35 => decide
    case o36 => omega
    case o37 => omega
  refine lv_istore (lv' := [(4, .int x_21), (3, .int x_3), (0, .ref x), (1, .int (2 : Int32)), (2, .int i2)]) hx hb dX7_goOn_47 hl ?o38 rfl (fun ls hl => ?_)
  case o38 => decide
  have loop49 : ∀ (n49 : Nat) (iv49_4 fw49_x_2 fw49_x_1 : Int32) (ia49_qrg ia49_qbe : Nat → Int32) (H : Heap) (locs : List Loc) (hL1 : List Nat) (hl1 : hx_h), 1 ≤ iv49_4.toInt → iv49_4.toInt ≤ 40 → -2147483648 ≤ fw49_x_2.toInt → fw49_x_2.toInt ≤ 2147483647 → 0 ≤ fw49_x_1.toInt → fw49_x_1.toInt ≤ 4 → (hz_SR (hz_F3 V sz0.toInt a b i2.toInt (hz_of 2 (hz_mi i2.toInt (V (40 * b + a))) (hz_g a b 0 0) o) (iv49_4.toInt - a - 1).toNat) fw49_x_2.toInt fw49_x_1.toInt ia49_qbe) → (a + 1 ≤ iv49_4.toInt ∧ (iv49_4.toInt ≤ sz0.toInt ∨ iv49_4.toInt = a + 1)) → ((ia49_qrg 0).toInt = a) → ((ia49_qrg 1).toInt = b) → ∀ (ls : Array Slot), 40 - iv49_4.toInt < (n49 : Int) → hx_W T_tb (P_ty dA) (dC, dI) vwCl (hx_A L sz) s.heap hL1 hl1 s H locs → hx_T T_tb hL1 hl1 → hx_S T_tb [(7, 1), (7, 2), (37, 0), (38, 0)] L h hL1 hl1 → hl1.2.1 x 2 = fw49_x_2 → hl1.2.1 x 1 = fw49_x_1 → hl1.2.1 qrg = ia49_qrg → hl1.2.1 qbe = ia49_qbe → lv_has ls 6 [(4, .int iv49_4), (3, .int x_3), (0, .ref x), (1, .int (2 : Int32)), (2, .int i2)] → W p l e ({ frames := 4, cells := 0, slots := 0, locals := 112 }) s m ([.ref x, .int (2 : Int32), .int i2] : List Value).toArray below meth c H locs 0 0 (MQ below (va_Qv (fun (u : List Nat × hx_h) => (∃ (bl1 : Int32) (bs1 : Int32) (bef1 : Nat → Int32) (rgf1 : Nat → Int32), u.2.2.1 x 2 = bl1 ∧ u.2.2.1 x 1 = bs1 ∧ u.2.2.1 qbe = bef1 ∧ u.2.2.1 qrg = rgf1 ∧ (hz_SR (hz_F3 V sz0.toInt a b i2.toInt (hz_of 2 (hz_mi i2.toInt (V (40 * b + a))) (hz_g a b 0 0) o) (sz0.toInt - a - 1).toNat) bl1.toInt bs1.toInt bef1 ∧ ∀ j : Nat, j < 2 → rgf1 j = rgf j)) ∧ hx_T T_tb u.1 u.2 ∧ hx_S T_tb [(7, 1), (7, 2), (37, 0), (38, 0)] L h u.1 u.2) (hx_E T_tb (P_ty dA) (dC, dI) vwCl (hx_A L sz)) (hx_A L sz)) ([.ref x, .int (2 : Int32), .int i2] : List Value).toArray s 0 0 (hx_A L sz)) (F0 m 49 ls []) := by
    intro n49
    induction n49 with
    | zero => intro iv49_4 fw49_x_2 fw49_x_1 ia49_qrg ia49_qbe H locs hL1 hl1 bliv49_4 buiv49_4 blfw49_x_2 bufw49_x_2 blfw49_x_1 bufw49_x_1 vi49_0 vi49_1 vi49_2 vi49_3 ls hn49; exfalso; omega
    | succ n49 ih49 =>
      intro iv49_4 fw49_x_2 fw49_x_1 ia49_qrg ia49_qbe H locs hL1 hl1 bliv49_4 buiv49_4 blfw49_x_2 bufw49_x_2 blfw49_x_1 bufw49_x_1 vi49_0 vi49_1 vi49_2 vi49_3 ls hn49 hW hT hM ffw49_x_2 ffw49_x_1 nia49_qrg nia49_qbe hl
      have rr09 := vi49_2
      have rr19 := vi49_3
      refine lv_iload hx hb dX7_goOn_49 (lv_at hl 0 rfl) ?_
      refine lv_aload_n hx hb dX7_goOn_51 rfl (lv_at hl 2 rfl) ?_
      refine hk_geti hx hb hts hC_7 hown hW (gx.S hM) tt_7 4 ?o39 rfl kw_317 ⟨rfl, rfl, rfl⟩ ((hM.o gx trivial rfl).1.trans f_x_4) dX7_goOn_52 ?_
      case o39 => decide
      refine hb_icmp_ge (zx := iv49_4.toInt) (zy := sz0.toInt) (tgt := 125) hx hb rfl rfl dX7_goOn_55 ?o40 (fun c_22 => ?_) (fun c_22 => ?_)
      case o40 => decide
      · skip
        exact hx_retv hx hb hr hlk hW ⟨⟨fw49_x_2, fw49_x_1, ia49_qbe, ia49_qrg, ffw49_x_2, ffw49_x_1, nia49_qbe, nia49_qrg, ⟨(by have h9 := vi49_0; rw [show (iv49_4.toInt - a - 1).toNat = (sz0.toInt - a - 1).toNat by omega] at h9; exact h9), (fun j hj => Int32.toInt_inj.mp (by rcases (show j = 0 ∨ j = 1 by omega) with z9 | z9 <;> rw [z9] <;> omega))⟩⟩, hT, hM⟩ dX7_goOn_125
      · skip
        refine lv_iload_n hx hb dX7_goOn_58 rfl (lv_at hl 3 rfl) ?_
        refine lv_iconst (v := 4) hx hb dX7_goOn_59 ?o41 ?_
        case o41 => decide
        refine hb_icmp_ge (zx := 2) (zy := 4) (tgt := 125) hx hb ?o42 ?o43 dX7_goOn_60 ?o44 (fun c_23 => ?o45) (fun c_23 => ?_)
        case o42 => decide
        case o43 => decide
        case o44 => decide
        case o45 =>
          exfalso
          omega
        refine lv_aload_n hx hb dX7_goOn_63 rfl (lv_at hl 2 rfl) ?_
        refine hk_getr hx hb hts hC_7 hown hW (gx.S hM) tt_7 5 ?o46 rfl kw_318 ⟨rfl, rfl, rfl⟩ ((hM.o gx trivial rfl).2.trans f_x_5) dX7_goOn_64 ?_
        case o46 => decide
        refine lv_iload_n hx hb dX7_goOn_67 rfl (lv_at hl 1 rfl) ?_
        refine lv_iload hx hb dX7_goOn_68 (lv_at hl 0 rfl) ?_
        refine lv_iadd hx hb dX7_goOn_70 ?_
        have rg_24 := i32_r iv49_4
        refine lv_topi (fun x_25 ex_25 => ?_)
        have zx_25 : x_25.toInt = x_3.toInt + iv49_4.toInt := ?o47
        case o47 =>
          rw [ex_25]
          refine i32_add rfl rfl ?o48 ?o49
          case o48 => omega
          case o49 => omega
        refine hx_iald hx hb hW hT (gqow.S hM) tt_36 rfl ⟨?o50, ?o51⟩ dX7_goOn_71 (fun x_26 ex_26 lx_26 ux_26 => ?_)
        case o50 => omega
        case o51 => omega
        have ax_26 : x_26 = owf x_25.toNatClampNeg := ex_26.trans (congrFun (hx_afS hM gqow rfl af_qow) _)
        have hv_27 : x_26.toInt = V (40 * b + iv49_4.toInt) := ?o52
        case o52 =>
          have h9 := hV x_25.toNatClampNeg (by unfold Int32.toNatClampNeg; omega)
          rw [← ax_26, show ((x_25.toNatClampNeg : Nat) : Int) = 40 * b + iv49_4.toInt by unfold Int32.toNatClampNeg; omega] at h9
          exact h9
        have hv_27b := hVb (40 * b + iv49_4.toInt); rw [← hv_27] at hv_27b
        refine lv_istore (lv' := [(5, .int x_26), (4, .int iv49_4), (3, .int x_3), (0, .ref x), (1, .int (2 : Int32)), (2, .int i2)]) hx hb dX7_goOn_72 hl ?o53 rfl (fun ls hl => ?_)
        case o53 => decide
        refine lv_iload hx hb dX7_goOn_74 (lv_at hl 0 rfl) ?_
        refine hb_if_le (zx := x_26.toInt) (tgt := 119) hx hb rfl dX7_goOn_76 ?o54 (fun c_28 => ?_) (fun c_28 => ?_)
        case o54 => decide
        · skip
          obtain ⟨x_29, ex_29⟩ : ∃ y : Int32, y = iv49_4 + Int32.ofInt 1 := ⟨_, rfl⟩
          have zx_29 : x_29.toInt = iv49_4.toInt + (1) := ?o55
          case o55 =>
            rw [ex_29]
            refine i32_add rfl ?o56 ?o57 ?o58
            case o56 => decide
            case o57 => omega
            case o58 => omega
          refine lv_iinc (v := x_29) (lv' := [(4, .int x_29), (5, .int x_26), (3, .int x_3), (0, .ref x), (1, .int (2 : Int32)), (2, .int i2)]) hx hb dX7_goOn_119 hl (k := 1) rfl ex_29.symm ?o59 rfl (fun ls hl => ?_)
          case o59 => decide
          refine lv_goto (tgt := 49) hx hb dX7_goOn_122 ?o60 ?_
          case o60 => decide
          refine ih49 x_29 fw49_x_2 fw49_x_1 ia49_qrg ia49_qbe _ _ hL1 hl1 ?o61 ?o62 (i32_r _).1 (i32_r _).2 ?o63 ?o64 (hz_F3_n vi49_0 ?o65 (Or.inr (by unfold hz_mi; split <;> omega)) zx_29) ?o66 rr09 rr19 ls ?o67 hW hT hM ffw49_x_2 ffw49_x_1 nia49_qrg nia49_qbe (lv_sub hl [0, 2, 3, 4, 5] rfl)
          case o61 => omega
          case o62 => omega
          case o63 => omega
          case o64 => omega
          case o65 => omega
          case o66 => omega
          case o67 => omega
        · skip
          refine lv_iload hx hb dX7_goOn_79 (lv_at hl 0 rfl) ?_
          refine lv_aload_n hx hb dX7_goOn_81 rfl (lv_at hl 3 rfl) ?_
          refine hk_geti hx hb hts hC_7 hown hW (gx.S hM) tt_7 2 ?o68 rfl kw_313 ⟨rfl, rfl, rfl⟩ ffw49_x_2 dX7_goOn_82 ?_
          case o68 => decide
          refine hb_icmp_lt (zx := x_26.toInt) (zy := fw49_x_2.toInt) (tgt := 119) hx hb rfl rfl dX7_goOn_85 ?o69 (fun c_30 => ?_) (fun c_30 => ?_)
          case o69 => decide
          · skip
            obtain ⟨x_31, ex_31⟩ : ∃ y : Int32, y = iv49_4 + Int32.ofInt 1 := ⟨_, rfl⟩
            have zx_31 : x_31.toInt = iv49_4.toInt + (1) := ?o70
            case o70 =>
              rw [ex_31]
              refine i32_add rfl ?o71 ?o72 ?o73
              case o71 => decide
              case o72 => omega
              case o73 => omega
            refine lv_iinc (v := x_31) (lv' := [(4, .int x_31), (5, .int x_26), (3, .int x_3), (0, .ref x), (1, .int (2 : Int32)), (2, .int i2)]) hx hb dX7_goOn_119 hl (k := 1) rfl ex_31.symm ?o74 rfl (fun ls hl => ?_)
            case o74 => decide
            refine lv_goto (tgt := 49) hx hb dX7_goOn_122 ?o75 ?_
            case o75 => decide
            refine ih49 x_31 fw49_x_2 fw49_x_1 ia49_qrg ia49_qbe _ _ hL1 hl1 ?o76 ?o77 (i32_r _).1 (i32_r _).2 ?o78 ?o79 (hz_F3_p vi49_0 ?o80 ?o81 zx_31) ?o82 rr09 rr19 ls ?o83 hW hT hM ffw49_x_2 ffw49_x_1 nia49_qrg nia49_qbe (lv_sub hl [0, 2, 3, 4, 5] rfl)
            case o76 => omega
            case o77 => omega
            case o78 => omega
            case o79 => omega
            case o80 => omega
            case o81 => omega
            case o82 => omega
            case o83 => omega
          · skip
            refine lv_aload_n hx hb dX7_goOn_88 rfl (lv_at hl 3 rfl) ?_
            refine lv_iload hx hb dX7_goOn_89 (lv_at hl 1 rfl) ?_
            refine lv_iload_n hx hb dX7_goOn_91 rfl (lv_at hl 4 rfl) ?_
            refine hx_goi (hx_runV (As := [.int iv49_4, .int (2 : Int32)]) (rest := []) ⟨hx, hb, hml, hown, hts⟩ hW (gx.S hM) tt_7 (T := TX7) (N := 8) rfl (t_X7_isInRing_v l dC dI dA hL1 hl1 H.size x iv49_4 (2 : Int32) hT (gx.S hM) qrg (gqrg.S hM) ((hM.o gx trivial rfl).2.trans f_x_6) ia49_qrg nia49_qrg ?o84) (cwV 2 hts (hx_gV kw_1011 kw_1008 kw_1010 kw_38 kw_101) rfl rfl rfl (by decide +kernel) ⟨Nat.le_of_ble_eq_true rfl, Nat.le_of_ble_eq_true rfl⟩) rfl hl.1 rfl (Nat.le_of_ble_eq_true rfl) dX7_goOn_92 ⟨Nat.le_of_ble_eq_true rfl, Nat.le_of_ble_eq_true rfl⟩) hW (fun r_34 L_32 h_33 H locs p_35 hW => ?_)
            case o84 => decide
            obtain ⟨hr_36, hT, hs⟩ := p_35
            replace hT : hx_T T_tb L_32 h_33 := hT
            replace hs : hx_S T_tb [] hL1 hl1 L_32 h_33 := hs
            replace ffw49_x_2 := (hs.o (gx.S hM) trivial rfl).1.trans ffw49_x_2
            replace ffw49_x_1 := (hs.o (gx.S hM) trivial rfl).1.trans ffw49_x_1
            replace nia49_qrg : h_33.2.1 qrg = ia49_qrg := (funext fun j => (hs.a (gqrg.S hM) rfl j).1).trans nia49_qrg
            replace nia49_qbe : h_33.2.1 qbe = ia49_qbe := (funext fun j => (hs.a (gqbe.S hM) rfl j).1).trans nia49_qbe
            replace ex_26 := ex_26.trans (hs.a (gqow.S hM) rfl _).1.symm
            replace hM := hM.tr (hs.mono ?o85)
            case o85 => decide
            refine hb_if_ne (zx := r_34.toInt) (tgt := 119) hx hb rfl dX7_goOn_95 ?o86 (fun c_37 => ?_) (fun c_37 => ?_)
            case o86 => decide
            · skip
              obtain ⟨x_38, ex_38⟩ : ∃ y : Int32, y = iv49_4 + Int32.ofInt 1 := ⟨_, rfl⟩
              have zx_38 : x_38.toInt = iv49_4.toInt + (1) := ?o87
              case o87 =>
                rw [ex_38]
                refine i32_add rfl ?o88 ?o89 ?o90
                case o88 => decide
                case o89 => omega
                case o90 => omega
              refine lv_iinc (v := x_38) (lv' := [(4, .int x_38), (5, .int x_26), (3, .int x_3), (0, .ref x), (1, .int (2 : Int32)), (2, .int i2)]) hx hb dX7_goOn_119 hl (k := 1) rfl ex_38.symm ?o91 rfl (fun ls hl => ?_)
              case o91 => decide
              refine lv_goto (tgt := 49) hx hb dX7_goOn_122 ?o92 ?_
              case o92 => decide
              refine ih49 x_38 fw49_x_2 fw49_x_1 ia49_qrg ia49_qbe _ _ L_32 h_33 ?o93 ?o94 (i32_r _).1 (i32_r _).2 ?o95 ?o96 (hz_F3_n vi49_0 ?o97 (by rcases hr_36 with ⟨_, j9, hj9, ej9⟩ | z9; (have e9 := congrArg Int32.toInt ej9; rcases (show j9 = 0 ∨ j9 = 1 by omega) with y9 | y9 <;> rw [y9] at e9 <;> omega); exfalso; omega) zx_38) ?o98 rr09 rr19 ls ?o99 hW hT hM ffw49_x_2 ffw49_x_1 nia49_qrg nia49_qbe (lv_sub hl [0, 2, 3, 4, 5] rfl)
              case o93 => omega
              case o94 => omega
              case o95 => omega
              case o96 => omega
              case o97 => omega
              case o98 => omega
              case o99 => omega
            · skip
              have hni9 : ¬ hx_isin ia49_qrg 2 iv49_4 := ?o100
              case o100 =>
                rcases hr_36 with z9 | z9
                (exfalso; omega)
                rw [zc_2] at z9
                exact z9.2
              have hne19 : iv49_4.toInt ≠ b := fun z9 => hni9 ⟨1, ?o101, Int32.toInt_inj.mp (by rw [rr19]; omega)⟩
              case o101 => decide
              refine lv_aload_n hx hb dX7_goOn_98 rfl (lv_at hl 3 rfl) ?_
              refine hk_getr hx hb hts hC_7 hown hW (gx.S hM) tt_7 6 ?o102 rfl kw_319 ⟨rfl, rfl, rfl⟩ ((hM.o gx trivial rfl).2.trans f_x_6) dX7_goOn_99 ?_
              case o102 => decide
              refine lv_iload_n hx hb dX7_goOn_102 rfl (lv_at hl 4 rfl) ?_
              refine lv_iload hx hb dX7_goOn_103 (lv_at hl 1 rfl) ?_
              have nia49_qrgO := nia49_qrg
              refine hx_iast hx hb hW hT (hx_S.rf (M := [(37, 0)])) (gqrg.S hM) tt_37 rfl ?o103 rfl ⟨?o104, ?o105⟩ (List.mem_singleton.mpr rfl) dX7_goOn_105 (fun H locs h_39 eh_39 hW hT hs => ?_)
              case o103 => decide
              case o104 => omega
              case o105 => omega
              replace ffw49_x_2 := (hs.o (gx.S hM) trivial rfl).1.trans ffw49_x_2
              replace ffw49_x_1 := (hs.o (gx.S hM) trivial rfl).1.trans ffw49_x_1
              replace nia49_qbe : h_39.2.1 qbe = ia49_qbe := (funext fun j => (hs.a (gqbe.S hM) rfl j).1).trans nia49_qbe
              replace ex_26 := ex_26.trans (hs.a (gqow.S hM) rfl _).1.symm
              replace hM := hM.tr (hs.mono ?o106)
              case o106 => decide
              obtain ⟨fa_40, dfa_40⟩ : ∃ g : Nat → Int32, g = hx_up ia49_qrg (2 : Int32).toNatClampNeg iv49_4 := ⟨_, rfl⟩
              have nfa_40 : h_39.2.1 qrg = fa_40 := ?o107
              case o107 =>
                rw [eh_39, dfa_40, ← nia49_qrgO]
                exact hx_pi_fun _ _ _ _
              have rs09 : (fa_40 0).toInt = a := ?o108
              case o108 =>
                rw [dfa_40, hx_up_ne (show 0 ≠ (2 : Int32).toNatClampNeg by decide)]
                exact rr09
              have rs19 : (fa_40 1).toInt = b := ?o109
              case o109 =>
                rw [dfa_40, hx_up_ne (show 1 ≠ (2 : Int32).toNatClampNeg by decide)]
                exact rr19
              have rs29 : (fa_40 2).toInt = iv49_4.toInt := ?o110
              case o110 => rw [dfa_40, show (2 : Int32).toNatClampNeg = 2 from by decide, hx_up_at]
              refine lv_aload_n hx hb dX7_goOn_106 rfl (lv_at hl 3 rfl) ?_
              refine lv_iload_n hx hb dX7_goOn_107 rfl (lv_at hl 4 rfl) ?_
              refine lv_iconst (v := 1) hx hb dX7_goOn_108 ?o111 ?_
              case o111 => decide
              refine lv_iadd hx hb dX7_goOn_109 ?_
              refine lv_topi (fun x_41 ex_41 => ?_)
              obtain rfl : x_41 = (3 : Int32) := ex_41.trans (by decide)
              refine lv_iload_n hx hb dX7_goOn_110 rfl (lv_at hl 5 rfl) ?_
              refine lv_iload hx hb dX7_goOn_111 (lv_at hl 0 rfl) ?_
              refine va_mmin hx hb (hml.trans hl.1.symm) hown (hts _ kw_1002) (hts _ kw_917) (hts _ kw_109) (hts _ kw_918) (Nat.le_of_ble_eq_true rfl) (Nat.le_of_ble_eq_true rfl) (Nat.le_of_ble_eq_true rfl) (Nat.le_of_ble_eq_true rfl) dX7_goOn_113 ?_
              refine lv_topi (fun x_42 ex_42 => ?_)
              have hmn9 := hz_mi_e ex_42; rw [hv_27] at hmn9
              have hmk9 := hz_mi_l (a := i2.toInt) (b := V (40 * b + iv49_4.toInt)); have hmj9 := hz_mi_c (a := i2.toInt) (b := V (40 * b + iv49_4.toInt))
              have zc_3 : (3 : Int32).toInt = 3 := ?o112
              case o112 => decide
              refine hx_gov (hx_runV (As := [.int (3 : Int32), .int x_42]) (rest := []) ⟨hx, hb, hml, hown, hts⟩ hW (gx.S hM) tt_7 (T := TX7) (N := 8) rfl (t_X7_goOn_3v l dC dI dA L_32 h_39 H.size x x_42 hT (gx.S hM) qow (gqow.S hM) ((hM.o gx trivial rfl).2.trans f_x_5) qrg (gqrg.S hM) ((hM.o gx trivial rfl).2.trans f_x_6) qbe (gqbe.S hM) ((hM.o gx trivial rfl).2.trans f_x_7) owf (hx_afS hM gqow rfl af_qow) fa_40 nfa_40 ia49_qbe nia49_qbe fw49_x_2 ffw49_x_2 fw49_x_1 ffw49_x_1 sz0 ((hM.o gx trivial rfl).1.trans f_x_4) a b iv49_4.toInt rs09 hq0 rs19 hq1 rs29 ⟨?o113, ?o114⟩ V hV hVb ?o115 _ vi49_0) (cwV 2 hts (hx_gV kw_1001 kw_998 kw_1000 kw_36 kw_101) rfl rfl rfl (by decide +kernel) ⟨Nat.le_of_ble_eq_true rfl, Nat.le_of_ble_eq_true rfl⟩) rfl hl.1 rfl (Nat.le_of_ble_eq_true rfl) dX7_goOn_116 ⟨Nat.le_of_ble_eq_true rfl, Nat.le_of_ble_eq_true rfl⟩) hW (fun L_43 h_44 H locs p_46 hW => ?_)
              case o113 => omega
              case o114 => omega
              case o115 => omega
              obtain ⟨⟨w_48, w_49, w_50, w_51, fw_48, fw_49, fw_50, fw_51, hr_47⟩, hT, hs⟩ := p_46
              replace hT : hx_T T_tb L_43 h_44 := hT
              replace hs : hx_S T_tb [(7, 1), (7, 2), (37, 0), (38, 0)] L_32 h_39 L_43 h_44 := hs
              replace ex_26 := ex_26.trans (hs.a (gqow.S hM) rfl _).1.symm
              replace hM := hM.tr (hs.mono ?o116)
              case o116 => decide
              have fw_48 : h_44.2.1 x 2 = w_48 := fw_48
              have bw_48 := hT.gi (gx.S hM) tt_7 (k := 2) rfl
              rw [fw_48] at bw_48
              have bw_48 : -2147483648 ≤ w_48.toInt ∧ w_48.toInt ≤ 2147483647 := bw_48
              have fw_49 : h_44.2.1 x 1 = w_49 := fw_49
              have bw_49 := hT.gi (gx.S hM) tt_7 (k := 1) rfl
              rw [fw_49] at bw_49
              have bw_49 : 0 ≤ w_49.toInt ∧ w_49.toInt ≤ 4 := bw_49
              have fw_50 : h_44.2.1 qbe = w_50 := fw_50
              have fw_51 : h_44.2.1 qrg = w_51 := fw_51
              have rt09 : (w_51 0).toInt = a := ?o117
              case o117 =>
                rw [hr_47.2 0 (by decide)]
                exact rs09
              have rt19 : (w_51 1).toInt = b := ?o118
              case o118 =>
                rw [hr_47.2 1 (by decide)]
                exact rs19
              obtain ⟨x_52, ex_52⟩ : ∃ y : Int32, y = iv49_4 + Int32.ofInt 1 := ⟨_, rfl⟩
              have zx_52 : x_52.toInt = iv49_4.toInt + (1) := ?o119
              case o119 =>
                rw [ex_52]
                refine i32_add rfl ?o120 ?o121 ?o122
                case o120 => decide
                case o121 => omega
                case o122 => omega
              refine lv_iinc (v := x_52) (lv' := [(4, .int x_52), (5, .int x_26), (3, .int x_3), (0, .ref x), (1, .int (2 : Int32)), (2, .int i2)]) hx hb dX7_goOn_119 hl (k := 1) rfl ex_52.symm ?o123 rfl (fun ls hl => ?_)
              case o123 => decide
              refine lv_goto (tgt := 49) hx hb dX7_goOn_122 ?o124 ?_
              case o124 => decide
              refine ih49 x_52 w_48 w_49 w_51 w_50 _ _ L_43 h_44 ?o125 ?o126 (i32_r _).1 (i32_r _).2 ?o127 ?o128 (hz_F3_y (by have h9 := hr_47.1; rw [hmn9] at h9; exact h9) ?o129 (fun z9 => by rcases z9 with z9 | z9; exact hne19 z9; omega) zx_52) ?o130 rt09 rt19 ls ?o131 hW hT hM fw_48 fw_49 fw_51 fw_50 (lv_sub hl [0, 2, 3, 4, 5] rfl)
              case o125 => omega
              case o126 => omega
              case o127 => omega
              case o128 => omega
              case o129 => omega
              case o130 => omega
              case o131 => omega
  refine loop49 41 x_21 w_17 w_18 rgf w_19 _ _ L_12 h_13 ?o132 ?o133 (i32_r _).1 (i32_r _).2 ?o134 ?o135 (by have h9 := hS9; rw [show (x_21.toInt - a - 1).toNat = 0 by omega]; exact h9) ?o136 hr0 hr1 ls ?o137 hW hT hM fw_17 fw_18 af_qrg fw_19 hl
  case o132 => omega
  case o133 => omega
  case o134 => omega
  case o135 => omega
  case o136 => omega
  case o137 => omega


set_option maxHeartbeats 4000000 in
set_option maxRecDepth 100000 in
theorem t_X7_goOn_1v (l : Launch) (dC : Nat → ClassId) (dI : Nat → Nat → Nat) (dA : Nat → ClassId) (L : List Nat) (h : hx_h) (sz : Nat) (x : Nat) (i2 : Int32) (hT : hx_T T_tb L h) (gx : hx_g L h x 7) (qow : Nat) (gqow : hx_g L h qow 36) (f_x_5 : h.2.2 x 5 = some qow) (qrg : Nat) (gqrg : hx_g L h qrg 37) (f_x_6 : h.2.2 x 6 = some qrg) (qbe : Nat) (gqbe : hx_g L h qbe 38) (f_x_7 : h.2.2 x 7 = some qbe) (owf : Nat → Int32) (af_qow : h.2.1 qow = owf) (rgf : Nat → Int32) (af_qrg : h.2.1 qrg = rgf) (bef : Nat → Int32) (af_qbe : h.2.1 qbe = bef) (bl0 : Int32) (f_x_2 : h.2.1 x 2 = bl0) (bs0 : Int32) (f_x_1 : h.2.1 x 1 = bs0) (sz0 : Int32) (f_x_4 : h.2.1 x 4 = sz0) (a : Int) (hr0 : (rgf 0).toInt = a) (hq0 : 0 ≤ a ∧ a ≤ 39) (V : Int → Int) (hV : ∀ x : Nat, x < 1600 → (owf x).toInt = V (x : Int)) (hVb : ∀ x : Int, 0 ≤ V x ∧ V x ≤ 61000000) (hi2 : 61000000 ≤ i2.toInt) (o : Int × Int × (Nat → Int)) (hSR : hz_SR o bl0.toInt bs0.toInt bef) : Met l yX7_goOn (Cond.code yX7_goOn cX7_goOn 6 none :: hx_all) ({ frames := 5, cells := 0, slots := 0, locals := 137 }) (va_Pc [.ref x, .int (1 : Int32), .int i2] (hx_B T_tb (P_ty dA) (dC, dI) vwCl L h sz)) (va_Qv (fun (u : List Nat × hx_h) => (∃ (bl1 : Int32) (bs1 : Int32) (bef1 : Nat → Int32) (rgf1 : Nat → Int32), u.2.2.1 x 2 = bl1 ∧ u.2.2.1 x 1 = bs1 ∧ u.2.2.1 qbe = bef1 ∧ u.2.2.1 qrg = rgf1 ∧ (hz_SR (hz_F2 V sz0.toInt a o (sz0.toInt - a - 1).toNat) bl1.toInt bs1.toInt bef1 ∧ ∀ j : Nat, j < 1 → rgf1 j = rgf j)) ∧ hx_T T_tb u.1 u.2 ∧ hx_S T_tb [(7, 1), (7, 2), (37, 0), (38, 0)] L h u.1 u.2) (hx_E T_tb (P_ty dA) (dC, dI) vwCl (hx_A L sz)) (hx_A L sz)) 0 0 (hx_A L sz) := by
  refine hx_met (lv := [(0, .ref x), (1, .int (1 : Int32)), (2, .int i2)]) (by decide +kernel) rfl (Nat.le_of_ble_eq_true rfl) rfl ?_
  intro p e s m below meth c hx hb hml hr hlk hts0 hown hin hsz hW ls hl
  have hts : ∀ w ∈ hx_all, w.before _ s = true := fun w hw => hts0 w (List.mem_cons_of_mem _ hw)
  have hown : s.vm.findClass "SmallCourt$Rings" = some m.cls := hown
  have hM : hx_S T_tb [(7, 1), (7, 2), (37, 0), (38, 0)] L h L h := hx_S.rf
  have b_bl0 := hT.gi gx tt_7 (k := 2) rfl
  rw [f_x_2] at b_bl0
  have b_bl0 : -2147483648 ≤ bl0.toInt ∧ bl0.toInt ≤ 2147483647 := b_bl0
  have b_bs0 := hT.gi gx tt_7 (k := 1) rfl
  rw [f_x_1] at b_bs0
  have b_bs0 : 0 ≤ bs0.toInt ∧ bs0.toInt ≤ 4 := b_bs0
  have b_sz0 := hT.gi gx tt_7 (k := 4) rfl
  rw [f_x_4] at b_sz0
  have b_sz0 : 0 ≤ sz0.toInt ∧ sz0.toInt ≤ 40 := b_sz0
  refine lv_aload_n hx hb dX7_goOn_0 rfl (lv_at hl 0 rfl) ?_
  refine hk_getr hx hb hts hC_7 hown hW (gx.S hM) tt_7 6 ?o0 rfl kw_319 ⟨rfl, rfl, rfl⟩ ((hM.o gx trivial rfl).2.trans f_x_6) dX7_goOn_1 ?_
  case o0 => decide
  refine lv_iload_n hx hb dX7_goOn_4 rfl (lv_at hl 1 rfl) ?_
  refine lv_iconst (v := 1) hx hb dX7_goOn_5 ?o1 ?_
  case o1 => decide
  refine lv_isub hx hb dX7_goOn_6 ?_
  refine lv_topi (fun x_1 ex_1 => ?_)
  obtain rfl : x_1 = (0 : Int32) := ex_1.trans (by decide)
  refine hx_iald hx hb hW hT (gqrg.S hM) tt_37 rfl ?o2 dX7_goOn_7 (fun x_2 ex_2 lx_2 ux_2 => ?_)
  case o2 => decide
  have ax_2 : x_2 = rgf (0 : Int32).toNatClampNeg := ex_2.trans (congrFun af_qrg _)
  have hla9 : x_2.toInt = a := ?o3
  case o3 =>
    rw [ax_2, show (0 : Int32).toNatClampNeg = 0 from by decide]
    exact hr0
  refine lv_bipush (v := 40) hx hb dX7_goOn_8 ?o4 ?_
  case o4 => decide
  refine lv_imul hx hb dX7_goOn_10 ?_
  refine lv_topi (fun x_3 ex_3 => ?_)
  have zx_3 : x_3.toInt = x_2.toInt * 40 := ?o5
  case o5 =>
    rw [ex_3]
    refine i32_mul rfl ?o6 rfl ?o7 ?o8
    case o6 => decide
    case o7 => omega
    case o8 => omega
  refine lv_istore_n (lv' := [(3, .int x_3), (0, .ref x), (1, .int (1 : Int32)), (2, .int i2)]) hx hb dX7_goOn_11 rfl hl ?o9 rfl (fun ls hl => ?_)
  case o9 => decide
  refine lv_iload_n hx hb dX7_goOn_12 rfl (lv_at hl 2 rfl) ?_
  refine lv_iconst (v := 1) hx hb dX7_goOn_13 ?o10 ?_
  case o10 => decide
  refine hb_icmp_le (zx := 1) (zy := 1) (tgt := 39) hx hb ?o11 ?o12 dX7_goOn_14 ?o13 (fun c_4 => ?_) (fun c_4 => ?o14)
  case o11 => decide
  case o12 => decide
  case o13 => decide
  case o14 =>
    exfalso
    omega
  refine lv_aload_n hx hb dX7_goOn_39 rfl (lv_at hl 1 rfl) ?_
  refine hk_getr hx hb hts hC_7 hown hW (gx.S hM) tt_7 6 ?o15 rfl kw_319 ⟨rfl, rfl, rfl⟩ ((hM.o gx trivial rfl).2.trans f_x_6) dX7_goOn_40 ?_
  case o15 => decide
  refine lv_iconst (v := 0) hx hb dX7_goOn_43 ?o16 ?_
  case o16 => decide
  refine hx_iald hx hb hW hT (gqrg.S hM) tt_37 rfl ?o17 dX7_goOn_44 (fun x_5 ex_5 lx_5 ux_5 => ?_)
  case o17 => decide
  have ax_5 : x_5 = rgf (0 : Int32).toNatClampNeg := ex_5.trans (congrFun af_qrg _)
  obtain rfl : x_2 = x_5 := ex_2.trans ex_5.symm
  have hf46 : x_2.toInt = a := ?o18
  case o18 =>
    rw [ax_2, show (0 : Int32).toNatClampNeg = 0 from by decide]
    exact hr0
  refine lv_iconst (v := 1) hx hb dX7_goOn_45 ?o19 ?_
  case o19 => decide
  refine lv_iadd hx hb dX7_goOn_46 ?_
  have rg_6 := i32_r x_2
  refine lv_topi (fun x_7 ex_7 => ?_)
  have zx_7 : x_7.toInt = x_2.toInt + 1 := ?o20
  case o20 =>
    rw [ex_7]
    refine i32_add rfl ?o21 ?o22 ?o23
    case o21 => decide
    case o22 => omega
    case o23 => omega
  refine lv_istore (lv' := [(4, .int x_7), (3, .int x_3), (0, .ref x), (1, .int (1 : Int32)), (2, .int i2)]) hx hb dX7_goOn_47 hl ?o24 rfl (fun ls hl => ?_)
  case o24 => decide
  have loop49 : ∀ (n49 : Nat) (iv49_4 fw49_x_2 fw49_x_1 : Int32) (ia49_qrg ia49_qbe : Nat → Int32) (H : Heap) (locs : List Loc) (hL1 : List Nat) (hl1 : hx_h), 1 ≤ iv49_4.toInt → iv49_4.toInt ≤ 40 → -2147483648 ≤ fw49_x_2.toInt → fw49_x_2.toInt ≤ 2147483647 → 0 ≤ fw49_x_1.toInt → fw49_x_1.toInt ≤ 4 → (hz_SR (hz_F2 V sz0.toInt a o (iv49_4.toInt - a - 1).toNat) fw49_x_2.toInt fw49_x_1.toInt ia49_qbe) → (a + 1 ≤ iv49_4.toInt ∧ (iv49_4.toInt ≤ sz0.toInt ∨ iv49_4.toInt = a + 1)) → ((ia49_qrg 0).toInt = a) → ∀ (ls : Array Slot), 40 - iv49_4.toInt < (n49 : Int) → hx_W T_tb (P_ty dA) (dC, dI) vwCl (hx_A L sz) s.heap hL1 hl1 s H locs → hx_T T_tb hL1 hl1 → hx_S T_tb [(7, 1), (7, 2), (37, 0), (38, 0)] L h hL1 hl1 → hl1.2.1 x 2 = fw49_x_2 → hl1.2.1 x 1 = fw49_x_1 → hl1.2.1 qrg = ia49_qrg → hl1.2.1 qbe = ia49_qbe → lv_has ls 6 [(4, .int iv49_4), (3, .int x_3), (0, .ref x), (1, .int (1 : Int32)), (2, .int i2)] → W p l e ({ frames := 5, cells := 0, slots := 0, locals := 137 }) s m ([.ref x, .int (1 : Int32), .int i2] : List Value).toArray below meth c H locs 0 0 (MQ below (va_Qv (fun (u : List Nat × hx_h) => (∃ (bl1 : Int32) (bs1 : Int32) (bef1 : Nat → Int32) (rgf1 : Nat → Int32), u.2.2.1 x 2 = bl1 ∧ u.2.2.1 x 1 = bs1 ∧ u.2.2.1 qbe = bef1 ∧ u.2.2.1 qrg = rgf1 ∧ (hz_SR (hz_F2 V sz0.toInt a o (sz0.toInt - a - 1).toNat) bl1.toInt bs1.toInt bef1 ∧ ∀ j : Nat, j < 1 → rgf1 j = rgf j)) ∧ hx_T T_tb u.1 u.2 ∧ hx_S T_tb [(7, 1), (7, 2), (37, 0), (38, 0)] L h u.1 u.2) (hx_E T_tb (P_ty dA) (dC, dI) vwCl (hx_A L sz)) (hx_A L sz)) ([.ref x, .int (1 : Int32), .int i2] : List Value).toArray s 0 0 (hx_A L sz)) (F0 m 49 ls []) := by
    intro n49
    induction n49 with
    | zero => intro iv49_4 fw49_x_2 fw49_x_1 ia49_qrg ia49_qbe H locs hL1 hl1 bliv49_4 buiv49_4 blfw49_x_2 bufw49_x_2 blfw49_x_1 bufw49_x_1 vi49_0 vi49_1 vi49_2 ls hn49; exfalso; omega
    | succ n49 ih49 =>
      intro iv49_4 fw49_x_2 fw49_x_1 ia49_qrg ia49_qbe H locs hL1 hl1 bliv49_4 buiv49_4 blfw49_x_2 bufw49_x_2 blfw49_x_1 bufw49_x_1 vi49_0 vi49_1 vi49_2 ls hn49 hW hT hM ffw49_x_2 ffw49_x_1 nia49_qrg nia49_qbe hl
      have rr09 := vi49_2
      refine lv_iload hx hb dX7_goOn_49 (lv_at hl 0 rfl) ?_
      refine lv_aload_n hx hb dX7_goOn_51 rfl (lv_at hl 2 rfl) ?_
      refine hk_geti hx hb hts hC_7 hown hW (gx.S hM) tt_7 4 ?o25 rfl kw_317 ⟨rfl, rfl, rfl⟩ ((hM.o gx trivial rfl).1.trans f_x_4) dX7_goOn_52 ?_
      case o25 => decide
      refine hb_icmp_ge (zx := iv49_4.toInt) (zy := sz0.toInt) (tgt := 125) hx hb rfl rfl dX7_goOn_55 ?o26 (fun c_8 => ?_) (fun c_8 => ?_)
      case o26 => decide
      · skip
        exact hx_retv hx hb hr hlk hW ⟨⟨fw49_x_2, fw49_x_1, ia49_qbe, ia49_qrg, ffw49_x_2, ffw49_x_1, nia49_qbe, nia49_qrg, ⟨(by have h9 := vi49_0; rw [show (iv49_4.toInt - a - 1).toNat = (sz0.toInt - a - 1).toNat by omega] at h9; exact h9), (fun j hj => Int32.toInt_inj.mp (by rcases (show j = 0 by omega) with z9 <;> rw [z9] <;> omega))⟩⟩, hT, hM⟩ dX7_goOn_125
      · skip
        refine lv_iload_n hx hb dX7_goOn_58 rfl (lv_at hl 3 rfl) ?_
        refine lv_iconst (v := 4) hx hb dX7_goOn_59 ?o27 ?_
        case o27 => decide
        refine hb_icmp_ge (zx := 1) (zy := 4) (tgt := 125) hx hb ?o28 ?o29 dX7_goOn_60 ?o30 (fun c_9 => ?o31) (fun c_9 => ?_)
        case o28 => decide
        case o29 => decide
        case o30 => decide
        case o31 =>
          exfalso
          omega
        refine lv_aload_n hx hb dX7_goOn_63 rfl (lv_at hl 2 rfl) ?_
        refine hk_getr hx hb hts hC_7 hown hW (gx.S hM) tt_7 5 ?o32 rfl kw_318 ⟨rfl, rfl, rfl⟩ ((hM.o gx trivial rfl).2.trans f_x_5) dX7_goOn_64 ?_
        case o32 => decide
        refine lv_iload_n hx hb dX7_goOn_67 rfl (lv_at hl 1 rfl) ?_
        refine lv_iload hx hb dX7_goOn_68 (lv_at hl 0 rfl) ?_
        refine lv_iadd hx hb dX7_goOn_70 ?_
        have rg_10 := i32_r x_3
        have rg_11 := i32_r iv49_4
        refine lv_topi (fun x_12 ex_12 => ?_)
        have zx_12 : x_12.toInt = x_3.toInt + iv49_4.toInt := ?o33
        case o33 =>
          rw [ex_12]
          refine i32_add rfl rfl ?o34 ?o35
          case o34 => omega
          case o35 => omega
        refine hx_iald hx hb hW hT (gqow.S hM) tt_36 rfl ⟨?o36, ?o37⟩ dX7_goOn_71 (fun x_13 ex_13 lx_13 ux_13 => ?_)
        case o36 => omega
        case o37 => omega
        have ax_13 : x_13 = owf x_12.toNatClampNeg := ex_13.trans (congrFun (hx_afS hM gqow rfl af_qow) _)
        have hv_14 : x_13.toInt = V (40 * a + iv49_4.toInt) := ?o38
        case o38 =>
          have h9 := hV x_12.toNatClampNeg (by unfold Int32.toNatClampNeg; omega)
          rw [← ax_13, show ((x_12.toNatClampNeg : Nat) : Int) = 40 * a + iv49_4.toInt by unfold Int32.toNatClampNeg; omega] at h9
          exact h9
        have hv_14b := hVb (40 * a + iv49_4.toInt); rw [← hv_14] at hv_14b
        refine lv_istore (lv' := [(5, .int x_13), (4, .int iv49_4), (3, .int x_3), (0, .ref x), (1, .int (1 : Int32)), (2, .int i2)]) hx hb dX7_goOn_72 hl ?o39 rfl (fun ls hl => ?_)
        case o39 => decide
        refine lv_iload hx hb dX7_goOn_74 (lv_at hl 0 rfl) ?_
        refine hb_if_le (zx := x_13.toInt) (tgt := 119) hx hb rfl dX7_goOn_76 ?o40 (fun c_15 => ?_) (fun c_15 => ?_)
        case o40 => decide
        · skip
          obtain ⟨x_16, ex_16⟩ : ∃ y : Int32, y = iv49_4 + Int32.ofInt 1 := ⟨_, rfl⟩
          have zx_16 : x_16.toInt = iv49_4.toInt + (1) := ?o41
          case o41 =>
            rw [ex_16]
            refine i32_add rfl ?o42 ?o43 ?o44
            case o42 => decide
            case o43 => omega
            case o44 => omega
          refine lv_iinc (v := x_16) (lv' := [(4, .int x_16), (5, .int x_13), (3, .int x_3), (0, .ref x), (1, .int (1 : Int32)), (2, .int i2)]) hx hb dX7_goOn_119 hl (k := 1) rfl ex_16.symm ?o45 rfl (fun ls hl => ?_)
          case o45 => decide
          refine lv_goto (tgt := 49) hx hb dX7_goOn_122 ?o46 ?_
          case o46 => decide
          refine ih49 x_16 fw49_x_2 fw49_x_1 ia49_qrg ia49_qbe _ _ hL1 hl1 ?o47 ?o48 (i32_r _).1 (i32_r _).2 ?o49 ?o50 (hz_F2_n vi49_0 ?o51 ?o52 zx_16) ?o53 rr09 ls ?o54 hW hT hM ffw49_x_2 ffw49_x_1 nia49_qrg nia49_qbe (lv_sub hl [0, 2, 3, 4, 5] rfl)
          case o47 => omega
          case o48 => omega
          case o49 => omega
          case o50 => omega
          case o51 => omega
          case o52 => omega
          case o53 => omega
          case o54 => omega
        · skip
          refine lv_iload hx hb dX7_goOn_79 (lv_at hl 0 rfl) ?_
          refine lv_aload_n hx hb dX7_goOn_81 rfl (lv_at hl 3 rfl) ?_
          refine hk_geti hx hb hts hC_7 hown hW (gx.S hM) tt_7 2 ?o55 rfl kw_313 ⟨rfl, rfl, rfl⟩ ffw49_x_2 dX7_goOn_82 ?_
          case o55 => decide
          refine hb_icmp_lt (zx := x_13.toInt) (zy := fw49_x_2.toInt) (tgt := 119) hx hb rfl rfl dX7_goOn_85 ?o56 (fun c_17 => ?_) (fun c_17 => ?_)
          case o56 => decide
          · skip
            obtain ⟨x_18, ex_18⟩ : ∃ y : Int32, y = iv49_4 + Int32.ofInt 1 := ⟨_, rfl⟩
            have zx_18 : x_18.toInt = iv49_4.toInt + (1) := ?o57
            case o57 =>
              rw [ex_18]
              refine i32_add rfl ?o58 ?o59 ?o60
              case o58 => decide
              case o59 => omega
              case o60 => omega
            refine lv_iinc (v := x_18) (lv' := [(4, .int x_18), (5, .int x_13), (3, .int x_3), (0, .ref x), (1, .int (1 : Int32)), (2, .int i2)]) hx hb dX7_goOn_119 hl (k := 1) rfl ex_18.symm ?o61 rfl (fun ls hl => ?_)
            case o61 => decide
            refine lv_goto (tgt := 49) hx hb dX7_goOn_122 ?o62 ?_
            case o62 => decide
            refine ih49 x_18 fw49_x_2 fw49_x_1 ia49_qrg ia49_qbe _ _ hL1 hl1 ?o63 ?o64 (i32_r _).1 (i32_r _).2 ?o65 ?o66 (hz_F2_p vi49_0 ?o67 ?o68 zx_18) ?o69 rr09 ls ?o70 hW hT hM ffw49_x_2 ffw49_x_1 nia49_qrg nia49_qbe (lv_sub hl [0, 2, 3, 4, 5] rfl)
            case o63 => omega
            case o64 => omega
            case o65 => omega
            case o66 => omega
            case o67 => omega
            case o68 => omega
            case o69 => omega
            case o70 => omega
          · skip
            refine lv_aload_n hx hb dX7_goOn_88 rfl (lv_at hl 3 rfl) ?_
            refine lv_iload hx hb dX7_goOn_89 (lv_at hl 1 rfl) ?_
            refine lv_iload_n hx hb dX7_goOn_91 rfl (lv_at hl 4 rfl) ?_
            have zc_1 : (1 : Int32).toInt = 1 := ?o71
            case o71 => decide
            refine hx_goi (hx_runV (As := [.int iv49_4, .int (1 : Int32)]) (rest := []) ⟨hx, hb, hml, hown, hts⟩ hW (gx.S hM) tt_7 (T := TX7) (N := 8) rfl (t_X7_isInRing_v l dC dI dA hL1 hl1 H.size x iv49_4 (1 : Int32) hT (gx.S hM) qrg (gqrg.S hM) ((hM.o gx trivial rfl).2.trans f_x_6) ia49_qrg nia49_qrg ?o72) (cwV 2 hts (hx_gV kw_1011 kw_1008 kw_1010 kw_38 kw_101) rfl rfl rfl (by decide +kernel) ⟨Nat.le_of_ble_eq_true rfl, Nat.le_of_ble_eq_true rfl⟩) rfl hl.1 rfl (Nat.le_of_ble_eq_true rfl) dX7_goOn_92 ⟨Nat.le_of_ble_eq_true rfl, Nat.le_of_ble_eq_true rfl⟩) hW (fun r_21 L_19 h_20 H locs p_22 hW => ?_)
            case o72 => decide
            obtain ⟨hr_23, hT, hs⟩ := p_22
            replace hT : hx_T T_tb L_19 h_20 := hT
            replace hs : hx_S T_tb [] hL1 hl1 L_19 h_20 := hs
            replace ffw49_x_2 := (hs.o (gx.S hM) trivial rfl).1.trans ffw49_x_2
            replace ffw49_x_1 := (hs.o (gx.S hM) trivial rfl).1.trans ffw49_x_1
            replace nia49_qrg : h_20.2.1 qrg = ia49_qrg := (funext fun j => (hs.a (gqrg.S hM) rfl j).1).trans nia49_qrg
            replace nia49_qbe : h_20.2.1 qbe = ia49_qbe := (funext fun j => (hs.a (gqbe.S hM) rfl j).1).trans nia49_qbe
            replace ex_13 := ex_13.trans (hs.a (gqow.S hM) rfl _).1.symm
            replace hM := hM.tr (hs.mono ?o73)
            case o73 => decide
            refine hb_if_ne (zx := r_21.toInt) (tgt := 119) hx hb rfl dX7_goOn_95 ?o74 (fun c_24 => ?_) (fun c_24 => ?_)
            case o74 => decide
            · skip
              obtain ⟨x_25, ex_25⟩ : ∃ y : Int32, y = iv49_4 + Int32.ofInt 1 := ⟨_, rfl⟩
              have zx_25 : x_25.toInt = iv49_4.toInt + (1) := ?o75
              case o75 =>
                rw [ex_25]
                refine i32_add rfl ?o76 ?o77 ?o78
                case o76 => decide
                case o77 => omega
                case o78 => omega
              refine lv_iinc (v := x_25) (lv' := [(4, .int x_25), (5, .int x_13), (3, .int x_3), (0, .ref x), (1, .int (1 : Int32)), (2, .int i2)]) hx hb dX7_goOn_119 hl (k := 1) rfl ex_25.symm ?o79 rfl (fun ls hl => ?_)
              case o79 => decide
              refine lv_goto (tgt := 49) hx hb dX7_goOn_122 ?o80 ?_
              case o80 => decide
              refine ih49 x_25 fw49_x_2 fw49_x_1 ia49_qrg ia49_qbe _ _ L_19 h_20 ?o81 ?o82 (i32_r _).1 (i32_r _).2 ?o83 ?o84 (hz_F2_n vi49_0 ?o85 (by rcases hr_23 with ⟨_, j9, hj9, ej9⟩ | z9; (have e9 := congrArg Int32.toInt ej9; rcases (show j9 = 0 by omega) with y9 <;> rw [y9] at e9 <;> omega); exfalso; omega) zx_25) ?o86 rr09 ls ?o87 hW hT hM ffw49_x_2 ffw49_x_1 nia49_qrg nia49_qbe (lv_sub hl [0, 2, 3, 4, 5] rfl)
              case o81 => omega
              case o82 => omega
              case o83 => omega
              case o84 => omega
              case o85 => omega
              case o86 => omega
              case o87 => omega
            · skip
              have hni9 : ¬ hx_isin ia49_qrg 1 iv49_4 := ?o88
              case o88 =>
                rcases hr_23 with z9 | z9
                (exfalso; omega)
                rw [zc_1] at z9
                exact z9.2
              refine lv_aload_n hx hb dX7_goOn_98 rfl (lv_at hl 3 rfl) ?_
              refine hk_getr hx hb hts hC_7 hown hW (gx.S hM) tt_7 6 ?o89 rfl kw_319 ⟨rfl, rfl, rfl⟩ ((hM.o gx trivial rfl).2.trans f_x_6) dX7_goOn_99 ?_
              case o89 => decide
              refine lv_iload_n hx hb dX7_goOn_102 rfl (lv_at hl 4 rfl) ?_
              refine lv_iload hx hb dX7_goOn_103 (lv_at hl 1 rfl) ?_
              have nia49_qrgO := nia49_qrg
              refine hx_iast hx hb hW hT (hx_S.rf (M := [(37, 0)])) (gqrg.S hM) tt_37 rfl ?o90 rfl ⟨?o91, ?o92⟩ (List.mem_singleton.mpr rfl) dX7_goOn_105 (fun H locs h_26 eh_26 hW hT hs => ?_)
              case o90 => decide
              case o91 => omega
              case o92 => omega
              replace ffw49_x_2 := (hs.o (gx.S hM) trivial rfl).1.trans ffw49_x_2
              replace ffw49_x_1 := (hs.o (gx.S hM) trivial rfl).1.trans ffw49_x_1
              replace nia49_qbe : h_26.2.1 qbe = ia49_qbe := (funext fun j => (hs.a (gqbe.S hM) rfl j).1).trans nia49_qbe
              replace ex_13 := ex_13.trans (hs.a (gqow.S hM) rfl _).1.symm
              replace hM := hM.tr (hs.mono ?o93)
              case o93 => decide
              obtain ⟨fa_27, dfa_27⟩ : ∃ g : Nat → Int32, g = hx_up ia49_qrg (1 : Int32).toNatClampNeg iv49_4 := ⟨_, rfl⟩
              have nfa_27 : h_26.2.1 qrg = fa_27 := ?o94
              case o94 =>
                rw [eh_26, dfa_27, ← nia49_qrgO]
                exact hx_pi_fun _ _ _ _
              have rs09 : (fa_27 0).toInt = a := ?o95
              case o95 =>
                rw [dfa_27, hx_up_ne (show 0 ≠ (1 : Int32).toNatClampNeg by decide)]
                exact rr09
              have rs19 : (fa_27 1).toInt = iv49_4.toInt := ?o96
              case o96 => rw [dfa_27, show (1 : Int32).toNatClampNeg = 1 from by decide, hx_up_at]
              refine lv_aload_n hx hb dX7_goOn_106 rfl (lv_at hl 3 rfl) ?_
              refine lv_iload_n hx hb dX7_goOn_107 rfl (lv_at hl 4 rfl) ?_
              refine lv_iconst (v := 1) hx hb dX7_goOn_108 ?o97 ?_
              case o97 => decide
              refine lv_iadd hx hb dX7_goOn_109 ?_
              refine lv_topi (fun x_28 ex_28 => ?_)
              obtain rfl : x_28 = (2 : Int32) := ex_28.trans (by decide)
              refine lv_iload_n hx hb dX7_goOn_110 rfl (lv_at hl 5 rfl) ?_
              refine lv_iload hx hb dX7_goOn_111 (lv_at hl 0 rfl) ?_
              refine va_mmin hx hb (hml.trans hl.1.symm) hown (hts _ kw_1002) (hts _ kw_917) (hts _ kw_109) (hts _ kw_918) (Nat.le_of_ble_eq_true rfl) (Nat.le_of_ble_eq_true rfl) (Nat.le_of_ble_eq_true rfl) (Nat.le_of_ble_eq_true rfl) dX7_goOn_113 ?_
              refine lv_topi (fun x_29 ex_29 => ?_)
              have hmn9 := hz_mi_e ex_29; rw [hv_14] at hmn9
              have hmk9 := hz_mi_l (a := i2.toInt) (b := V (40 * a + iv49_4.toInt)); have hmj9 := hz_mi_c (a := i2.toInt) (b := V (40 * a + iv49_4.toInt))
              rw [show hz_mi i2.toInt (V (40 * a + iv49_4.toInt)) = V (40 * a + iv49_4.toInt) from by unfold hz_mi; split <;> omega] at hmn9
              have zc_2 : (2 : Int32).toInt = 2 := ?o98
              case o98 => decide
              refine hx_gov (hx_runV (As := [.int (2 : Int32), .int x_29]) (rest := []) ⟨hx, hb, hml, hown, hts⟩ hW (gx.S hM) tt_7 (T := TX7) (N := 8) rfl (t_X7_goOn_2v l dC dI dA L_19 h_26 H.size x x_29 hT (gx.S hM) qow (gqow.S hM) ((hM.o gx trivial rfl).2.trans f_x_5) qrg (gqrg.S hM) ((hM.o gx trivial rfl).2.trans f_x_6) qbe (gqbe.S hM) ((hM.o gx trivial rfl).2.trans f_x_7) owf (hx_afS hM gqow rfl af_qow) fa_27 nfa_27 ia49_qbe nia49_qbe fw49_x_2 ffw49_x_2 fw49_x_1 ffw49_x_1 sz0 ((hM.o gx trivial rfl).1.trans f_x_4) a iv49_4.toInt rs09 hq0 rs19 ⟨?o99, ?o100⟩ V hV hVb ?o101 _ vi49_0) (cwV 2 hts (hx_gV kw_1001 kw_998 kw_1000 kw_36 kw_101) rfl rfl rfl (by decide +kernel) ⟨Nat.le_of_ble_eq_true rfl, Nat.le_of_ble_eq_true rfl⟩) rfl hl.1 rfl (Nat.le_of_ble_eq_true rfl) dX7_goOn_116 ⟨Nat.le_of_ble_eq_true rfl, Nat.le_of_ble_eq_true rfl⟩) hW (fun L_30 h_31 H locs p_33 hW => ?_)
              case o99 => omega
              case o100 => omega
              case o101 => omega
              obtain ⟨⟨w_35, w_36, w_37, w_38, fw_35, fw_36, fw_37, fw_38, hr_34⟩, hT, hs⟩ := p_33
              replace hT : hx_T T_tb L_30 h_31 := hT
              replace hs : hx_S T_tb [(7, 1), (7, 2), (37, 0), (38, 0)] L_19 h_26 L_30 h_31 := hs
              replace ex_13 := ex_13.trans (hs.a (gqow.S hM) rfl _).1.symm
              replace hM := hM.tr (hs.mono ?o102)
              case o102 => decide
              have fw_35 : h_31.2.1 x 2 = w_35 := fw_35
              have bw_35 := hT.gi (gx.S hM) tt_7 (k := 2) rfl
              rw [fw_35] at bw_35
              have bw_35 : -2147483648 ≤ w_35.toInt ∧ w_35.toInt ≤ 2147483647 := bw_35
              have fw_36 : h_31.2.1 x 1 = w_36 := fw_36
              have bw_36 := hT.gi (gx.S hM) tt_7 (k := 1) rfl
              rw [fw_36] at bw_36
              have bw_36 : 0 ≤ w_36.toInt ∧ w_36.toInt ≤ 4 := bw_36
              have fw_37 : h_31.2.1 qbe = w_37 := fw_37
              have fw_38 : h_31.2.1 qrg = w_38 := fw_38
              have rt09 : (w_38 0).toInt = a := ?o103
              case o103 =>
                rw [hr_34.2 0 (by decide)]
                exact rs09
              obtain ⟨x_39, ex_39⟩ : ∃ y : Int32, y = iv49_4 + Int32.ofInt 1 := ⟨_, rfl⟩
              have zx_39 : x_39.toInt = iv49_4.toInt + (1) := ?o104
              case o104 =>
                rw [ex_39]
                refine i32_add rfl ?o105 ?o106 ?o107
                case o105 => decide
                case o106 => omega
                case o107 => omega
              refine lv_iinc (v := x_39) (lv' := [(4, .int x_39), (5, .int x_13), (3, .int x_3), (0, .ref x), (1, .int (1 : Int32)), (2, .int i2)]) hx hb dX7_goOn_119 hl (k := 1) rfl ex_39.symm ?o108 rfl (fun ls hl => ?_)
              case o108 => decide
              refine lv_goto (tgt := 49) hx hb dX7_goOn_122 ?o109 ?_
              case o109 => decide
              refine ih49 x_39 w_35 w_36 w_38 w_37 _ _ L_30 h_31 ?o110 ?o111 (i32_r _).1 (i32_r _).2 ?o112 ?o113 (hz_F2_y (by have h9 := hr_34.1; rw [hmn9] at h9; exact h9) ?o114 ?o115 zx_39) ?o116 rt09 ls ?o117 hW hT hM fw_35 fw_36 fw_38 fw_37 (lv_sub hl [0, 2, 3, 4, 5] rfl)
              case o110 => omega
              case o111 => omega
              case o112 => omega
              case o113 => omega
              case o114 => omega
              case o115 => omega
              case o116 => omega
              case o117 => omega
  refine loop49 41 x_7 bl0 bs0 rgf bef _ _ L h ?o118 ?o119 (i32_r _).1 (i32_r _).2 ?o120 ?o121 (by have h9 := hSR; rw [show (x_7.toInt - a - 1).toNat = 0 by omega]; exact h9) ?o122 hr0 ls ?o123 hW hT hM f_x_2 f_x_1 af_qrg af_qbe hl
  case o118 => omega
  case o119 => omega
  case o120 => omega
  case o121 => omega
  case o122 => omega
  case o123 => omega


set_option maxHeartbeats 4000000 in
set_option maxRecDepth 100000 in
theorem t_X7_findBest_v (l : Launch) (dC : Nat → ClassId) (dI : Nat → Nat → Nat) (dA : Nat → ClassId) (L : List Nat) (h : hx_h) (sz : Nat) (x : Nat) (hT : hx_T T_tb L h) (gx : hx_g L h x 7) (qow : Nat) (gqow : hx_g L h qow 36) (f_x_5 : h.2.2 x 5 = some qow) (qrg : Nat) (gqrg : hx_g L h qrg 37) (f_x_6 : h.2.2 x 6 = some qrg) (qbe : Nat) (gqbe : hx_g L h qbe 38) (f_x_7 : h.2.2 x 7 = some qbe) (owf : Nat → Int32) (af_qow : h.2.1 qow = owf) (rgf : Nat → Int32) (af_qrg : h.2.1 qrg = rgf) (bef : Nat → Int32) (af_qbe : h.2.1 qbe = bef) (sz0 : Int32) (f_x_4 : h.2.1 x 4 = sz0) (V : Int → Int) (hV : ∀ x : Nat, x < 1600 → (owf x).toInt = V (x : Int)) (hVb : ∀ x : Int, 0 ≤ V x ∧ V x ≤ 61000000) : Met l yX7_findBest (Cond.code yX7_findBest cX7_findBest 2 (some .boolean) :: hx_all) ({ frames := 6, cells := 0, slots := 0, locals := 162 }) (va_Pc [.ref x] (hx_B T_tb (P_ty dA) (dC, dI) vwCl L h sz)) (va_Qi (fun (r : Int32) (u : List Nat × hx_h) => (∃ (bl1 : Int32) (bs1 : Int32) (bef1 : Nat → Int32), u.2.2.1 x 2 = bl1 ∧ u.2.2.1 x 1 = bs1 ∧ u.2.2.1 qbe = bef1 ∧ ((hz_SR (hz_F1 V sz0.toInt sz0.toInt.toNat) bl1.toInt bs1.toInt bef1) ∧ ((r.toInt = 1 ∧ 0 < bs1.toInt) ∨ (r.toInt = 0 ∧ ¬ 0 < bs1.toInt)))) ∧ hx_T T_tb u.1 u.2 ∧ hx_S T_tb [(7, 1), (7, 2), (37, 0), (38, 0)] L h u.1 u.2) (hx_E T_tb (P_ty dA) (dC, dI) vwCl (hx_A L sz)) (hx_A L sz)) 0 0 (hx_A L sz) := by
  refine hx_met (lv := [(0, .ref x)]) (by decide +kernel) rfl (Nat.le_of_ble_eq_true rfl) rfl ?_
  intro p e s m below meth c hx hb hml hr hlk hts0 hown hin hsz hW ls hl
  have hts : ∀ w ∈ hx_all, w.before _ s = true := fun w hw => hts0 w (List.mem_cons_of_mem _ hw)
  have hown : s.vm.findClass "SmallCourt$Rings" = some m.cls := hown
  have hM : hx_S T_tb [(7, 1), (7, 2), (37, 0), (38, 0)] L h L h := hx_S.rf
  have b_sz0 := hT.gi gx tt_7 (k := 4) rfl
  rw [f_x_4] at b_sz0
  have b_sz0 : 0 ≤ sz0.toInt ∧ sz0.toInt ≤ 40 := b_sz0
  refine lv_aload_n hx hb dX7_findBest_0 rfl (lv_at hl 0 rfl) ?_
  refine lv_iconst (v := 0) hx hb dX7_findBest_1 ?o0 ?_
  case o0 => decide
  refine hx_puti hx hb hts hC_7 hown hW hT (hx_S.rf (M := [(7, 1)])) (gx.S hM) tt_7 1 ?o1 rfl kw_311 ⟨rfl, rfl, rfl⟩ rfl (x := (0 : Int32)) ?o2 rfl rfl rfl (List.mem_singleton.mpr rfl) dX7_findBest_2 (fun H locs h_1 eh_1 hW hT hs => ?_)
  case o1 => decide
  case o2 => decide
  replace af_qrg : h_1.2.1 qrg = rgf := (funext fun j => (hs.a (gqrg.S hM) rfl j).1).trans af_qrg
  replace af_qbe : h_1.2.1 qbe = bef := (funext fun j => (hs.a (gqbe.S hM) rfl j).1).trans af_qbe
  replace hM := hM.tr (hs.mono ?o3)
  case o3 => decide
  have f_2 : h_1.2.1 x 1 = (0 : Int32) := ?o4
  case o4 =>
    rw [eh_1]
    exact hx_pi_at _ _ _ _
  refine lv_aload_n hx hb dX7_findBest_5 rfl (lv_at hl 0 rfl) ?_
  refine lv_iconst (v := 0) hx hb dX7_findBest_6 ?o5 ?_
  case o5 => decide
  refine hx_puti hx hb hts hC_7 hown hW hT (hx_S.rf (M := [(7, 2)])) (gx.S hM) tt_7 2 ?o6 rfl kw_313 ⟨rfl, rfl, rfl⟩ rfl (x := (0 : Int32)) ?o7 rfl rfl rfl (List.mem_singleton.mpr rfl) dX7_findBest_7 (fun H locs h_3 eh_3 hW hT hs => ?_)
  case o6 => decide
  case o7 => decide
  replace f_2 := (hs.o (gx.S hM) trivial rfl).1.trans f_2
  replace af_qrg : h_3.2.1 qrg = rgf := (funext fun j => (hs.a (gqrg.S hM) rfl j).1).trans af_qrg
  replace af_qbe : h_3.2.1 qbe = bef := (funext fun j => (hs.a (gqbe.S hM) rfl j).1).trans af_qbe
  replace hM := hM.tr (hs.mono ?o8)
  case o8 => decide
  have f_4 : h_3.2.1 x 2 = (0 : Int32) := ?o9
  case o9 =>
    rw [eh_3]
    exact hx_pi_at _ _ _ _
  have hS0 : hz_SR (hz_F1 V sz0.toInt (0 : Int32).toInt.toNat) (0 : Int32).toInt (0 : Int32).toInt bef := hz_SR_0 ?o10 ?o11
  case o10 => decide
  case o11 => decide
  refine lv_iconst (v := 0) hx hb dX7_findBest_10 ?o12 ?_
  case o12 => decide
  refine lv_istore_n (lv' := [(1, .int (0 : Int32)), (0, .ref x)]) hx hb dX7_findBest_11 rfl hl ?o13 rfl (fun ls hl => ?_)
  case o13 => decide
  have loop12 : ∀ (n12 : Nat) (iv12_1 fw12_x_2 fw12_x_1 : Int32) (ia12_qrg ia12_qbe : Nat → Int32) (H : Heap) (locs : List Loc) (hL1 : List Nat) (hl1 : hx_h), 0 ≤ iv12_1.toInt → iv12_1.toInt ≤ 40 → -2147483648 ≤ fw12_x_2.toInt → fw12_x_2.toInt ≤ 2147483647 → 0 ≤ fw12_x_1.toInt → fw12_x_1.toInt ≤ 4 → (hz_SR (hz_F1 V sz0.toInt (iv12_1.toInt).toNat) fw12_x_2.toInt fw12_x_1.toInt ia12_qbe) → (iv12_1.toInt ≤ sz0.toInt) → ∀ (ls : Array Slot), 40 - iv12_1.toInt < (n12 : Int) → hx_W T_tb (P_ty dA) (dC, dI) vwCl (hx_A L sz) s.heap hL1 hl1 s H locs → hx_T T_tb hL1 hl1 → hx_S T_tb [(7, 1), (7, 2), (37, 0), (38, 0)] L h hL1 hl1 → hl1.2.1 x 2 = fw12_x_2 → hl1.2.1 x 1 = fw12_x_1 → hl1.2.1 qrg = ia12_qrg → hl1.2.1 qbe = ia12_qbe → lv_has ls 2 [(1, .int iv12_1), (0, .ref x)] → W p l e ({ frames := 6, cells := 0, slots := 0, locals := 162 }) s m ([.ref x] : List Value).toArray below meth c H locs 0 0 (MQ below (va_Qi (fun (r : Int32) (u : List Nat × hx_h) => (∃ (bl1 : Int32) (bs1 : Int32) (bef1 : Nat → Int32), u.2.2.1 x 2 = bl1 ∧ u.2.2.1 x 1 = bs1 ∧ u.2.2.1 qbe = bef1 ∧ ((hz_SR (hz_F1 V sz0.toInt sz0.toInt.toNat) bl1.toInt bs1.toInt bef1) ∧ ((r.toInt = 1 ∧ 0 < bs1.toInt) ∨ (r.toInt = 0 ∧ ¬ 0 < bs1.toInt)))) ∧ hx_T T_tb u.1 u.2 ∧ hx_S T_tb [(7, 1), (7, 2), (37, 0), (38, 0)] L h u.1 u.2) (hx_E T_tb (P_ty dA) (dC, dI) vwCl (hx_A L sz)) (hx_A L sz)) ([.ref x] : List Value).toArray s 0 0 (hx_A L sz)) (F0 m 12 ls []) := by
    intro n12
    induction n12 with
    | zero => intro iv12_1 fw12_x_2 fw12_x_1 ia12_qrg ia12_qbe H locs hL1 hl1 bliv12_1 buiv12_1 blfw12_x_2 bufw12_x_2 blfw12_x_1 bufw12_x_1 vi12_0 vi12_1 ls hn12; exfalso; omega
    | succ n12 ih12 =>
      intro iv12_1 fw12_x_2 fw12_x_1 ia12_qrg ia12_qbe H locs hL1 hl1 bliv12_1 buiv12_1 blfw12_x_2 bufw12_x_2 blfw12_x_1 bufw12_x_1 vi12_0 vi12_1 ls hn12 hW hT hM ffw12_x_2 ffw12_x_1 nia12_qrg nia12_qbe hl
      refine lv_iload_n hx hb dX7_findBest_12 rfl (lv_at hl 0 rfl) ?_
      refine lv_aload_n hx hb dX7_findBest_13 rfl (lv_at hl 1 rfl) ?_
      refine hk_geti hx hb hts hC_7 hown hW (gx.S hM) tt_7 4 ?o14 rfl kw_317 ⟨rfl, rfl, rfl⟩ ((hM.o gx trivial rfl).1.trans f_x_4) dX7_findBest_14 ?_
      case o14 => decide
      refine hb_icmp_ge (zx := iv12_1.toInt) (zy := sz0.toInt) (tgt := 40) hx hb rfl rfl dX7_findBest_17 ?o15 (fun c_5 => ?_) (fun c_5 => ?_)
      case o15 => decide
      · skip
        have hF9 : hz_SR (hz_F1 V sz0.toInt sz0.toInt.toNat) fw12_x_2.toInt fw12_x_1.toInt ia12_qbe := ?o16
        case o16 =>
          have h9 := vi12_0
          rw [show iv12_1.toInt.toNat = sz0.toInt.toNat by omega] at h9
          exact h9
        refine lv_aload_n hx hb dX7_findBest_40 rfl (lv_at hl 1 rfl) ?_
        refine hk_geti hx hb hts hC_7 hown hW (gx.S hM) tt_7 1 ?o17 rfl kw_311 ⟨rfl, rfl, rfl⟩ ffw12_x_1 dX7_findBest_41 ?_
        case o17 => decide
        refine hb_if_le (zx := fw12_x_1.toInt) (tgt := 51) hx hb rfl dX7_findBest_44 ?o18 (fun c_6 => ?_) (fun c_6 => ?_)
        case o18 => decide
        · skip
          refine lv_iconst (v := 0) hx hb dX7_findBest_51 ?o19 ?_
          case o19 => decide
          refine hx_retz hx hb hr rfl hlk hW ⟨⟨fw12_x_2, fw12_x_1, ia12_qbe, ffw12_x_2, ffw12_x_1, nia12_qbe, ⟨hF9, (Or.inr ⟨?o20, ?o21⟩)⟩⟩, hT, hM⟩ dX7_findBest_52
          case o20 => decide
          case o21 => omega
        · skip
          refine lv_iconst (v := 1) hx hb dX7_findBest_47 ?o22 ?_
          case o22 => decide
          refine lv_goto (tgt := 52) hx hb dX7_findBest_48 ?o23 ?_
          case o23 => decide
          refine hx_retz hx hb hr rfl hlk hW ⟨⟨fw12_x_2, fw12_x_1, ia12_qbe, ffw12_x_2, ffw12_x_1, nia12_qbe, ⟨hF9, (Or.inl ⟨?o24, ?o25⟩)⟩⟩, hT, hM⟩ dX7_findBest_52
          case o24 => decide
          case o25 => omega
      · skip
        refine lv_aload_n hx hb dX7_findBest_20 rfl (lv_at hl 1 rfl) ?_
        refine hk_getr hx hb hts hC_7 hown hW (gx.S hM) tt_7 6 ?o26 rfl kw_319 ⟨rfl, rfl, rfl⟩ ((hM.o gx trivial rfl).2.trans f_x_6) dX7_findBest_21 ?_
        case o26 => decide
        refine lv_iconst (v := 0) hx hb dX7_findBest_24 ?o27 ?_
        case o27 => decide
        refine lv_iload_n hx hb dX7_findBest_25 rfl (lv_at hl 0 rfl) ?_
        have nia12_qrgO := nia12_qrg
        refine hx_iast hx hb hW hT (hx_S.rf (M := [(37, 0)])) (gqrg.S hM) tt_37 rfl ?o28 rfl ⟨?o29, ?o30⟩ (List.mem_singleton.mpr rfl) dX7_findBest_26 (fun H locs h_7 eh_7 hW hT hs => ?_)
        case o28 => decide
        case o29 => omega
        case o30 => omega
        replace ffw12_x_2 := (hs.o (gx.S hM) trivial rfl).1.trans ffw12_x_2
        replace ffw12_x_1 := (hs.o (gx.S hM) trivial rfl).1.trans ffw12_x_1
        replace nia12_qbe : h_7.2.1 qbe = ia12_qbe := (funext fun j => (hs.a (gqbe.S hM) rfl j).1).trans nia12_qbe
        replace hM := hM.tr (hs.mono ?o31)
        case o31 => decide
        obtain ⟨fa_8, dfa_8⟩ : ∃ g : Nat → Int32, g = hx_up ia12_qrg (0 : Int32).toNatClampNeg iv12_1 := ⟨_, rfl⟩
        have nfa_8 : h_7.2.1 qrg = fa_8 := ?o32
        case o32 =>
          rw [eh_7, dfa_8, ← nia12_qrgO]
          exact hx_pi_fun _ _ _ _
        have hr09 : (fa_8 0).toInt = iv12_1.toInt := ?o33
        case o33 => rw [dfa_8, show (0 : Int32).toNatClampNeg = 0 from by decide, hx_up_at]
        refine lv_aload_n hx hb dX7_findBest_27 rfl (lv_at hl 1 rfl) ?_
        refine lv_iconst (v := 1) hx hb dX7_findBest_28 ?o34 ?_
        case o34 => decide
        refine lv_ldc (v := 1000000000) hx hb hown (hts _ kw_997) dX7_findBest_29 ?_
        have zc_1000000000 : (1000000000 : Int32).toInt = 1000000000 := ?o35
        case o35 => decide
        have zc_1 : (1 : Int32).toInt = 1 := ?o36
        case o36 => decide
        refine hx_gov (hx_runV (As := [.int (1 : Int32), .int (1000000000 : Int32)]) (rest := []) ⟨hx, hb, hml, hown, hts⟩ hW (gx.S hM) tt_7 (T := TX7) (N := 8) rfl (t_X7_goOn_1v l dC dI dA hL1 h_7 H.size x (1000000000 : Int32) hT (gx.S hM) qow (gqow.S hM) ((hM.o gx trivial rfl).2.trans f_x_5) qrg (gqrg.S hM) ((hM.o gx trivial rfl).2.trans f_x_6) qbe (gqbe.S hM) ((hM.o gx trivial rfl).2.trans f_x_7) owf (hx_afS hM gqow rfl af_qow) fa_8 nfa_8 ia12_qbe nia12_qbe fw12_x_2 ffw12_x_2 fw12_x_1 ffw12_x_1 sz0 ((hM.o gx trivial rfl).1.trans f_x_4) iv12_1.toInt hr09 ⟨?o37, ?o38⟩ V hV hVb ?o39 _ vi12_0) (cwV 2 hts (hx_gV kw_1001 kw_998 kw_1000 kw_36 kw_101) rfl rfl rfl (by decide +kernel) ⟨Nat.le_of_ble_eq_true rfl, Nat.le_of_ble_eq_true rfl⟩) rfl hl.1 rfl (Nat.le_of_ble_eq_true rfl) dX7_findBest_31 ⟨Nat.le_of_ble_eq_true rfl, Nat.le_of_ble_eq_true rfl⟩) hW (fun L_9 h_10 H locs p_12 hW => ?_)
        case o37 => omega
        case o38 => omega
        case o39 => decide
        obtain ⟨⟨w_14, w_15, w_16, w_17, fw_14, fw_15, fw_16, fw_17, hr_13⟩, hT, hs⟩ := p_12
        replace hT : hx_T T_tb L_9 h_10 := hT
        replace hs : hx_S T_tb [(7, 1), (7, 2), (37, 0), (38, 0)] hL1 h_7 L_9 h_10 := hs
        replace hM := hM.tr (hs.mono ?o40)
        case o40 => decide
        have fw_14 : h_10.2.1 x 2 = w_14 := fw_14
        have bw_14 := hT.gi (gx.S hM) tt_7 (k := 2) rfl
        rw [fw_14] at bw_14
        have bw_14 : -2147483648 ≤ w_14.toInt ∧ w_14.toInt ≤ 2147483647 := bw_14
        have fw_15 : h_10.2.1 x 1 = w_15 := fw_15
        have bw_15 := hT.gi (gx.S hM) tt_7 (k := 1) rfl
        rw [fw_15] at bw_15
        have bw_15 : 0 ≤ w_15.toInt ∧ w_15.toInt ≤ 4 := bw_15
        have fw_16 : h_10.2.1 qbe = w_16 := fw_16
        have fw_17 : h_10.2.1 qrg = w_17 := fw_17
        obtain ⟨x_18, ex_18⟩ : ∃ y : Int32, y = iv12_1 + Int32.ofInt 1 := ⟨_, rfl⟩
        have rg_19 := i32_r iv12_1
        have zx_18 : x_18.toInt = iv12_1.toInt + (1) := ?o41
        case o41 =>
          rw [ex_18]
          refine i32_add rfl ?o42 ?o43 ?o44
          case o42 => decide
          case o43 => omega
          case o44 => omega
        refine lv_iinc (v := x_18) (lv' := [(1, .int x_18), (0, .ref x)]) hx hb dX7_findBest_34 hl (k := 0) rfl ex_18.symm ?o45 rfl (fun ls hl => ?_)
        case o45 => decide
        refine lv_goto (tgt := 12) hx hb dX7_findBest_37 ?o46 ?_
        case o46 => decide
        refine ih12 x_18 w_14 w_15 w_17 w_16 _ _ L_9 h_10 ?o47 ?o48 (i32_r _).1 (i32_r _).2 ?o49 ?o50 (hz_F1_s hr_13.1 ?o51 zx_18) ?o52 ls ?o53 hW hT hM fw_14 fw_15 fw_17 fw_16 (lv_sub hl [0, 1] rfl)
        case o47 => omega
        case o48 => omega
        case o49 => omega
        case o50 => omega
        case o51 => omega
        case o52 => omega
        case o53 => omega
  have zk_0 : (0 : Int32).toInt = 0 := ?o54
  case o54 => decide
  have zk_0 : (0 : Int32).toInt = 0 := ?o55
  case o55 => decide
  have zk_0 : (0 : Int32).toInt = 0 := ?o56
  case o56 => decide
  refine loop12 41 (0 : Int32) (0 : Int32) (0 : Int32) rgf bef _ _ L h_3 ?o57 ?o58 ?o59 ?o60 ?o61 ?o62 hS0 ?o63 ls ?o64 hW hT hM f_4 f_2 af_qrg af_qbe hl
  case o57 => decide
  case o58 => decide
  case o59 => decide
  case o60 => decide
  case o61 => decide
  case o62 => decide
  case o63 => omega
  case o64 => omega


set_option maxHeartbeats 4000000 in
set_option maxRecDepth 100000 in
theorem t_X7_placeAfter_v (l : Launch) (dC : Nat → ClassId) (dI : Nat → Nat → Nat) (dA : Nat → ClassId) (L : List Nat) (h : hx_h) (sz : Nat) (x : Nat) (i1 : Int32) (hT : hx_T T_tb L h) (gx : hx_g L h x 7) (bs0 : Int32) (f_x_1 : h.2.1 x 1 = bs0) (hi1 : 0 ≤ i1.toInt ∧ i1.toInt < bs0.toInt) : Met l yX7_placeAfter (Cond.code yX7_placeAfter cX7_placeAfter 2 (some .int) :: hx_all) ({ frames := 0, cells := 0, slots := 0, locals := 0 }) (va_Pc [.ref x, .int i1] (hx_B T_tb (P_ty dA) (dC, dI) vwCl L h sz)) (va_Qi (fun (r : Int32) (u : List Nat × hx_h) => (r.toInt = (i1.toInt + 1) % bs0.toInt ∧ (0 ≤ r.toInt ∧ r.toInt < bs0.toInt)) ∧ hx_T T_tb u.1 u.2 ∧ hx_S T_tb [] L h u.1 u.2) (hx_E T_tb (P_ty dA) (dC, dI) vwCl (hx_A L sz)) (hx_A L sz)) 0 0 (hx_A L sz) := by
  refine hx_met (lv := [(0, .ref x), (1, .int i1)]) (by decide +kernel) rfl (Nat.le_of_ble_eq_true rfl) rfl ?_
  intro p e s m below meth c hx hb hml hr hlk hts0 hown hin hsz hW ls hl
  have hts : ∀ w ∈ hx_all, w.before _ s = true := fun w hw => hts0 w (List.mem_cons_of_mem _ hw)
  have hown : s.vm.findClass "SmallCourt$Rings" = some m.cls := hown
  have hM : hx_S T_tb [] L h L h := hx_S.rf
  have b_bs0 := hT.gi gx tt_7 (k := 1) rfl
  rw [f_x_1] at b_bs0
  have b_bs0 : 0 ≤ bs0.toInt ∧ bs0.toInt ≤ 4 := b_bs0
  refine lv_iload_n hx hb dX7_placeAfter_0 rfl (lv_at hl 1 rfl) ?_
  refine lv_iconst (v := 1) hx hb dX7_placeAfter_1 ?o0 ?_
  case o0 => decide
  refine lv_iadd hx hb dX7_placeAfter_2 ?_
  have rg_1 := i32_r i1
  refine lv_topi (fun x_2 ex_2 => ?_)
  have zx_2 : x_2.toInt = i1.toInt + 1 := ?o1
  case o1 =>
    rw [ex_2]
    refine i32_add rfl ?o2 ?o3 ?o4
    case o2 => decide
    case o3 => omega
    case o4 => omega
  refine lv_aload_n hx hb dX7_placeAfter_3 rfl (lv_at hl 0 rfl) ?_
  refine hk_geti hx hb hts hC_7 hown hW (gx.S hM) tt_7 1 ?o5 rfl kw_311 ⟨rfl, rfl, rfl⟩ ((hM.o gx trivial rfl).1.trans f_x_1) dX7_placeAfter_4 ?_
  case o5 => decide
  refine hb_icmp_ge (zx := x_2.toInt) (zy := bs0.toInt) (tgt := 16) hx hb rfl rfl dX7_placeAfter_7 ?o6 (fun c_3 => ?_) (fun c_3 => ?_)
  case o6 => decide
  · skip
    refine lv_iconst (v := 0) hx hb dX7_placeAfter_16 ?o7 ?_
    case o7 => decide
    exact hx_reti hx hb hr hlk hW ⟨(by have zr : (0 : Int32).toInt = 0 := (by decide); exact ⟨(by have h9 := hz_pa hi1.1 hi1.2; rw [h9.2 (by omega)]; exact zr), by omega, by omega⟩), hT, hM⟩ dX7_placeAfter_17
  · skip
    refine lv_iload_n hx hb dX7_placeAfter_10 rfl (lv_at hl 1 rfl) ?_
    refine lv_iconst (v := 1) hx hb dX7_placeAfter_11 ?o8 ?_
    case o8 => decide
    refine lv_iadd hx hb dX7_placeAfter_12 ?_
    refine lv_topi (fun x_4 ex_4 => ?_)
    have zx_4 : x_4.toInt = i1.toInt + 1 := ?o9
    case o9 =>
      rw [ex_4]
      refine i32_add rfl ?o10 ?o11 ?o12
      case o10 => decide
      case o11 => omega
      case o12 => omega
    refine lv_goto (tgt := 17) hx hb dX7_placeAfter_13 ?o13 ?_
    case o13 => decide
    refine hx_reti hx hb hr hlk hW ⟨⟨(by have h9 := hz_pa hi1.1 hi1.2; rw [h9.1 (by omega)]; omega), ?o14, ?o15⟩, hT, hM⟩ dX7_placeAfter_17
    case o14 => omega
    case o15 => omega


set_option maxHeartbeats 4000000 in
set_option maxRecDepth 100000 in
theorem t_X7_isDebt_v (l : Launch) (dC : Nat → ClassId) (dI : Nat → Nat → Nat) (dA : Nat → ClassId) (L : List Nat) (h : hx_h) (sz : Nat) (x : Nat) (i1 : Int32) (v1 : Nat) (hT : hx_T T_tb L h) (gx : hx_g L h x 7) (gv1 : hx_g L h v1 2) (qbe : Nat) (gqbe : hx_g L h qbe 38) (f_x_7 : h.2.2 x 7 = some qbe) (qd : Nat) (gqd : hx_g L h qd 4) (f_v1_2 : h.2.2 v1 2 = some qd) (qp9 : Nat) (gqp9 : hx_g L h qp9 4) (f_v1_1 : h.2.2 v1 1 = some qp9) (bef : Nat → Int32) (af_qbe : h.2.1 qbe = bef) (bs0 : Int32) (f_x_1 : h.2.1 x 1 = bs0) (dn : Int32) (f_qd_0 : h.2.1 qd 0 = dn) (pn : Int32) (f_qp9_0 : h.2.1 qp9 0 = pn) (hi1 : 0 ≤ i1.toInt ∧ i1.toInt < bs0.toInt) : Met l yX7_isDebt (Cond.code yX7_isDebt cX7_isDebt 3 (some .boolean) :: hx_all) ({ frames := 1, cells := 0, slots := 0, locals := 21 }) (va_Pc [.ref x, .int i1, .ref v1] (hx_B T_tb (P_ty dA) (dC, dI) vwCl L h sz)) (va_Qi (fun (r : Int32) (u : List Nat × hx_h) => ((r.toInt = 1 ∧ (dn.toInt = (bef i1.toInt.toNat).toInt ∧ pn.toInt = (bef ((i1.toInt + 1) % bs0.toInt).toNat).toInt)) ∨ (r.toInt = 0 ∧ ¬ (dn.toInt = (bef i1.toInt.toNat).toInt ∧ pn.toInt = (bef ((i1.toInt + 1) % bs0.toInt).toNat).toInt))) ∧ hx_T T_tb u.1 u.2 ∧ hx_S T_tb [] L h u.1 u.2) (hx_E T_tb (P_ty dA) (dC, dI) vwCl (hx_A L sz)) (hx_A L sz)) 0 0 (hx_A L sz) := by
  refine hx_met (lv := [(0, .ref x), (1, .int i1), (2, .ref v1)]) (by decide +kernel) rfl (Nat.le_of_ble_eq_true rfl) rfl ?_
  intro p e s m below meth c hx hb hml hr hlk hts0 hown hin hsz hW ls hl
  have hts : ∀ w ∈ hx_all, w.before _ s = true := fun w hw => hts0 w (List.mem_cons_of_mem _ hw)
  have hown : s.vm.findClass "SmallCourt$Rings" = some m.cls := hown
  have hM : hx_S T_tb [] L h L h := hx_S.rf
  have b_bs0 := hT.gi gx tt_7 (k := 1) rfl
  rw [f_x_1] at b_bs0
  have b_bs0 : 0 ≤ bs0.toInt ∧ bs0.toInt ≤ 4 := b_bs0
  have b_dn := hT.gi gqd tt_4 (k := 0) rfl
  rw [f_qd_0] at b_dn
  have b_dn : 0 ≤ dn.toInt ∧ dn.toInt ≤ 39 := b_dn
  have b_pn := hT.gi gqp9 tt_4 (k := 0) rfl
  rw [f_qp9_0] at b_pn
  have b_pn : 0 ≤ pn.toInt ∧ pn.toInt ≤ 39 := b_pn
  refine lv_aload_n hx hb dX7_isDebt_0 rfl (lv_at hl 2 rfl) ?_
  refine hk_getr hx hb hts hC_2 hown hW (gv1.S hM) tt_2 2 ?o0 rfl kw_731 ⟨rfl, rfl, rfl⟩ ((hM.o gv1 trivial rfl).2.trans f_v1_2) dX7_isDebt_1 ?_
  case o0 => decide
  refine hk_geti hx hb hts hC_4 hown hW (gqd.S hM) tt_4 0 ?o1 rfl kw_611 ⟨rfl, rfl, rfl⟩ ((hM.o gqd trivial rfl).1.trans f_qd_0) dX7_isDebt_4 ?_
  case o1 => decide
  refine lv_aload_n hx hb dX7_isDebt_7 rfl (lv_at hl 0 rfl) ?_
  refine hk_getr hx hb hts hC_7 hown hW (gx.S hM) tt_7 7 ?o2 rfl kw_320 ⟨rfl, rfl, rfl⟩ ((hM.o gx trivial rfl).2.trans f_x_7) dX7_isDebt_8 ?_
  case o2 => decide
  refine lv_iload_n hx hb dX7_isDebt_11 rfl (lv_at hl 1 rfl) ?_
  refine hx_iald hx hb hW hT (gqbe.S hM) tt_38 rfl ⟨?o3, ?o4⟩ dX7_isDebt_12 (fun x_1 ex_1 lx_1 ux_1 => ?_)
  case o3 => omega
  case o4 => omega
  have ax_1 : x_1 = bef i1.toNatClampNeg := ex_1.trans (congrFun (hx_afS hM gqbe rfl af_qbe) _)
  refine hb_icmp_ne (zx := dn.toInt) (zy := x_1.toInt) (tgt := 40) hx hb rfl rfl dX7_isDebt_13 ?o5 (fun c_2 => ?_) (fun c_2 => ?_)
  case o5 => decide
  · skip
    refine lv_iconst (v := 0) hx hb dX7_isDebt_40 ?o6 ?_
    case o6 => decide
    refine hx_retz hx hb hr rfl hlk hW ⟨(Or.inr ⟨?o7, fun hc => by have h9 := hc.1; rw [show bef i1.toInt.toNat = x_1 from ax_1.symm] at h9; omega⟩), hT, hM⟩ dX7_isDebt_41
    case o7 => decide
  · skip
    refine lv_aload_n hx hb dX7_isDebt_16 rfl (lv_at hl 2 rfl) ?_
    refine hk_getr hx hb hts hC_2 hown hW (gv1.S hM) tt_2 1 ?o8 rfl kw_727 ⟨rfl, rfl, rfl⟩ ((hM.o gv1 trivial rfl).2.trans f_v1_1) dX7_isDebt_17 ?_
    case o8 => decide
    refine hk_geti hx hb hts hC_4 hown hW (gqp9.S hM) tt_4 0 ?o9 rfl kw_611 ⟨rfl, rfl, rfl⟩ ((hM.o gqp9 trivial rfl).1.trans f_qp9_0) dX7_isDebt_20 ?_
    case o9 => decide
    refine lv_aload_n hx hb dX7_isDebt_23 rfl (lv_at hl 0 rfl) ?_
    refine hk_getr hx hb hts hC_7 hown hW (gx.S hM) tt_7 7 ?o10 rfl kw_320 ⟨rfl, rfl, rfl⟩ ((hM.o gx trivial rfl).2.trans f_x_7) dX7_isDebt_24 ?_
    case o10 => decide
    refine lv_aload_n hx hb dX7_isDebt_27 rfl (lv_at hl 0 rfl) ?_
    refine lv_iload_n hx hb dX7_isDebt_28 rfl (lv_at hl 1 rfl) ?_
    refine hx_goi (hx_runV (As := [.int i1]) (rest := [.ref qbe, .int pn]) ⟨hx, hb, hml, hown, hts⟩ hW (gx.S hM) tt_7 (T := TX7) (N := 8) rfl (t_X7_placeAfter_v l dC dI dA L h s.heap.size x i1 hT (gx.S hM) bs0 ((hM.o gx trivial rfl).1.trans f_x_1) ⟨?o11, ?o12⟩) (cwV 1 hts (hx_gV kw_1023 kw_1020 kw_1022 kw_40 kw_101) rfl rfl rfl (by decide +kernel) ⟨Nat.le_of_ble_eq_true rfl, Nat.le_of_ble_eq_true rfl⟩) rfl hl.1 rfl (Nat.le_of_ble_eq_true rfl) dX7_isDebt_29 ⟨Nat.le_of_ble_eq_true rfl, Nat.le_of_ble_eq_true rfl⟩) hW (fun r_5 L_3 h_4 H locs p_6 hW => ?_)
    case o11 => omega
    case o12 => omega
    obtain ⟨hr_7, hT, hs⟩ := p_6
    replace hT : hx_T T_tb L_3 h_4 := hT
    replace hs : hx_S T_tb [] L h L_3 h_4 := hs
    replace ex_1 := ex_1.trans (hs.a (gqbe.S hM) rfl _).1.symm
    replace hM := hM.tr (hs.mono ?o13)
    case o13 => decide
    refine hx_iald hx hb hW hT (gqbe.S hM) tt_38 rfl ⟨?o14, ?o15⟩ dX7_isDebt_32 (fun x_8 ex_8 lx_8 ux_8 => ?_)
    case o14 => omega
    case o15 => omega
    have ax_8 : x_8 = bef r_5.toNatClampNeg := ex_8.trans (congrFun (hx_afS hM gqbe rfl af_qbe) _)
    refine hb_icmp_ne (zx := pn.toInt) (zy := x_8.toInt) (tgt := 40) hx hb rfl rfl dX7_isDebt_33 ?o16 (fun c_9 => ?_) (fun c_9 => ?_)
    case o16 => decide
    · skip
      refine lv_iconst (v := 0) hx hb dX7_isDebt_40 ?o17 ?_
      case o17 => decide
      refine hx_retz hx hb hr rfl hlk hW ⟨(Or.inr ⟨?o18, fun hc => by have h9 := hc.2; rw [← hr_7.1, show bef r_5.toInt.toNat = x_8 from ax_8.symm] at h9; omega⟩), hT, hM⟩ dX7_isDebt_41
      case o18 => decide
    · skip
      refine lv_iconst (v := 1) hx hb dX7_isDebt_36 ?o19 ?_
      case o19 => decide
      refine lv_goto (tgt := 41) hx hb dX7_isDebt_37 ?o20 ?_
      case o20 => decide
      refine hx_retz hx hb hr rfl hlk hW ⟨(Or.inl ⟨?o21, (by rw [show bef i1.toInt.toNat = x_1 from ax_1.symm]; omega), (by rw [← hr_7.1, show bef r_5.toInt.toNat = x_8 from ax_8.symm]; omega)⟩), hT, hM⟩ dX7_isDebt_41
      case o21 => decide


set_option maxHeartbeats 4000000 in
set_option maxRecDepth 100000 in
theorem t_X7_takeOff_v (l : Launch) (dC : Nat → ClassId) (dI : Nat → Nat → Nat) (dA : Nat → ClassId) (L : List Nat) (h : hx_h) (sz : Nat) (x : Nat) (hT : hx_T T_tb L h) (gx : hx_g L h x 7) (qow : Nat) (gqow : hx_g L h qow 36) (f_x_5 : h.2.2 x 5 = some qow) (qbe : Nat) (gqbe : hx_g L h qbe 38) (f_x_7 : h.2.2 x 7 = some qbe) (qls : Nat) (gqls : hx_g L h qls 35) (f_x_3 : h.2.2 x 3 = some qls) (owf : Nat → Int32) (af_qow : h.2.1 qow = owf) (bef : Nat → Int32) (af_qbe : h.2.1 qbe = bef) (lsf : Nat → Int32) (af_qls : h.2.1 qls = lsf) (bl0 : Int32) (f_x_2 : h.2.1 x 2 = bl0) (bs0 : Int32) (f_x_1 : h.2.1 x 1 = bs0) (ct0 : Int32) (f_x_0 : h.2.1 x 0 = ct0) (V : Int → Int) (g : Nat → Int) (hT0 : hz_DT owf V g bs0.toInt bl0.toInt 0) (gb : ∀ i : Nat, (i : Int) < bs0.toInt → 0 ≤ g i ∧ g i < 40) (gd : ∀ i j : Nat, (i : Int) < bs0.toInt → (j : Int) < bs0.toInt → i ≠ j → g i ≠ g j) (hVl : ∀ i : Nat, (i : Int) < bs0.toInt → bl0.toInt ≤ V (40 * g i + g (((i : Int) + 1) % bs0.toInt).toNat) ∧ V (40 * g i + g (((i : Int) + 1) % bs0.toInt).toNat) ≤ 2147483647) (hbe : ∀ i : Nat, (i : Int) < bs0.toInt → (bef i).toInt = g i) (hl0 : 0 ≤ bl0.toInt) (hct : 0 ≤ ct0.toInt ∧ ct0.toInt < 100) : Met l yX7_takeOff (Cond.code yX7_takeOff cX7_takeOff 2 none :: hx_all) ({ frames := 1, cells := 0, slots := 0, locals := 21 }) (va_Pc [.ref x] (hx_B T_tb (P_ty dA) (dC, dI) vwCl L h sz)) (va_Qv (fun (u : List Nat × hx_h) => (∃ (owf1 : Nat → Int32) (ct1 : Int32) (lsf1 : Nat → Int32), u.2.2.1 qow = owf1 ∧ u.2.2.1 x 0 = ct1 ∧ u.2.2.1 qls = lsf1 ∧ (hz_DT owf1 V g bs0.toInt bl0.toInt bs0.toInt.toNat ∧ ct1.toInt = ct0.toInt + 1 ∧ lsf1 = hx_up lsf ct0.toInt.toNat bl0)) ∧ hx_T T_tb u.1 u.2 ∧ hx_S T_tb [(7, 0), (35, 0), (36, 0)] L h u.1 u.2) (hx_E T_tb (P_ty dA) (dC, dI) vwCl (hx_A L sz)) (hx_A L sz)) 0 0 (hx_A L sz) := by
  refine hx_met (lv := [(0, .ref x)]) (by decide +kernel) rfl (Nat.le_of_ble_eq_true rfl) rfl ?_
  intro p e s m below meth c hx hb hml hr hlk hts0 hown hin hsz hW ls hl
  have hts : ∀ w ∈ hx_all, w.before _ s = true := fun w hw => hts0 w (List.mem_cons_of_mem _ hw)
  have hown : s.vm.findClass "SmallCourt$Rings" = some m.cls := hown
  have hM : hx_S T_tb [(7, 0), (35, 0), (36, 0)] L h L h := hx_S.rf
  have b_bl0 := hT.gi gx tt_7 (k := 2) rfl
  rw [f_x_2] at b_bl0
  have b_bl0 : -2147483648 ≤ bl0.toInt ∧ bl0.toInt ≤ 2147483647 := b_bl0
  have b_bs0 := hT.gi gx tt_7 (k := 1) rfl
  rw [f_x_1] at b_bs0
  have b_bs0 : 0 ≤ bs0.toInt ∧ bs0.toInt ≤ 4 := b_bs0
  have b_ct0 := hT.gi gx tt_7 (k := 0) rfl
  rw [f_x_0] at b_ct0
  have b_ct0 : -1 ≤ ct0.toInt ∧ ct0.toInt ≤ 100 := b_ct0
  refine lv_iconst (v := 0) hx hb dX7_takeOff_0 ?o0 ?_
  case o0 => decide
  refine lv_istore_n (lv' := [(1, .int (0 : Int32)), (0, .ref x)]) hx hb dX7_takeOff_1 rfl hl ?o1 rfl (fun ls hl => ?_)
  case o1 => decide
  have loop2 : ∀ (n2 : Nat) (iv2_1 : Int32) (ia2_qow : Nat → Int32) (H : Heap) (locs : List Loc) (hL1 : List Nat) (hl1 : hx_h), 0 ≤ iv2_1.toInt → iv2_1.toInt ≤ 4 → (hz_DT ia2_qow V g bs0.toInt bl0.toInt (iv2_1.toInt).toNat) → (iv2_1.toInt ≤ bs0.toInt) → ∀ (ls : Array Slot), 4 - iv2_1.toInt < (n2 : Int) → hx_W T_tb (P_ty dA) (dC, dI) vwCl (hx_A L sz) s.heap hL1 hl1 s H locs → hx_T T_tb hL1 hl1 → hx_S T_tb [(7, 0), (35, 0), (36, 0)] L h hL1 hl1 → hl1.2.1 x 0 = ct0 → hl1.2.1 qow = ia2_qow → hl1.2.1 qls = lsf → lv_has ls 2 [(1, .int iv2_1), (0, .ref x)] → W p l e ({ frames := 1, cells := 0, slots := 0, locals := 21 }) s m ([.ref x] : List Value).toArray below meth c H locs 0 0 (MQ below (va_Qv (fun (u : List Nat × hx_h) => (∃ (owf1 : Nat → Int32) (ct1 : Int32) (lsf1 : Nat → Int32), u.2.2.1 qow = owf1 ∧ u.2.2.1 x 0 = ct1 ∧ u.2.2.1 qls = lsf1 ∧ (hz_DT owf1 V g bs0.toInt bl0.toInt bs0.toInt.toNat ∧ ct1.toInt = ct0.toInt + 1 ∧ lsf1 = hx_up lsf ct0.toInt.toNat bl0)) ∧ hx_T T_tb u.1 u.2 ∧ hx_S T_tb [(7, 0), (35, 0), (36, 0)] L h u.1 u.2) (hx_E T_tb (P_ty dA) (dC, dI) vwCl (hx_A L sz)) (hx_A L sz)) ([.ref x] : List Value).toArray s 0 0 (hx_A L sz)) (F0 m 2 ls []) := by
    intro n2
    induction n2 with
    | zero => intro iv2_1 ia2_qow H locs hL1 hl1 bliv2_1 buiv2_1 vi2_0 vi2_1 ls hn2; exfalso; omega
    | succ n2 ih2 =>
      intro iv2_1 ia2_qow H locs hL1 hl1 bliv2_1 buiv2_1 vi2_0 vi2_1 ls hn2 hW hT hM f_x_0 nia2_qow af_qls hl
      refine lv_iload_n hx hb dX7_takeOff_2 rfl (lv_at hl 0 rfl) ?_
      refine lv_aload_n hx hb dX7_takeOff_3 rfl (lv_at hl 1 rfl) ?_
      refine hk_geti hx hb hts hC_7 hown hW (gx.S hM) tt_7 1 ?o2 rfl kw_311 ⟨rfl, rfl, rfl⟩ ((hM.o gx trivial rfl).1.trans f_x_1) dX7_takeOff_4 ?_
      case o2 => decide
      refine hb_icmp_ge (zx := iv2_1.toInt) (zy := bs0.toInt) (tgt := 48) hx hb rfl rfl dX7_takeOff_7 ?o3 (fun c_1 => ?_) (fun c_1 => ?_)
      case o3 => decide
      · skip
        refine lv_aload_n hx hb dX7_takeOff_48 rfl (lv_at hl 1 rfl) ?_
        refine hk_geti hx hb hts hC_7 hown hW (gx.S hM) tt_7 0 ?o4 rfl kw_309 ⟨rfl, rfl, rfl⟩ f_x_0 dX7_takeOff_49 ?_
        case o4 => decide
        refine hb_if_lt (zx := ct0.toInt) (tgt := 87) hx hb rfl dX7_takeOff_52 ?o5 (fun c_2 => ?o6) (fun c_2 => ?_)
        case o5 => decide
        case o6 =>
          exfalso
          omega
        refine lv_aload_n hx hb dX7_takeOff_55 rfl (lv_at hl 1 rfl) ?_
        refine hk_geti hx hb hts hC_7 hown hW (gx.S hM) tt_7 0 ?o7 rfl kw_309 ⟨rfl, rfl, rfl⟩ f_x_0 dX7_takeOff_56 ?_
        case o7 => decide
        refine lv_bipush (v := 100) hx hb dX7_takeOff_59 ?o8 ?_
        case o8 => decide
        refine hb_icmp_ge (zx := ct0.toInt) (zy := 100) (tgt := 87) hx hb rfl ?o9 dX7_takeOff_61 ?o10 (fun c_3 => ?o11) (fun c_3 => ?_)
        case o9 => decide
        case o10 => decide
        case o11 =>
          exfalso
          omega
        refine lv_aload_n hx hb dX7_takeOff_64 rfl (lv_at hl 1 rfl) ?_
        refine hk_getr hx hb hts hC_7 hown hW (gx.S hM) tt_7 3 ?o12 rfl kw_315 ⟨rfl, rfl, rfl⟩ ((hM.o gx trivial rfl).2.trans f_x_3) dX7_takeOff_65 ?_
        case o12 => decide
        refine lv_aload_n hx hb dX7_takeOff_68 rfl (lv_at hl 1 rfl) ?_
        refine hk_geti hx hb hts hC_7 hown hW (gx.S hM) tt_7 0 ?o13 rfl kw_309 ⟨rfl, rfl, rfl⟩ f_x_0 dX7_takeOff_69 ?_
        case o13 => decide
        refine lv_aload_n hx hb dX7_takeOff_72 rfl (lv_at hl 1 rfl) ?_
        refine hk_geti hx hb hts hC_7 hown hW (gx.S hM) tt_7 2 ?o14 rfl kw_313 ⟨rfl, rfl, rfl⟩ ((hM.o gx trivial rfl).1.trans f_x_2) dX7_takeOff_73 ?_
        case o14 => decide
        have af_qlsO := af_qls
        refine hx_iast hx hb hW hT (hx_S.rf (M := [(35, 0)])) (gqls.S hM) tt_35 rfl ⟨?o15, ?o16⟩ rfl (i32_r _) (List.mem_singleton.mpr rfl) dX7_takeOff_76 (fun H locs h_4 eh_4 hW hT hs => ?_)
        case o15 => omega
        case o16 => omega
        replace f_x_0 := (hs.o (gx.S hM) trivial rfl).1.trans f_x_0
        replace nia2_qow : h_4.2.1 qow = ia2_qow := (funext fun j => (hs.a (gqow.S hM) rfl j).1).trans nia2_qow
        replace hM := hM.tr (hs.mono ?o17)
        case o17 => decide
        obtain ⟨fa_5, dfa_5⟩ : ∃ g : Nat → Int32, g = hx_up lsf ct0.toNatClampNeg bl0 := ⟨_, rfl⟩
        have nfa_5 : h_4.2.1 qls = fa_5 := ?o18
        case o18 =>
          rw [eh_4, dfa_5, ← af_qlsO]
          exact hx_pi_fun _ _ _ _
        refine lv_aload_n hx hb dX7_takeOff_77 rfl (lv_at hl 1 rfl) ?_
        refine lv_dup hx hb dX7_takeOff_78 rfl ?_
        refine hk_geti hx hb hts hC_7 hown hW (gx.S hM) tt_7 0 ?o19 rfl kw_309 ⟨rfl, rfl, rfl⟩ f_x_0 dX7_takeOff_79 ?_
        case o19 => decide
        refine lv_iconst (v := 1) hx hb dX7_takeOff_82 ?o20 ?_
        case o20 => decide
        refine lv_iadd hx hb dX7_takeOff_83 ?_
        have rg_6 := i32_r ct0
        refine lv_topi (fun x_7 ex_7 => ?_)
        have zx_7 : x_7.toInt = ct0.toInt + 1 := ?o21
        case o21 =>
          rw [ex_7]
          refine i32_add rfl ?o22 ?o23 ?o24
          case o22 => decide
          case o23 => omega
          case o24 => omega
        refine hx_puti hx hb hts hC_7 hown hW hT (hx_S.rf (M := [(7, 0)])) (gx.S hM) tt_7 0 ?o25 rfl kw_309 ⟨rfl, rfl, rfl⟩ rfl (x := x_7) ⟨?o26, ?o27⟩ rfl rfl rfl (List.mem_singleton.mpr rfl) dX7_takeOff_84 (fun H locs h_8 eh_8 hW hT hs => ?_)
        case o25 => decide
        case o26 => omega
        case o27 => omega
        replace nia2_qow : h_8.2.1 qow = ia2_qow := (funext fun j => (hs.a (gqow.S hM) rfl j).1).trans nia2_qow
        replace nfa_5 : h_8.2.1 qls = fa_5 := (funext fun j => (hs.a (gqls.S hM) rfl j).1).trans nfa_5
        replace hM := hM.tr (hs.mono ?o28)
        case o28 => decide
        have f_9 : h_8.2.1 x 0 = x_7 := ?o29
        case o29 =>
          rw [eh_8]
          exact hx_pi_at _ _ _ _
        refine hx_retv hx hb hr hlk hW ⟨⟨ia2_qow, x_7, fa_5, nia2_qow, f_9, nfa_5, ⟨(by have h9 := vi2_0; rw [show iv2_1.toInt.toNat = bs0.toInt.toNat by omega] at h9; exact h9), ?o30, dfa_5⟩⟩, hT, hM⟩ dX7_takeOff_87
        case o30 => omega
      · skip
        refine lv_aload_n hx hb dX7_takeOff_10 rfl (lv_at hl 1 rfl) ?_
        refine hk_getr hx hb hts hC_7 hown hW (gx.S hM) tt_7 5 ?o31 rfl kw_318 ⟨rfl, rfl, rfl⟩ ((hM.o gx trivial rfl).2.trans f_x_5) dX7_takeOff_11 ?_
        case o31 => decide
        refine lv_aload_n hx hb dX7_takeOff_14 rfl (lv_at hl 1 rfl) ?_
        refine hk_getr hx hb hts hC_7 hown hW (gx.S hM) tt_7 7 ?o32 rfl kw_320 ⟨rfl, rfl, rfl⟩ ((hM.o gx trivial rfl).2.trans f_x_7) dX7_takeOff_15 ?_
        case o32 => decide
        refine lv_iload_n hx hb dX7_takeOff_18 rfl (lv_at hl 0 rfl) ?_
        refine hx_iald hx hb hW hT (gqbe.S hM) tt_38 rfl ⟨?o33, ?o34⟩ dX7_takeOff_19 (fun x_10 ex_10 lx_10 ux_10 => ?_)
        case o33 => omega
        case o34 => omega
        have ax_10 : x_10 = bef iv2_1.toNatClampNeg := ex_10.trans (congrFun (hx_afS hM gqbe rfl af_qbe) _)
        refine lv_bipush (v := 40) hx hb dX7_takeOff_20 ?o35 ?_
        case o35 => decide
        refine lv_imul hx hb dX7_takeOff_22 ?_
        refine lv_topi (fun x_11 ex_11 => ?_)
        have zx_11 : x_11.toInt = x_10.toInt * 40 := ?o36
        case o36 =>
          rw [ex_11]
          refine i32_mul rfl ?o37 rfl ?o38 ?o39
          case o37 => decide
          case o38 => omega
          case o39 => omega
        refine lv_aload_n hx hb dX7_takeOff_23 rfl (lv_at hl 1 rfl) ?_
        refine hk_getr hx hb hts hC_7 hown hW (gx.S hM) tt_7 7 ?o40 rfl kw_320 ⟨rfl, rfl, rfl⟩ ((hM.o gx trivial rfl).2.trans f_x_7) dX7_takeOff_24 ?_
        case o40 => decide
        refine lv_aload_n hx hb dX7_takeOff_27 rfl (lv_at hl 1 rfl) ?_
        refine lv_iload_n hx hb dX7_takeOff_28 rfl (lv_at hl 0 rfl) ?_
        refine hx_goi (hx_runV (As := [.int iv2_1]) (rest := [.ref qbe, .int x_11, .ref qow]) ⟨hx, hb, hml, hown, hts⟩ hW (gx.S hM) tt_7 (T := TX7) (N := 8) rfl (t_X7_placeAfter_v l dC dI dA hL1 hl1 H.size x iv2_1 hT (gx.S hM) bs0 ((hM.o gx trivial rfl).1.trans f_x_1) ⟨?o41, ?o42⟩) (cwV 1 hts (hx_gV kw_1023 kw_1020 kw_1022 kw_40 kw_101) rfl rfl rfl (by decide +kernel) ⟨Nat.le_of_ble_eq_true rfl, Nat.le_of_ble_eq_true rfl⟩) rfl hl.1 rfl (Nat.le_of_ble_eq_true rfl) dX7_takeOff_29 ⟨Nat.le_of_ble_eq_true rfl, Nat.le_of_ble_eq_true rfl⟩) hW (fun r_14 L_12 h_13 H locs p_15 hW => ?_)
        case o41 => omega
        case o42 => omega
        obtain ⟨hr_16, hT, hs⟩ := p_15
        replace hT : hx_T T_tb L_12 h_13 := hT
        replace hs : hx_S T_tb [] hL1 hl1 L_12 h_13 := hs
        replace f_x_0 := (hs.o (gx.S hM) trivial rfl).1.trans f_x_0
        replace af_qls : h_13.2.1 qls = lsf := (funext fun j => (hs.a (gqls.S hM) rfl j).1).trans af_qls
        replace nia2_qow : h_13.2.1 qow = ia2_qow := (funext fun j => (hs.a (gqow.S hM) rfl j).1).trans nia2_qow
        replace ex_10 := ex_10.trans (hs.a (gqbe.S hM) rfl _).1.symm
        replace hM := hM.tr (hs.mono ?o43)
        case o43 => decide
        refine hx_iald hx hb hW hT (gqbe.S hM) tt_38 rfl ⟨?o44, ?o45⟩ dX7_takeOff_32 (fun x_17 ex_17 lx_17 ux_17 => ?_)
        case o44 => omega
        case o45 => omega
        have ax_17 : x_17 = bef r_14.toNatClampNeg := ex_17.trans (congrFun (hx_afS hM gqbe rfl af_qbe) _)
        refine lv_iadd hx hb dX7_takeOff_33 ?_
        have rg_18 := i32_r x_11
        have rg_19 := i32_r x_17
        refine lv_topi (fun x_20 ex_20 => ?_)
        have zx_20 : x_20.toInt = x_11.toInt + x_17.toInt := ?o46
        case o46 =>
          rw [ex_20]
          refine i32_add rfl rfl ?o47 ?o48
          case o47 => omega
          case o48 => omega
        refine lv_dup2_11 hx hb dX7_takeOff_34 rfl rfl ?_
        refine hx_iald hx hb hW hT (gqow.S hM) tt_36 rfl ⟨?o49, ?o50⟩ dX7_takeOff_35 (fun x_21 ex_21 lx_21 ux_21 => ?_)
        case o49 => omega
        case o50 => omega
        have ax_21 : x_21 = ia2_qow x_20.toNatClampNeg := ex_21.trans (congrFun nia2_qow _)
        refine lv_aload_n hx hb dX7_takeOff_36 rfl (lv_at hl 1 rfl) ?_
        refine hk_geti hx hb hts hC_7 hown hW (gx.S hM) tt_7 2 ?o51 rfl kw_313 ⟨rfl, rfl, rfl⟩ ((hM.o gx trivial rfl).1.trans f_x_2) dX7_takeOff_37 ?_
        case o51 => decide
        refine lv_isub hx hb dX7_takeOff_40 ?_
        have rg_22 := i32_r x_21
        have rg_23 := i32_r bl0
        refine lv_topi (fun x_24 ex_24 => ?_)
        have nia2_qowO := nia2_qow
        refine hx_iast hx hb hW hT (hx_S.rf (M := [(36, 0)])) (gqow.S hM) tt_36 rfl ⟨?o52, ?o53⟩ rfl (i32_r _) (List.mem_singleton.mpr rfl) dX7_takeOff_41 (fun H locs h_25 eh_25 hW hT hs => ?_)
        case o52 => omega
        case o53 => omega
        replace f_x_0 := (hs.o (gx.S hM) trivial rfl).1.trans f_x_0
        replace af_qls : h_25.2.1 qls = lsf := (funext fun j => (hs.a (gqls.S hM) rfl j).1).trans af_qls
        replace ex_10 := ex_10.trans (hs.a (gqbe.S hM) rfl _).1.symm
        replace ex_17 := ex_17.trans (hs.a (gqbe.S hM) rfl _).1.symm
        replace hM := hM.tr (hs.mono ?o54)
        case o54 => decide
        obtain ⟨fa_26, dfa_26⟩ : ∃ g : Nat → Int32, g = hx_up ia2_qow x_20.toNatClampNeg x_24 := ⟨_, rfl⟩
        have nfa_26 : h_25.2.1 qow = fa_26 := ?o55
        case o55 =>
          rw [eh_25, dfa_26, ← nia2_qowO]
          exact hx_pi_fun _ _ _ _
        obtain ⟨x_27, ex_27⟩ : ∃ y : Int32, y = iv2_1 + Int32.ofInt 1 := ⟨_, rfl⟩
        have rg_28 := i32_r iv2_1
        have zx_27 : x_27.toInt = iv2_1.toInt + (1) := ?o56
        case o56 =>
          rw [ex_27]
          refine i32_add rfl ?o57 ?o58 ?o59
          case o57 => decide
          case o58 => omega
          case o59 => omega
        refine lv_iinc (v := x_27) (lv' := [(1, .int x_27), (0, .ref x)]) hx hb dX7_takeOff_42 hl (k := 0) rfl ex_27.symm ?o60 rfl (fun ls hl => ?_)
        case o60 => decide
        refine lv_goto (tgt := 2) hx hb dX7_takeOff_45 ?o61 ?_
        case o61 => decide
        have hk9 : ((iv2_1.toInt.toNat : Nat) : Int) = iv2_1.toInt := ?o62
        case o62 => omega
        have hg1 : x_10.toInt = g iv2_1.toInt.toNat := ?o63
        case o63 =>
          rw [ax_10]
          exact hbe _ (by unfold Int32.toNatClampNeg; omega)
        have hg2 : x_17.toInt = g ((iv2_1.toInt + 1) % bs0.toInt).toNat := ?o64
        case o64 =>
          rw [ax_17, ← hr_16.1]
          exact hbe _ (by unfold Int32.toNatClampNeg; omega)
        have hvl9 := hVl iv2_1.toInt.toNat (by omega); rw [hk9] at hvl9
        refine ih2 x_27 fa_26 _ _ L_12 h_25 ?o65 ?o66 (hz_DT_s vi2_0 ?o67 ?o68 hl0 rfl gb gd hvl9.1 hvl9.2 (by rw [← hg1, ← hg2]; unfold Int32.toNatClampNeg; omega) (by rw [ex_24, ax_21]) dfa_26 zx_27) ?o69 ls ?o70 hW hT hM f_x_0 nfa_26 af_qls (lv_sub hl [0, 1] rfl)
        case o65 => omega
        case o66 => omega
        case o67 => omega
        case o68 => omega
        case o69 => omega
        case o70 => omega
  have zk_0 : (0 : Int32).toInt = 0 := ?o71
  case o71 => decide
  refine loop2 5 (0 : Int32) owf _ _ L h ?o72 ?o73 (by rw [zk_0]; exact hT0) ?o74 ls ?o75 hW hT hM f_x_0 af_qow af_qls hl
  case o72 => decide
  case o73 => decide
  case o74 => omega
  case o75 => omega
end
