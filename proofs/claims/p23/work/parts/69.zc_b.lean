/-! NETTED: what is taken off, as both sides take it -/
abbrev hz_P := (Nat → Int32) × (Nat → Int32) × (Nat → Int32) × (Nat → Int32) × (Nat → Int32) × Nat
def hz_ap (P : hz_P) (c s now : Int32) : hz_P := (hx_up P.1 P.2.2.2.2.2 c, hx_up P.2.1 P.2.2.2.2.2 now, hx_up P.2.2.1 P.2.2.2.2.2 s, hx_up P.2.2.2.1 P.2.2.2.2.2 now, hx_up P.2.2.2.2.1 P.2.2.2.2.2 (-1), P.2.2.2.2.2 + 1)
def hz_nP (P : hz_P) : Nat := P.2.2.2.2.2
def hz_mt (ag bf : Nat → Int32) (q p : Int) (c : Nat) : Bool := decide ((ag c).toInt = q) && decide ((bf c).toInt = p)
theorem hz_mt_t {ag bf : Nat → Int32} {q p : Int} {c : Nat} : hz_mt ag bf q p c = true ↔ (ag c).toInt = q ∧ (bf c).toInt = p := by unfold hz_mt; rw [Bool.and_eq_true, decide_eq_true_iff, decide_eq_true_iff]
theorem hz_mt_f {ag bf : Nat → Int32} {q p : Int} {c : Nat} (h : ¬ ((ag c).toInt = q ∧ (bf c).toInt = p)) : hz_mt ag bf q p c = false := by
  cases e : hz_mt ag bf q p c with
  | false => rfl
  | true => exact absurd (hz_mt_t.mp e) h
/-- a sum taken off the claims below n: the payments behind it, and what is left of the sum -/
def hz_tk (R : hz_P → Nat → Int) (mt : Nat → Bool) (now : Int32) (P : hz_P) (s : Int) : Nat → hz_P × Int
  | 0 => (P, s)
  | n + 1 => if 0 < (hz_tk R mt now P s n).2 ∧ mt n = true ∧ 0 < R (hz_tk R mt now P s n).1 n then (hz_ap (hz_tk R mt now P s n).1 (Int32.ofNat n) (Int32.ofInt (hz_mi (hz_tk R mt now P s n).2 (R (hz_tk R mt now P s n).1 n))) now, (hz_tk R mt now P s n).2 - hz_mi (hz_tk R mt now P s n).2 (R (hz_tk R mt now P s n).1 n)) else hz_tk R mt now P s n
/-- the same, counted alone: what is left of the sum, how many payments -/
def hz_cn (r : Nat → Int) (mt : Nat → Bool) (s : Int) : Nat → Int × Int
  | 0 => (s, 0)
  | n + 1 => if 0 < (hz_cn r mt s n).1 ∧ mt n = true ∧ 0 < r n then ((hz_cn r mt s n).1 - hz_mi (hz_cn r mt s n).1 (r n), (hz_cn r mt s n).2 + 1) else hz_cn r mt s n
/-- what all claims below n that match have left -/
def hz_sm (r : Nat → Int) (mt : Nat → Bool) : Nat → Int
  | 0 => 0
  | n + 1 => hz_sm r mt n + (if mt n = true then r n else 0)
/-- how many claims below n have something left -/
def hz_op (r : Nat → Int) : Nat → Int
  | 0 => 0
  | n + 1 => hz_op r n + (if 0 < r n then 1 else 0)
section HZT
variable {R : hz_P → Nat → Int} {now : Int32} {N : Nat}
/-- what a payment does to what is left: of its claim alone -/
def hz_HR (R : hz_P → Nat → Int) (now : Int32) (N : Nat) : Prop := ∀ (P : hz_P) (c : Nat) (s : Int32), c < N → 0 < s.toInt → s.toInt ≤ R P c → ∀ c', c' < N → R (hz_ap P (Int32.ofNat c) s now) c' = (if c' = c then R P c - s.toInt else R P c')
def hz_RB (R : hz_P → Nat → Int) (N : Nat) (P : hz_P) : Prop := ∀ c : Nat, c < N → 0 ≤ R P c ∧ R P c ≤ 609999
theorem hz_ofI {x : Int} (h0 : 0 ≤ x) (h1 : x ≤ 2147483647) : (Int32.ofInt x).toInt = x := by
  rw [Int32.toInt_ofInt, Int.bmod_def, show ((Int32.size : Nat) : Int) = 4294967296 from rfl]; omega
theorem hz_tk_1 {mt : Nat → Bool} {P : hz_P} {s : Int} (HR : hz_HR R now N) (HB : hz_RB R N P) : ∀ n : Nat, n ≤ N → (∀ c, c < N → (n ≤ c ∨ mt c = false) → R (hz_tk R mt now P s n).1 c = R P c) ∧ (hz_tk R mt now P s n).2 = (hz_cn (R P) mt s n).1 ∧ ((hz_nP (hz_tk R mt now P s n).1 : Nat) : Int) = hz_nP P + (hz_cn (R P) mt s n).2 ∧ (∀ c, c < N → R (hz_tk R mt now P s n).1 c ≤ R P c) ∧ (∀ m : Nat, n ≤ m → m ≤ N → hz_sm (R (hz_tk R mt now P s n).1) mt m = hz_sm (R P) mt m - (s - (hz_tk R mt now P s n).2)) := by
  intro n
  induction n with
  | zero => intro _; exact ⟨fun _ _ _ => rfl, rfl, by simp [hz_tk, hz_cn], fun _ _ => Int.le_refl _, fun m _ _ => by simp [hz_tk]⟩
  | succ n ih =>
    intro hn
    obtain ⟨a, b, d, e, f⟩ := ih (by omega)
    have ra := a n (by omega) (Or.inl (Nat.le_refl _))
    have hb := HB n (by omega)
    by_cases z : 0 < (hz_tk R mt now P s n).2 ∧ mt n = true ∧ 0 < R (hz_tk R mt now P s n).1 n
    · have z2 : 0 < (hz_cn (R P) mt s n).1 ∧ mt n = true ∧ 0 < R P n := by rw [← b, ← ra]; exact z
      have mb := hz_mi_l (a := (hz_tk R mt now P s n).2) (b := R (hz_tk R mt now P s n).1 n)
      have mc := hz_mi_c (a := (hz_tk R mt now P s n).2) (b := R (hz_tk R mt now P s n).1 n)
      have et : hz_tk R mt now P s (n + 1) = (hz_ap (hz_tk R mt now P s n).1 (Int32.ofNat n) (Int32.ofInt (hz_mi (hz_tk R mt now P s n).2 (R (hz_tk R mt now P s n).1 n))) now, (hz_tk R mt now P s n).2 - hz_mi (hz_tk R mt now P s n).2 (R (hz_tk R mt now P s n).1 n)) := by
        show (if _ then _ else _) = _; rw [if_pos z]
      have ec : hz_cn (R P) mt s (n + 1) = ((hz_cn (R P) mt s n).1 - hz_mi (hz_cn (R P) mt s n).1 (R P n), (hz_cn (R P) mt s n).2 + 1) := by
        show (if _ then _ else _) = _; rw [if_pos z2]
      have eo : (Int32.ofInt (hz_mi (hz_tk R mt now P s n).2 (R (hz_tk R mt now P s n).1 n))).toInt = hz_mi (hz_tk R mt now P s n).2 (R (hz_tk R mt now P s n).1 n) := hz_ofI (by omega) (by omega)
      have hr := HR (hz_tk R mt now P s n).1 n (Int32.ofInt (hz_mi (hz_tk R mt now P s n).2 (R (hz_tk R mt now P s n).1 n))) (by omega) (by rw [eo]; omega) (by rw [eo]; omega)
      rw [et, ec]
      refine ⟨fun c hc hcn => ?_, ?_, ?_, fun c hc => ?_, fun m hm hmN => ?_⟩
      · have hne : c ≠ n := by
          rcases hcn with w | w
          · omega
          · intro ee; subst ee; rw [z.2.1] at w; cases w
        show R (hz_ap _ _ _ _) c = _
        rw [hr c hc, if_neg hne]
        exact a c hc (hcn.imp (fun w => by omega) id)
      · show _ - _ = _ - _
        rw [b, ra]
      · show ((hz_nP (hz_ap _ _ _ _) : Nat) : Int) = _
        have : hz_nP (hz_ap (hz_tk R mt now P s n).1 (Int32.ofNat n) (Int32.ofInt (hz_mi (hz_tk R mt now P s n).2 (R (hz_tk R mt now P s n).1 n))) now) = hz_nP (hz_tk R mt now P s n).1 + 1 := rfl
        rw [this]
        have : ((hz_nP (hz_tk R mt now P s n).1 + 1 : Nat) : Int) = (hz_nP (hz_tk R mt now P s n).1 : Int) + 1 := by omega
        rw [this, d]
        show _ = _ + (_ + 1)
        omega
      · show R (hz_ap _ _ _ _) c ≤ _
        rw [hr c hc]
        split
        · rename_i h1; subst h1; have := e c hc; rw [eo]; omega
        · exact e c hc
      · show hz_sm (R (hz_ap _ _ _ _)) mt m = _ - (s - (_ - _))
        have key : ∀ k : Nat, k ≤ N → hz_sm (R (hz_ap (hz_tk R mt now P s n).1 (Int32.ofNat n) (Int32.ofInt (hz_mi (hz_tk R mt now P s n).2 (R (hz_tk R mt now P s n).1 n))) now)) mt k = hz_sm (R (hz_tk R mt now P s n).1) mt k - (if n < k then hz_mi (hz_tk R mt now P s n).2 (R (hz_tk R mt now P s n).1 n) else 0) := by
          intro k
          induction k with
          | zero => intro _; rw [if_neg (by omega)]; simp [hz_sm]
          | succ k ihk =>
            intro hk
            have q := ihk (by omega)
            simp only [hz_sm]
            rw [q, hr k (by omega)]
            by_cases w : k = n
            · subst w
              rw [if_pos rfl, if_neg (by omega), if_pos (show k < k + 1 by omega), if_pos z.2.1, if_pos z.2.1, eo]; omega
            · rw [if_neg w]
              by_cases w2 : n < k
              · rw [if_pos w2, if_pos (show n < k + 1 by omega)]; omega
              · rw [if_neg w2, if_neg (show ¬ n < k + 1 by omega)]; omega
        rw [key m hmN, if_pos (by omega), f m (by omega) hmN]
        omega
    · have z2 : ¬ (0 < (hz_cn (R P) mt s n).1 ∧ mt n = true ∧ 0 < R P n) := by rw [← b, ← ra]; exact z
      have et : hz_tk R mt now P s (n + 1) = hz_tk R mt now P s n := by show (if _ then _ else _) = _; rw [if_neg z]
      have ec : hz_cn (R P) mt s (n + 1) = hz_cn (R P) mt s n := by show (if _ then _ else _) = _; rw [if_neg z2]
      rw [et, ec]
      exact ⟨fun c hc hcn => a c hc (hcn.imp (fun w => by omega) id), b, d, e, fun m hm hmN => f m (by omega) hmN⟩
/-- what is left of the sum -/
theorem hz_cn_l {r : Nat → Int} {mt : Nat → Bool} {s : Int} (hs : 0 ≤ s) (hr : ∀ c, c < N → 0 ≤ r c) : ∀ n : Nat, n ≤ N → 0 ≤ (hz_cn r mt s n).1 ∧ ((hz_cn r mt s n).1 = s - hz_sm r mt n ∨ ((hz_cn r mt s n).1 = 0 ∧ s ≤ hz_sm r mt n)) ∧ 0 ≤ hz_sm r mt n ∧ 0 ≤ (hz_cn r mt s n).2 := by
  intro n
  induction n with
  | zero => intro _; exact ⟨hs, Or.inl (by simp [hz_cn, hz_sm]), Int.le_refl _, Int.le_refl _⟩
  | succ n ih =>
    intro hn
    obtain ⟨a, b, d, e⟩ := ih (by omega)
    have hrn := hr n (by omega)
    have mb := hz_mi_l (a := (hz_cn r mt s n).1) (b := r n)
    have mc := hz_mi_c (a := (hz_cn r mt s n).1) (b := r n)
    simp only [hz_cn, hz_sm]
    by_cases w : mt n = true
    · rw [if_pos w]
      by_cases z : 0 < (hz_cn r mt s n).1 ∧ mt n = true ∧ 0 < r n
      · rw [if_pos z]
        refine ⟨by show 0 ≤ _ - _; omega, ?_, by omega, by show 0 ≤ _ + 1; omega⟩
        show _ - _ = _ ∨ (_ - _ = _ ∧ _)
        omega
      · rw [if_neg z]
        have z3 : (hz_cn r mt s n).1 = 0 ∨ r n = 0 := by
          by_cases y : 0 < (hz_cn r mt s n).1
          · by_cases y2 : 0 < r n
            · exact absurd ⟨y, w, y2⟩ z
            · omega
          · omega
        exact ⟨a, by omega, by omega, e⟩
    · rw [if_neg w, if_neg (fun z => w z.2.1)]
      exact ⟨a, by omega, by omega, e⟩
theorem hz_cn_e {r r' : Nat → Int} {mt : Nat → Bool} {s : Int} : ∀ n : Nat, (∀ c, c < n → mt c = true → r c = r' c) → hz_cn r mt s n = hz_cn r' mt s n := by
  intro n
  induction n with
  | zero => intro _; rfl
  | succ n ih =>
    intro h
    simp only [hz_cn, ih (fun c hc => h c (by omega))]
    by_cases w : mt n = true
    · rw [h n (by omega) w]
    · rw [if_neg (fun z => w z.2.1), if_neg (fun z => w z.2.1)]
theorem hz_sm_e {r r' : Nat → Int} {mt : Nat → Bool} : ∀ n : Nat, (∀ c, c < n → mt c = true → r c = r' c) → hz_sm r mt n = hz_sm r' mt n := by
  intro n
  induction n with
  | zero => intro _; rfl
  | succ n ih =>
    intro h
    simp only [hz_sm, ih (fun c hc => h c (by omega))]
    by_cases w : mt n = true
    · rw [if_pos w, if_pos w, h n (by omega) w]
    · rw [if_neg w, if_neg w]
theorem hz_op_b {r : Nat → Int} : ∀ n : Nat, 0 ≤ hz_op r n ∧ hz_op r n ≤ n := by
  intro n
  induction n with
  | zero => exact ⟨Int.le_refl _, Int.le_refl _⟩
  | succ n ih => simp only [hz_op]; split <;> omega
theorem hz_op_le {r r' : Nat → Int} : ∀ n : Nat, (∀ c, c < n → r' c ≤ r c) → hz_op r' n ≤ hz_op r n := by
  intro n
  induction n with
  | zero => intro _; exact Int.le_refl _
  | succ n ih =>
    intro h
    have a := ih (fun c hc => h c (by omega)); have b := h n (by omega)
    simp only [hz_op]; (repeat' split) <;> omega
theorem hz_op_lt {r r' : Nat → Int} {k : Nat} : ∀ n : Nat, (∀ c, c < n → r' c ≤ r c) → k < n → 0 < r k → r' k ≤ 0 → hz_op r' n + 1 ≤ hz_op r n := by
  intro n
  induction n with
  | zero => intro _ h; exact absurd h (Nat.not_lt_zero _)
  | succ n ih =>
    intro h hk h1 h2
    have b := h n (by omega)
    simp only [hz_op]
    by_cases z : k = n
    · subst z
      have a := hz_op_le k (fun c hc => h c (by omega))
      rw [if_pos h1, if_neg (by omega)]; omega
    · have a := ih (fun c hc => h c (by omega)) (by omega) h1 h2
      (repeat' split) <;> omega
theorem hz_sm_0 {r : Nat → Int} {mt : Nat → Bool} : ∀ n : Nat, (∀ c, c < n → 0 ≤ r c) → hz_sm r mt n ≤ 0 → ∀ c, c < n → mt c = true → r c ≤ 0 := by
  intro n
  induction n with
  | zero => intro _ _ c hc; exact absurd hc (Nat.not_lt_zero _)
  | succ n ih =>
    intro h hs c hc hm
    have hp : ∀ k : Nat, k ≤ n → 0 ≤ hz_sm r mt k := by
      intro k
      induction k with
      | zero => intro _; exact Int.le_refl _
      | succ k ihk =>
        intro hk
        have := ihk (by omega); have := h k (by omega)
        simp only [hz_sm]; split <;> omega
    have a := hp n (Nat.le_refl _); have b := h n (by omega)
    simp only [hz_sm] at hs
    by_cases z : c = n
    · subst z; rw [if_pos hm] at hs; omega
    · refine ih (fun c hc => h c (by omega)) ?_ c (by omega) hm
      split at hs <;> omega
theorem hz_sm_p {r : Nat → Int} {mt : Nat → Bool} : ∀ n : Nat, 0 < hz_sm r mt n → ∃ c, c < n ∧ mt c = true ∧ 0 < r c := by
  intro n
  induction n with
  | zero => intro h; exact absurd h (by simp [hz_sm])
  | succ n ih =>
    intro h
    simp only [hz_sm] at h
    by_cases w : mt n = true ∧ 0 < r n
    · exact ⟨n, by omega, w.1, w.2⟩
    · have : 0 < hz_sm r mt n := by
        split at h
        · rename_i w1
          have : ¬ 0 < r n := fun y => w ⟨w1, y⟩
          omega
        · omega
      obtain ⟨c, a, b, d⟩ := ih this
      exact ⟨c, by omega, b, d⟩
/-- a ring's places, one after another -/
def hz_tr (R : hz_P → Nat → Int) (ag bf : Nat → Int32) (g : Nat → Int) (n l : Int) (now : Int32) (cn : Nat) (P : hz_P) : Nat → hz_P
  | 0 => P
  | i + 1 => (hz_tk R (hz_mt ag bf (g i) (g (((i : Int) + 1) % n).toNat)) now (hz_tr R ag bf g n l now cn P i) l cn).1
/-- a pair of the ring's first k places -/
def hz_eb (g : Nat → Int) (n q p : Int) : Nat → Bool
  | 0 => false
  | k + 1 => hz_eb g n q p k || (decide (g k = q) && decide (g (((k : Int) + 1) % n).toNat = p))
theorem hz_eb_t {g : Nat → Int} {n q p : Int} : ∀ k : Nat, hz_eb g n q p k = true ↔ ∃ i : Nat, i < k ∧ g i = q ∧ g (((i : Int) + 1) % n).toNat = p := by
  intro k
  induction k with
  | zero => exact ⟨fun h => (by cases h), fun ⟨i, h, _⟩ => absurd h (Nat.not_lt_zero _)⟩
  | succ k ih =>
    simp only [hz_eb]
    rw [Bool.or_eq_true, ih, Bool.and_eq_true, decide_eq_true_iff, decide_eq_true_iff]
    constructor
    · rintro (⟨i, h1, h2⟩ | h)
      · exact ⟨i, by omega, h2⟩
      · exact ⟨k, by omega, h⟩
    · rintro ⟨i, h1, h2⟩
      by_cases z : i = k
      · subst z; exact Or.inr h2
      · exact Or.inl ⟨i, by omega, h2⟩
theorem hz_eb_n {g : Nat → Int} {n q p : Int} {k : Nat} (h : ¬ (g k = q ∧ g (((k : Int) + 1) % n).toNat = p)) : hz_eb g n q p (k + 1) = hz_eb g n q p k := by
  simp only [hz_eb]
  have : (decide (g k = q) && decide (g (((k : Int) + 1) % n).toNat = p)) = false := by
    cases e : (decide (g k = q) && decide (g (((k : Int) + 1) % n).toNat = p)) with
    | false => rfl
    | true => rw [Bool.and_eq_true, decide_eq_true_iff, decide_eq_true_iff] at e; exact absurd e h
  rw [this, Bool.or_false]
def hz_ne (r : Nat → Int) (ag bf : Nat → Int32) (g : Nat → Int) (n l : Int) (cn : Nat) : Nat → Int
  | 0 => 0
  | i + 1 => hz_ne r ag bf g n l cn i + (hz_cn r (hz_mt ag bf (g i) (g (((i : Int) + 1) % n).toNat)) l cn).2
/-- what the claims of each pair have left together -/
def hz_V (r : Nat → Int) (ag bf : Nat → Int32) (cn : Nat) (x : Int) : Int := hz_sm r (fun c => decide (40 * (ag c).toInt + (bf c).toInt = x)) cn
theorem hz_V_m {r : Nat → Int} {ag bf : Nat → Int32} {cn : Nat} {q p : Int} (hq : 0 ≤ p ∧ p < 40) (hb : ∀ c, c < cn → 0 ≤ (bf c).toInt ∧ (bf c).toInt < 40) : hz_V r ag bf cn (40 * q + p) = hz_sm r (hz_mt ag bf q p) cn := by
  unfold hz_V
  have key : ∀ k : Nat, k ≤ cn → hz_sm r (fun c => decide (40 * (ag c).toInt + (bf c).toInt = 40 * q + p)) k = hz_sm r (hz_mt ag bf q p) k := by
    intro k
    induction k with
    | zero => intro _; rfl
    | succ k ih =>
      intro hk
      have b := hb k (by omega)
      simp only [hz_sm, ih (by omega)]
      by_cases w : (ag k).toInt = q ∧ (bf k).toInt = p
      · rw [if_pos (decide_eq_true (by omega)), if_pos (hz_mt_t.mpr w)]
      · rw [if_neg (fun z => w (by have := of_decide_eq_true z; omega)), if_neg (fun z => w (hz_mt_t.mp z))]
  exact key cn (Nat.le_refl _)
/-- behind the first k places of a ring -/
theorem hz_tr_1 {ag bf : Nat → Int32} {n l : Int} {g : Nat → Int} {P : hz_P} (HR : hz_HR R now N) (HN : ∀ (P : hz_P) (c : Nat), 0 ≤ R P c) (HB : hz_RB R N P) (hl : 1 ≤ l) (hn : 2 ≤ n ∧ n ≤ 4) (hd : ∀ i j : Nat, (i : Int) < n → (j : Int) < n → i ≠ j → g i ≠ g j) (hV : ∀ i : Nat, (i : Int) < n → l ≤ hz_sm (R P) (hz_mt ag bf (g i) (g (((i : Int) + 1) % n).toNat)) N) : ∀ k : Nat, (k : Int) ≤ n → (∀ c, c < N → R (hz_tr R ag bf g n l now N P k) c ≤ R P c) ∧ (∀ c, c < N → (∀ i : Nat, i < k → hz_mt ag bf (g i) (g (((i : Int) + 1) % n).toNat) c = false) → R (hz_tr R ag bf g n l now N P k) c = R P c) ∧ ((hz_nP (hz_tr R ag bf g n l now N P k) : Nat) : Int) = hz_nP P + hz_ne (R P) ag bf g n l N k ∧ (∀ q p : Int, hz_sm (R (hz_tr R ag bf g n l now N P k)) (hz_mt ag bf q p) N = hz_sm (R P) (hz_mt ag bf q p) N - (if hz_eb g n q p k = true then l else 0)) := by
  intro k
  induction k with
  | zero => intro _; exact ⟨fun _ _ => Int.le_refl _, fun _ _ _ => rfl, by simp [hz_tr, hz_ne], fun q p => by rw [if_neg (fun h => by cases h)]; simp [hz_tr]⟩
  | succ k ih =>
    intro hk
    obtain ⟨a, b, d, f⟩ := ih (by omega)
    have T := hz_tk_1 (mt := hz_mt ag bf (g k) (g (((k : Int) + 1) % n).toNat)) (P := hz_tr R ag bf g n l now N P k) (s := l) HR (fun c hc => ⟨HN _ _, Int.le_trans (a c hc) (HB c hc).2⟩) N (Nat.le_refl _)
    obtain ⟨t1, t2, t3, t4, t5⟩ := T
    have et : hz_tr R ag bf g n l now N P (k + 1) = (hz_tk R (hz_mt ag bf (g k) (g (((k : Int) + 1) % n).toNat)) now (hz_tr R ag bf g n l now N P k) l N).1 := rfl
    have hother : ∀ c, c < N → hz_mt ag bf (g k) (g (((k : Int) + 1) % n).toNat) c = true → R (hz_tr R ag bf g n l now N P k) c = R P c := by
      intro c hc hm
      refine b c hc (fun i hi => hz_mt_f (fun z => ?_))
      have e1 := (hz_mt_t.mp hm).1
      exact hd i k (by omega) (by omega) (by omega) (z.1.symm.trans e1)
    have ecn := hz_cn_e (r := R (hz_tr R ag bf g n l now N P k)) (r' := R P) (mt := hz_mt ag bf (g k) (g (((k : Int) + 1) % n).toNat)) (s := l) N hother
    have esm := hz_sm_e (r := R (hz_tr R ag bf g n l now N P k)) (r' := R P) (mt := hz_mt ag bf (g k) (g (((k : Int) + 1) % n).toNat)) N hother
    have L := hz_cn_l (N := N) (r := R P) (mt := hz_mt ag bf (g k) (g (((k : Int) + 1) % n).toNat)) (s := l) (by omega) (fun c hc => (HB c hc).1) N (Nat.le_refl _)
    have hVk := hV k (by omega)
    have left0 : (hz_tk R (hz_mt ag bf (g k) (g (((k : Int) + 1) % n).toNat)) now (hz_tr R ag bf g n l now N P k) l N).2 = 0 := by
      rw [t2, ecn]; omega
    rw [et]
    refine ⟨fun c hc => Int.le_trans (t4 c hc) (a c hc), fun c hc hm => ?_, ?_, fun q p => ?_⟩
    · rw [t1 c hc (Or.inr (hm k (by omega)))]
      exact b c hc (fun i hi => hm i (by omega))
    · rw [t3, d, ecn]
      simp only [hz_ne]; omega
    · by_cases w : g k = q ∧ g (((k : Int) + 1) % n).toNat = p
      · obtain ⟨w1, w2⟩ := w
        subst w1; subst w2
        rw [t5 N (Nat.le_refl _) (Nat.le_refl _), left0, if_pos ((hz_eb_t (k + 1)).mpr ⟨k, by omega, rfl, rfl⟩), esm]; omega
      · have e2 : hz_sm (R (hz_tk R (hz_mt ag bf (g k) (g (((k : Int) + 1) % n).toNat)) now (hz_tr R ag bf g n l now N P k) l N).1) (hz_mt ag bf q p) N = hz_sm (R (hz_tr R ag bf g n l now N P k)) (hz_mt ag bf q p) N := by
          refine hz_sm_e N (fun c hc hm => t1 c hc (Or.inr (hz_mt_f (fun z => w ?_))))
          have m1 := hz_mt_t.mp hm
          exact ⟨z.1.symm.trans m1.1, z.2.symm.trans m1.2⟩
        rw [e2, f q p, hz_eb_n w]
end HZT
