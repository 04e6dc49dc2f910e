/-! JUDGED -/
def hv_ki (kf : Nat → Int32) (j p : Nat) : Bool := decide (j = p) || (decide ((kf j).toInt ≠ -1) && decide ((kf j).toInt = (kf p).toInt))
def hv_ft (jf df kf : Nat → Int32) (p q j : Nat) : Bool := decide ((jf j).toInt ≠ 0) && (decide ((df j).toInt = 0) && (!hv_ki kf j p && !hv_ki kf j q))
/-- who may sit, by numbers -/
def hv_fs (jf df kf : Nat → Int32) (p q : Nat) : Nat → List Nat
  | 0 => []
  | j + 1 => if hv_ft jf df kf p q j = true then hv_fs jf df kf p q j ++ [j] else hv_fs jf df kf p q j
theorem hv_fs_b {jf df kf : Nat → Int32} {p q : Nat} : ∀ n, (hv_fs jf df kf p q n).length ≤ n
  | 0 => Nat.le_refl _
  | n + 1 => by
    have h := hv_fs_b (jf := jf) (df := df) (kf := kf) (p := p) (q := q) n
    unfold hv_fs
    split
    · rw [List.length_append]; show _ + 1 ≤ n + 1; omega
    · omega
theorem hv_gd1 {l m : List Nat} {i : Nat} (h : i < l.length) : (l ++ m).getD i 0 = l.getD i 0 := by
  rw [List.getD_eq_getElem?_getD, List.getD_eq_getElem?_getD, List.getElem?_append_left h]
theorem hv_gd2 {l : List Nat} {j : Nat} : (l ++ [j]).getD l.length 0 = j := by
  rw [List.getD_eq_getElem?_getD, List.getElem?_append_right (Nat.le_refl _), Nat.sub_self]; rfl
def hv_fl (f : Nat → Int32) (l : List Nat) : Prop := ∀ m, m < l.length → (f m).toInt = ((l.getD m 0 : Nat) : Int)
theorem hv_fl_0 {f : Nat → Int32} : hv_fl f [] := fun m h => absurd h (Nat.not_lt_zero m)
theorem hv_fl_s {f f1 : Nat → Int32} {l : List Nat} {j : Nat} {v : Int32} {ix : Nat} (h : hv_fl f l) (ei : ix = l.length) (hv : v.toInt = (j : Int)) (e : f1 = hx_up f ix v) : hv_fl f1 (l ++ [j]) := by
  intro m hm
  rw [List.length_append] at hm
  have hm : m < l.length + 1 := hm
  by_cases z : m = ix
  · subst z
    rw [e, hx_up_at, hv, ei, hv_gd2]
  · rw [e, hx_up_ne z, hv_gd1 (by omega)]
    exact h m (by omega)
theorem hv_fs_y {jf df kf : Nat → Int32} {p q : Nat} {f f1 : Nat → Int32} {k k1 m m1 : Int} {v : Int32} {ix : Nat} (h : hv_fl f (hv_fs jf df kf p q k.toNat) ∧ m = ((hv_fs jf df kf p q k.toNat).length : Int)) (hf : hv_ft jf df kf p q k.toNat = true) (h0 : 0 ≤ k) (ei : (ix : Int) = m) (hv : v.toInt = k) (e : f1 = hx_up f ix v) (e1 : k1 = k + 1) (e2 : m1 = m + 1) : hv_fl f1 (hv_fs jf df kf p q k1.toNat) ∧ m1 = ((hv_fs jf df kf p q k1.toNat).length : Int) := by
  have e3 : hv_fs jf df kf p q k1.toNat = hv_fs jf df kf p q k.toNat ++ [k.toNat] := by
    rw [show k1.toNat = k.toNat + 1 by omega]; exact if_pos hf
  rw [e3]
  refine ⟨hv_fl_s h.1 (by omega) (by omega) e, ?_⟩
  rw [List.length_append]
  show m1 = ((_ + 1 : Nat) : Int)
  omega
theorem hv_fs_n {jf df kf : Nat → Int32} {p q : Nat} {f : Nat → Int32} {k k1 m : Int} (h : hv_fl f (hv_fs jf df kf p q k.toNat) ∧ m = ((hv_fs jf df kf p q k.toNat).length : Int)) (hf : hv_ft jf df kf p q k.toNat = false) (h0 : 0 ≤ k) (e1 : k1 = k + 1) : hv_fl f (hv_fs jf df kf p q k1.toNat) ∧ m = ((hv_fs jf df kf p q k1.toNat).length : Int) := by
  have e3 : hv_fs jf df kf p q k1.toNat = hv_fs jf df kf p q k.toNat := by
    rw [show k1.toNat = k.toNat + 1 by omega]; exact if_neg (by rw [hf]; decide)
  rw [e3]; exact h
/-! of all sets of three the one at a place -/
def hv_T2 : Nat → Int
  | 0 => 0
  | n + 1 => hv_T2 n + n
def hv_T3 : Nat → Int
  | 0 => 0
  | n + 1 => hv_T3 n + hv_T2 n
theorem hv_T2_0 : ∀ n, 0 ≤ hv_T2 n
  | 0 => Int.le_refl _
  | n + 1 => by have := hv_T2_0 n; show 0 ≤ hv_T2 n + n; omega
theorem hv_T3_0 : ∀ n, 0 ≤ hv_T3 n
  | 0 => Int.le_refl _
  | n + 1 => by have := hv_T3_0 n; have := hv_T2_0 n; show 0 ≤ hv_T3 n + hv_T2 n; omega
theorem hv_T3_m {a b : Nat} (h : a ≤ b) : hv_T3 a ≤ hv_T3 b := by
  induction b with
  | zero => rw [show a = 0 by omega]; exact Int.le_refl _
  | succ b ih =>
    by_cases z : a = b + 1
    · rw [z]; exact Int.le_refl _
    · have := ih (by omega); have := hv_T2_0 b
      show hv_T3 a ≤ hv_T3 b + hv_T2 b; omega
theorem hv_T2_m {a b : Nat} (h : a ≤ b) : hv_T2 a ≤ hv_T2 b := by
  induction b with
  | zero => rw [show a = 0 by omega]; exact Int.le_refl _
  | succ b ih =>
    by_cases z : a = b + 1
    · rw [z]; exact Int.le_refl _
    · have := ih (by omega)
      show hv_T2 a ≤ hv_T2 b + b; omega
theorem hv_T3_b : (List.range 41).all (fun n => decide ((n : Int) * ((n : Int) - 1) * ((n : Int) - 2) / 6 = hv_T3 n) && (decide (n < 3 ∧ hv_T3 n = 0) || decide (3 ≤ n ∧ 1 ≤ hv_T3 n))) = true := by decide +kernel
theorem hv_T3_c {n : Int} (h0 : 0 ≤ n) (h1 : n ≤ 40) : n * (n - 1) * (n - 2) / 6 = hv_T3 n.toNat ∧ ((n < 3 ∧ hv_T3 n.toNat = 0) ∨ (3 ≤ n ∧ 1 ≤ hv_T3 n.toNat)) ∧ hv_T3 n.toNat ≤ 9880 := by
  have h := List.all_eq_true.mp hv_T3_b n.toNat (List.mem_range.mpr (by omega))
  rw [Bool.and_eq_true, Bool.or_eq_true, decide_eq_true_iff, decide_eq_true_iff, decide_eq_true_iff] at h
  have e : ((n.toNat : Nat) : Int) = n := by omega
  rw [e] at h
  refine ⟨h.1, ?_, ?_⟩
  · rcases h.2 with ⟨a, b⟩ | ⟨a, b⟩
    · exact Or.inl ⟨by omega, b⟩
    · exact Or.inr ⟨by omega, b⟩
  · have := hv_T3_m (a := n.toNat) (b := 40) (by omega)
    have : hv_T3 40 = 9880 := by decide
    omega
/-- the place of a set of three -/
def hv_ps (n a b c : Int) : Int := hv_T3 n.toNat - hv_T3 (n - a).toNat + (hv_T2 (n - a - 1).toNat - hv_T2 (n - b).toNat) + (c - b - 1)
def hv_is3 (n a b c : Int) : Prop := 0 ≤ a ∧ a < b ∧ b < c ∧ c < n
theorem hv_T3_p {m : Int} (h : 1 ≤ m) : hv_T3 m.toNat = hv_T3 (m - 1).toNat + hv_T2 (m - 1).toNat := by
  rw [show m.toNat = (m - 1).toNat + 1 by omega]; rfl
theorem hv_T2_p {m : Int} (h : 1 ≤ m) : hv_T2 m.toNat = hv_T2 (m - 1).toNat + (m - 1) := by
  rw [show m.toNat = (m - 1).toNat + 1 by omega]
  show hv_T2 (m - 1).toNat + (((m - 1).toNat : Nat) : Int) = _
  omega
theorem hv_ps_u {n a b c a' b' c' : Int} (h : hv_is3 n a b c) (h' : hv_is3 n a' b' c') (e : hv_ps n a b c = hv_ps n a' b' c') : a = a' ∧ b = b' ∧ c = c' := by
  have key : ∀ {a b c a' b' c' : Int}, hv_is3 n a b c → hv_is3 n a' b' c' → a < a' → hv_ps n a b c < hv_ps n a' b' c' := by
    intro a b c a' b' c' h h' z
    obtain ⟨x1, x2, x3, x4⟩ := h
    obtain ⟨y1, y2, y3, y4⟩ := h'
    unfold hv_ps
    have m1 := hv_T3_p (m := n - a) (by omega)
    have m2 := hv_T3_m (a := (n - a').toNat) (b := (n - a - 1).toNat) (by omega)
    have m3 := hv_T2_p (m := n - b) (by omega)
    have m4 := hv_T2_0 (n - b - 1).toNat
    have m5 := hv_T2_m (a := (n - b').toNat) (b := (n - a' - 1).toNat) (by omega)
    omega
  have key2 : ∀ {a b c b' c' : Int}, hv_is3 n a b c → hv_is3 n a b' c' → b < b' → hv_ps n a b c < hv_ps n a b' c' := by
    intro a b c b' c' h h' z
    obtain ⟨x1, x2, x3, x4⟩ := h
    obtain ⟨y1, y2, y3, y4⟩ := h'
    unfold hv_ps
    have m3 := hv_T2_p (m := n - b) (by omega)
    have m5 := hv_T2_m (a := (n - b').toNat) (b := (n - b - 1).toNat) (by omega)
    omega
  have ea : a = a' := by
    rcases (show a < a' ∨ a' < a ∨ a = a' by omega) with z | z | z
    · have := key h h' z; omega
    · have := key h' h z; omega
    · exact z
  subst ea
  have eb : b = b' := by
    rcases (show b < b' ∨ b' < b ∨ b = b' by omega) with z | z | z
    · have := key2 h h' z; omega
    · have := key2 h' h z; omega
    · exact z
  subst eb
  refine ⟨rfl, rfl, ?_⟩
  unfold hv_ps at e
  omega
theorem hv_ps_b {n a b c : Int} (h : hv_is3 n a b c) : 0 ≤ hv_ps n a b c ∧ hv_ps n a b c < hv_T3 n.toNat := by
  obtain ⟨x1, x2, x3, x4⟩ := h
  unfold hv_ps
  have m1 := hv_T3_p (m := n - a) (by omega)
  have m2 := hv_T3_m (a := (n - a).toNat) (b := n.toNat) (by omega)
  have m3 := hv_T2_p (m := n - b) (by omega)
  have m4 := hv_T2_0 (n - b - 1).toNat
  have m5 := hv_T2_m (a := (n - b).toNat) (b := (n - a - 1).toNat) (by omega)
  have m6 := hv_T3_0 (n - a - 1).toNat
  omega
/-- the three who sit -/
def hv_BN (l : List Nat) (p : Int) (b0 b1 b2 : Int32) : Prop := ∃ a b c : Int, hv_is3 (l.length : Int) a b c ∧ hv_ps (l.length : Int) a b c = p ∧ b0.toInt = ((l.getD a.toNat 0 : Nat) : Int) ∧ b1.toInt = ((l.getD b.toNat 0 : Nat) : Int) ∧ b2.toInt = ((l.getD c.toNat 0 : Nat) : Int)
theorem hv_BN_u {l : List Nat} {p : Int} {b0 b1 b2 c0 c1 c2 : Int32} (h : hv_BN l p b0 b1 b2) (h' : hv_BN l p c0 c1 c2) : b0 = c0 ∧ b1 = c1 ∧ b2 = c2 := by
  obtain ⟨a, b, c, h1, h2, h3, h4, h5⟩ := h
  obtain ⟨a', b', c', g1, g2, g3, g4, g5⟩ := h'
  obtain ⟨e1, e2, e3⟩ := hv_ps_u h1 g1 (h2.trans g2.symm)
  subst e1; subst e2; subst e3
  exact ⟨Int32.toInt_inj.mp (h3.trans g3.symm), Int32.toInt_inj.mp (h4.trans g4.symm), Int32.toInt_inj.mp (h5.trans g5.symm)⟩
/-- as the reference goes through them -/
def hv_DB (N p : Int) (sf bf0 bf : Nat → Int32) (c : Nat) (at' : Int) : Prop := (0 ≤ at' ∧ bf = bf0) ∨ (at' < 0 ∧ ∃ x y z : Int, hv_is3 N x y z ∧ hv_ps N x y z = p ∧ bf = hx_up (hx_up (hx_up bf0 (3 * c) (sf x.toNat)) (3 * c + 1) (sf y.toNat)) (3 * c + 2) (sf z.toNat))
theorem hv_DB_n {N p : Int} {sf bf0 bf : Nat → Int32} {c : Nat} {k k1 : Int} (h : hv_DB N p sf bf0 bf c k) (hk : k ≠ 0) (e : k1 = k - 1) : hv_DB N p sf bf0 bf c k1 := by
  rcases h with ⟨a, b⟩ | ⟨a, b⟩
  · exact Or.inl ⟨by omega, b⟩
  · exact Or.inr ⟨by omega, b⟩
theorem hv_DB_y {N p : Int} {sf bf0 bf f1 f2 f3 : Nat → Int32} {c : Nat} {k k1 x y z : Int} {i1 i2 i3 j1 j2 j3 : Nat} {v1 v2 v3 : Int32} (h : hv_DB N p sf bf0 bf c k) (hk : k = 0) (e : k1 = k - 1) (h3 : hv_is3 N x y z) (hp : hv_ps N x y z = p) (d1 : f1 = hx_up bf i1 v1) (d2 : f2 = hx_up f1 i2 v2) (d3 : f3 = hx_up f2 i3 v3) (e1 : i1 = 3 * c) (e2 : i2 = 3 * c + 1) (e3 : i3 = 3 * c + 2) (s1 : v1 = sf j1) (s2 : v2 = sf j2) (s3 : v3 = sf j3) (q1 : (j1 : Int) = x) (q2 : (j2 : Int) = y) (q3 : (j3 : Int) = z) : hv_DB N p sf bf0 f3 c k1 := by
  rcases h with ⟨a, b⟩ | ⟨a, b⟩
  · refine Or.inr ⟨by omega, x, y, z, h3, hp, ?_⟩
    rw [d3, d2, d1, b, e1, e2, e3, s1, s2, s3, show x.toNat = j1 by omega, show y.toNat = j2 by omega, show z.toNat = j3 by omega]
  · exfalso; omega
theorem hv_DB_e {N p : Int} {sf bf0 bf : Nat → Int32} {c : Nat} {k : Int} {l : List Nat} (h : hv_DB N p sf bf0 bf c k) (hk : k < 0) (hf : hv_fl sf l) (hN : N = (l.length : Int)) : ∃ b0 b1 b2 : Int32, hv_BN l p b0 b1 b2 ∧ bf = hx_up (hx_up (hx_up bf0 (3 * c) b0) (3 * c + 1) b1) (3 * c + 2) b2 := by
  rcases h with ⟨a, b⟩ | ⟨a, x, y, z, h3, hp, e⟩
  · exfalso; omega
  · subst hN
    obtain ⟨x1, x2, x3, x4⟩ := id h3
    exact ⟨_, _, _, ⟨x, y, z, h3, hp, hf _ (by omega), hf _ (by omega), hf _ (by omega)⟩, e⟩
/-! the sum of a SPLIT -/
def hv_sq (byf agf flf : Nat → Int32) (b a f : Int) (k : Nat) : Bool := decide ((byf k).toInt = b ∧ (agf k).toInt = a ∧ f ≤ (flf k).toInt)
def hv_sm (byf agf flf smf : Nat → Int32) (b a f : Int) : Nat → Int
  | 0 => 0
  | k + 1 => if hv_sq byf agf flf b a f k = true then hv_sm byf agf flf smf b a f k + (smf k).toInt else hv_sm byf agf flf smf b a f k
def hv_sct (byf agf flf : Nat → Int32) (b a f : Int) : Nat → Int
  | 0 => 0
  | k + 1 => if hv_sq byf agf flf b a f k = true then hv_sct byf agf flf b a f k + 1 else hv_sct byf agf flf b a f k
section HVSM
variable {byf agf flf smf : Nat → Int32} {b a f : Int}
theorem hv_sm_y {k k1 s s1 : Int} {v : Int32} {ix : Nat} (h : s = hv_sm byf agf flf smf b a f k.toNat) (hq : hv_sq byf agf flf b a f k.toNat = true) (h0 : 0 ≤ k) (ei : (ix : Int) = k) (ev : v = smf ix) (es : s1 = s + v.toInt) (e1 : k1 = k + 1) : s1 = hv_sm byf agf flf smf b a f k1.toNat := by
  rw [show k1.toNat = k.toNat + 1 by omega]
  show s1 = (if hv_sq byf agf flf b a f k.toNat = true then hv_sm byf agf flf smf b a f k.toNat + (smf k.toNat).toInt else hv_sm byf agf flf smf b a f k.toNat)
  rw [if_pos hq, ← h, es, ev, show ix = k.toNat by omega]
theorem hv_sm_n {k k1 s : Int} (h : s = hv_sm byf agf flf smf b a f k.toNat) (hq : hv_sq byf agf flf b a f k.toNat = false) (h0 : 0 ≤ k) (e1 : k1 = k + 1) : s = hv_sm byf agf flf smf b a f k1.toNat := by
  rw [show k1.toNat = k.toNat + 1 by omega]
  show s = (if hv_sq byf agf flf b a f k.toNat = true then hv_sm byf agf flf smf b a f k.toNat + (smf k.toNat).toInt else hv_sm byf agf flf smf b a f k.toNat)
  rw [if_neg (by rw [hq]; decide)]; exact h
theorem hv_sct_y {k k1 s s1 : Int} (h : s = hv_sct byf agf flf b a f k.toNat) (hq : hv_sq byf agf flf b a f k.toNat = true) (h0 : 0 ≤ k) (es : s1 = s + 1) (e1 : k1 = k + 1) : s1 = hv_sct byf agf flf b a f k1.toNat := by
  rw [show k1.toNat = k.toNat + 1 by omega]
  show s1 = (if hv_sq byf agf flf b a f k.toNat = true then hv_sct byf agf flf b a f k.toNat + 1 else hv_sct byf agf flf b a f k.toNat)
  rw [if_pos hq, ← h, es]
theorem hv_sct_n {k k1 s : Int} (h : s = hv_sct byf agf flf b a f k.toNat) (hq : hv_sq byf agf flf b a f k.toNat = false) (h0 : 0 ≤ k) (e1 : k1 = k + 1) : s = hv_sct byf agf flf b a f k1.toNat := by
  rw [show k1.toNat = k.toNat + 1 by omega]
  show s = (if hv_sq byf agf flf b a f k.toNat = true then hv_sct byf agf flf b a f k.toNat + 1 else hv_sct byf agf flf b a f k.toNat)
  rw [if_neg (by rw [hq]; decide)]; exact h
theorem hv_sq_t {k : Nat} : hv_sq byf agf flf b a f k = true ↔ (byf k).toInt = b ∧ (agf k).toInt = a ∧ f ≤ (flf k).toInt := decide_eq_true_iff
theorem hv_sq_f {k : Nat} (h : ¬ ((byf k).toInt = b ∧ (agf k).toInt = a ∧ f ≤ (flf k).toInt)) : hv_sq byf agf flf b a f k = false := decide_eq_false h
theorem hv_sct_0 : ∀ k, 0 ≤ hv_sct byf agf flf b a f k
  | 0 => Int.le_refl _
  | k + 1 => by
    have := hv_sct_0 k
    unfold hv_sct
    split <;> omega
theorem hv_sct_z : ∀ k, hv_sct byf agf flf b a f k = 0 → hv_sm byf agf flf smf b a f k = 0
  | 0, _ => rfl
  | k + 1, h => by
    have h0 := hv_sct_0 (byf := byf) (agf := agf) (flf := flf) (b := b) (a := a) (f := f) k
    have h2 := hv_sct_z k
    unfold hv_sct at h
    unfold hv_sm
    split at h
    · exfalso; omega
    · next z => rw [if_neg z]; exact h2 h
theorem hv_sct_p {c : Nat} (hq : hv_sq byf agf flf b a f c = true) : ∀ k, c < k → 1 ≤ hv_sct byf agf flf b a f k
  | 0, h => absurd h (Nat.not_lt_zero c)
  | k + 1, h => by
    have h0 := hv_sct_0 (byf := byf) (agf := agf) (flf := flf) (b := b) (a := a) (f := f) k
    have h2 := hv_sct_p hq k
    unfold hv_sct
    by_cases z : c = k
    · subst z; rw [if_pos hq]; omega
    · have := h2 (by omega)
      split <;> omega
theorem hv_sct_1 {c : Nat} (hq : hv_sq byf agf flf b a f c = true) : ∀ k, c < k → hv_sct byf agf flf b a f k ≤ 1 → hv_sm byf agf flf smf b a f k = (smf c).toInt
  | 0, h, _ => absurd h (Nat.not_lt_zero c)
  | k + 1, h, h1 => by
    have h0 := hv_sct_0 (byf := byf) (agf := agf) (flf := flf) (b := b) (a := a) (f := f) k
    have h2 := hv_sct_1 hq k
    have h3 := hv_sct_p (byf := byf) (agf := agf) (flf := flf) (b := b) (a := a) (f := f) hq k
    unfold hv_sct at h1
    unfold hv_sm
    by_cases z : c = k
    · subst z
      rw [if_pos hq] at h1 ⊢
      rw [hv_sct_z (smf := smf) c (by omega)]; omega
    · have h4 := h3 (by omega)
      by_cases y : hv_sq byf agf flf b a f k = true
      · rw [if_pos y] at h1; exfalso; omega
      · rw [if_neg y] at h1 ⊢
        exact h2 (by omega) h1
end HVSM
/-- what a claim is judged by an act -/
def hv_jg (F R : Nat → Int) (o : List hv_tok) (fr bo su sp : Int) : Int := if fr - bo < 365 * R 8 then 1 else if R 0 < su then 2 else if R 0 < sp then 3 else if hv_pr F o = true then 5 else 4
theorem hv_jg_1 {F R : Nat → Int} {o : List hv_tok} {fr bo su sp r : Int} (h : fr - bo < 365 * R 8) (e : r = 1) : r = hv_jg F R o fr bo su sp := by
  unfold hv_jg; rw [if_pos h]; exact e
theorem hv_jg_2 {F R : Nat → Int} {o : List hv_tok} {fr bo su sp r : Int} (h : ¬ fr - bo < 365 * R 8) (h2 : R 0 < su) (e : r = 2) : r = hv_jg F R o fr bo su sp := by
  unfold hv_jg; rw [if_neg h, if_pos h2]; exact e
theorem hv_jg_3 {F R : Nat → Int} {o : List hv_tok} {fr bo su sp r : Int} (h : ¬ fr - bo < 365 * R 8) (h2 : ¬ R 0 < su) (h3 : R 0 < sp) (e : r = 3) : r = hv_jg F R o fr bo su sp := by
  unfold hv_jg; rw [if_neg h, if_neg h2, if_pos h3]; exact e
theorem hv_jg_4 {F R : Nat → Int} {o : List hv_tok} {fr bo su sp r : Int} (h : ¬ fr - bo < 365 * R 8) (h2 : ¬ R 0 < su) (h3 : ¬ R 0 < sp) (hp : (r = 5 ∧ hv_pr F o = true) ∨ (r = 4 ∧ hv_pr F o = false)) : r = hv_jg F R o fr bo su sp := by
  unfold hv_jg; rw [if_neg h, if_neg h2, if_neg h3]
  rcases hp with ⟨a, b⟩ | ⟨a, b⟩
  · rw [if_pos b]; exact a
  · rw [if_neg (by rw [b]; decide)]; exact a
