/-! WHAT IS LEFT OF A CLAIM, as one function -/
def hx_Rn (odf svf szf gdf owf plf rf pof pdf psm pkf pst : Nat → Int32) (now : Int) (pm : Nat) (c : Int) : Int := hx_R (hx_al odf svf szf gdf owf plf rf now c) (hx_ps pof pdf psm pkf pst now now c pm)
theorem hx_Rn_pay {odf svf szf gdf owf plf rf pof pdf psm pkf pst pof1 pdf1 psm1 pkf1 pst1 : Nat → Int32} {now c : Int} {k : Nat} {v1 v2 v3 v4 v5 : Int32} (e1 : pof1 = hx_up pof k v1) (e2 : pdf1 = hx_up pdf k v2) (e3 : psm1 = hx_up psm k v3) (e4 : pkf1 = hx_up pkf k v4) (e5 : pst1 = hx_up pst k v5) (hc : v1.toInt ≠ c) : hx_Rn odf svf szf gdf owf plf rf pof1 pdf1 psm1 pkf1 pst1 now (k + 1) c = hx_Rn odf svf szf gdf owf plf rf pof pdf psm pkf pst now k c := by
  unfold hx_Rn; rw [hx_ps_pay e1 e2 e3 e4 e5 hc]
def hx_mt (agf byf : Nat → Int32) (q p : Int) (c : Int) : Bool := decide ((agf c.toNat).toInt = q) && decide ((byf c.toNat).toInt = p)
theorem hx_mt_t {agf byf : Nat → Int32} {q p c : Int} (h1 : (agf c.toNat).toInt = q) (h2 : (byf c.toNat).toInt = p) : hx_mt agf byf q p c = true := by simp [hx_mt, h1, h2]
theorem hx_mt_f {agf byf : Nat → Int32} {q p c : Int} (h : (agf c.toNat).toInt ≠ q ∨ (byf c.toNat).toInt ≠ p) : hx_mt agf byf q p c = false := by
  rcases h with h | h <;> simp [hx_mt, h]
theorem hx_mt_e {agf byf : Nat → Int32} {q p c : Int} (h : hx_mt agf byf q p c = true) : (agf c.toNat).toInt = q ∧ (byf c.toNat).toInt = p := by simpa [hx_mt] using h
/-- one claim further -/
theorem hx_tl_no {R : Int → Int} {mt : Int → Bool} {s l n k k1 : Int} (h : hx_tl R mt s k.toNat = (l, n)) (h0 : 0 ≤ k) (e : k1 = k + 1) (hc : ¬ (0 < l ∧ mt k = true ∧ 0 < R k)) : hx_tl R mt s k1.toNat = (l, n) := by
  subst e
  have e : (k + 1).toNat = k.toNat + 1 := by omega
  have ek : ((k.toNat : Nat) : Int) = k := by omega
  rw [e]; simp only [hx_tl, h, ek]; rw [if_neg hc]
theorem hx_tl_yes {R : Int → Int} {mt : Int → Bool} {s l n k k1 l1 n1 o : Int} (h : hx_tl R mt s k.toNat = (l, n)) (h0 : 0 ≤ k) (e : k1 = k + 1) (hl : 0 < l) (hm : mt k = true) (hr : 0 < R k) (ho : (o = l ∧ l < R k) ∨ (o = R k ∧ R k ≤ l)) (e1 : l1 = l - o) (e2 : n1 = n + 1) : hx_tl R mt s k1.toNat = (l1, n1) := by
  subst e; subst e1; subst e2
  have e : (k + 1).toNat = k.toNat + 1 := by omega
  have ek : ((k.toNat : Nat) : Int) = k := by omega
  rw [e]; simp only [hx_tl, h, ek]; rw [if_pos ⟨hl, hm, hr⟩]
  rcases ho with ⟨o1, o2⟩ | ⟨o1, o2⟩
  · rw [if_pos o2, o1]
  · rw [if_neg (by omega), o1]
theorem hx_tl_end {R : Int → Int} {mt : Int → Bool} {s l n k c : Int} (h : hx_tl R mt s k.toNat = (l, n)) (h0 : 0 ≤ k) (hk : k ≤ c) (he : k = c ∨ l ≤ 0) : (hx_tl R mt s c.toNat).2 = n := by
  rcases he with he | he
  · subst he; rw [h]
  · rw [hx_tl_stop k.toNat c.toNat (by omega) (by rw [h]; exact he), h]
/-! PURE FACTS: debts, rings, what is needed -/
def hx_DZ (db : Nat → Int32) (n : Int) : Prop := ∀ j : Nat, (j : Int) < n → (db j).toInt = 0
theorem hx_DZ_0 {db : Nat → Int32} : hx_DZ db 0 := fun j hj => by omega
theorem hx_DZ_s {db db1 : Nat → Int32} {n n1 : Int} {i : Int32} (h : hx_DZ db n) (e : n1 = n + 1) (d : db1 = hx_up db i.toNatClampNeg (0 : Int32)) (hi : i.toInt = n) (h0 : 0 ≤ n) : hx_DZ db1 n1 := by
  intro j hj
  subst d
  by_cases z : j = i.toNatClampNeg
  · subst z; rw [hx_up_at]; decide
  · rw [hx_up_ne z]
    refine h j ?_
    have : i.toNatClampNeg = n.toNat := by unfold Int32.toNatClampNeg; omega
    omega
def hx_DB (db : Nat → Int32) (R : Int → Int) (ag bf : Nat → Int32) (n : Int) : Prop := ∀ j : Nat, j < 1600 → (db j).toInt ≠ 0 → ∃ c : Int, 0 ≤ c ∧ c < n ∧ 0 < R c ∧ 40 * (ag c.toNat).toInt + (bf c.toNat).toInt = j
theorem hx_DB_0 {db : Nat → Int32} {R : Int → Int} {ag bf : Nat → Int32} {n : Int} (h : hx_DZ db n) (hn : 1600 ≤ n) : hx_DB db R ag bf 0 := fun j hj hz => absurd (h j (by omega)) hz
theorem hx_DB_no {db : Nat → Int32} {R : Int → Int} {ag bf : Nat → Int32} {n n1 : Int} (h : hx_DB db R ag bf n) (e : n1 = n + 1) : hx_DB db R ag bf n1 := fun j hj hz => by
  obtain ⟨c, h0, h1, h2, h3⟩ := h j hj hz
  exact ⟨c, h0, by omega, h2, h3⟩
theorem hx_DB_up {db db1 : Nat → Int32} {R : Int → Int} {ag bf : Nat → Int32} {n n1 : Int} {i v x1 x2 k : Int32} (h : hx_DB db R ag bf n) (h0 : 0 ≤ n) (e : n1 = n + 1) (d : db1 = hx_up db i.toNatClampNeg v) (hR : 0 < R n) (hk : k.toInt = n) (a1 : x1 = ag k.toNatClampNeg) (a2 : x2 = bf k.toNatClampNeg) (hi : i.toInt = 40 * x1.toInt + x2.toInt) (hi0 : 0 ≤ i.toInt) : hx_DB db1 R ag bf n1 := by
  intro j hj hz
  subst d
  have ek : k.toNatClampNeg = n.toNat := by unfold Int32.toNatClampNeg; omega
  by_cases z : j = i.toNatClampNeg
  · refine ⟨n, h0, by omega, hR, ?_⟩
    rw [ek] at a1 a2
    rw [← a1, ← a2, ← hi, z]
    unfold Int32.toNatClampNeg; omega
  · rw [hx_up_ne z] at hz
    obtain ⟨c, q0, q1, q2, q3⟩ := h j hj hz
    exact ⟨c, q0, by omega, q2, q3⟩
def hx_PR (rg db : Nat → Int32) (n l : Int) : Prop := (∀ i : Nat, (i : Int) < n → 0 ≤ (rg i).toInt ∧ (rg i).toInt ≤ 39) ∧ (∀ i j : Nat, (i : Int) < n → (j : Int) < n → i ≠ j → (rg i).toInt ≠ (rg j).toInt) ∧ ∀ i : Nat, (i : Int) + 1 < n → l ≤ (db (40 * (rg i).toInt + (rg (i + 1)).toInt).toNat).toInt
def hx_BR (br db : Nat → Int32) (n l : Int) : Prop := 0 ≤ l ∧ (n = 0 ∨ (2 ≤ n ∧ n ≤ 4 ∧ 1 ≤ l ∧ (∀ i : Nat, (i : Int) < n → 0 ≤ (br i).toInt ∧ (br i).toInt ≤ 39) ∧ (∀ i j : Nat, (i : Int) < n → (j : Int) < n → i ≠ j → (br i).toInt ≠ (br j).toInt) ∧ ∀ i : Nat, (i : Int) < n → (db (40 * (br i).toInt + (br (((i : Int) + 1) % n).toNat).toInt).toNat).toInt ≠ 0))
theorem hx_BR_0 {br db : Nat → Int32} : hx_BR br db 0 0 := ⟨Int.le_refl _, Or.inl rfl⟩
theorem hx_BR_new {rg br db : Nat → Int32} {n l s : Int} {x1 x2 bk ix k : Int32} (hP : hx_PR rg db n l) (h2 : 2 ≤ n) (h4 : n ≤ 4) (ab : bk = db ix.toNatClampNeg) (hix : ix.toInt = 40 * x1.toInt + x2.toInt) (hk : k.toInt = n - 1) (a1 : x1 = rg k.toNatClampNeg) (a2 : x2 = rg (0 : Int32).toNatClampNeg) (hs : s ≤ bk.toInt ∧ s ≤ l) (h1 : 1 ≤ s) (hc : ∀ k : Nat, (k : Int) < n → br k = rg k) : hx_BR br db n s := by
  refine ⟨by omega, Or.inr ⟨h2, h4, h1, fun i hi => by rw [hc i hi]; exact hP.1 i hi, fun i j hi hj hij => by rw [hc i hi, hc j hj]; exact hP.2.1 i j hi hj hij, fun i hi => ?_⟩⟩
  by_cases z : (i : Int) + 1 < n
  · have e : (((i : Int) + 1) % n).toNat = i + 1 := by rw [Int.emod_eq_of_lt (by omega) z]; omega
    rw [e, hc i hi, hc (i + 1) (by omega)]
    have := hP.2.2 i z
    omega
  · have e : (((i : Int) + 1) % n).toNat = 0 := by
      have w : (i : Int) + 1 = n := by omega
      rw [w, Int.emod_self]; rfl
    rw [e, hc i hi, hc 0 (by omega)]
    have k1 : k.toNatClampNeg = i := by unfold Int32.toNatClampNeg; omega
    have a2' : x2 = rg 0 := a2
    rw [k1] at a1
    have w : (40 * (rg i).toInt + (rg 0).toInt).toNat = ix.toNatClampNeg := by rw [← a1, ← a2']; unfold Int32.toNatClampNeg; omega
    rw [w, ← ab]
    omega
theorem hx_PRd {db : Nat → Int32} {x i : Int32} {a b l : Int} (h : x = db i.toNatClampNeg) (hi : i.toInt = 40 * a + b) (hl : l ≤ x.toInt) : l ≤ (db (40 * a + b).toNat).toInt := by
  have e : i.toNatClampNeg = (40 * a + b).toNat := by unfold Int32.toNatClampNeg; rw [hi]
  rw [← e, ← h]; exact hl
theorem hx_PR2 {rg db : Nat → Int32} {a b l : Int} {x0 i0 : Int32} (e0 : (rg 0).toInt = a) (e1 : (rg 1).toInt = b) (r0 : 0 ≤ a ∧ a ≤ 39) (r1 : 0 ≤ b ∧ b ≤ 39) (n1 : a ≠ b) (x0e : x0 = db i0.toNatClampNeg) (i0e : i0.toInt = 40 * a + b) (x0l : l ≤ x0.toInt) : hx_PR rg db 2 l := by
  have d0 := hx_PRd x0e i0e x0l
  refine ⟨fun i hi => ?_, fun i j hi hj hij => ?_, fun i hi => ?_⟩
  · rcases (show i = 0 ∨ i = 1 by omega) with rfl | rfl
    · rw [e0]; exact r0
    · rw [e1]; exact r1
  · rcases (show i = 0 ∨ i = 1 by omega) with rfl | rfl <;> rcases (show j = 0 ∨ j = 1 by omega) with rfl | rfl <;> first | exact absurd rfl hij | (simp only [e0, e1]; omega)
  · have : i = 0 := by omega
    subst this
    rw [e0, show (0 + 1 : Nat) = 1 from rfl, e1]; exact d0
theorem hx_PR3 {rg db : Nat → Int32} {a b c l : Int} {x0 i0 x1 i1 : Int32} (e0 : (rg 0).toInt = a) (e1 : (rg 1).toInt = b) (e2 : (rg 2).toInt = c) (r0 : 0 ≤ a ∧ a ≤ 39) (r1 : 0 ≤ b ∧ b ≤ 39) (r2 : 0 ≤ c ∧ c ≤ 39) (n1 : a ≠ b) (n2 : a ≠ c) (n3 : b ≠ c) (x0e : x0 = db i0.toNatClampNeg) (i0e : i0.toInt = 40 * a + b) (x0l : l ≤ x0.toInt) (x1e : x1 = db i1.toNatClampNeg) (i1e : i1.toInt = 40 * b + c) (x1l : l ≤ x1.toInt) : hx_PR rg db 3 l := by
  have d0 := hx_PRd x0e i0e x0l
  have d1 := hx_PRd x1e i1e x1l
  refine ⟨fun i hi => ?_, fun i j hi hj hij => ?_, fun i hi => ?_⟩
  · rcases (show i = 0 ∨ i = 1 ∨ i = 2 by omega) with rfl | rfl | rfl
    · rw [e0]; exact r0
    · rw [e1]; exact r1
    · rw [e2]; exact r2
  · rcases (show i = 0 ∨ i = 1 ∨ i = 2 by omega) with rfl | rfl | rfl <;> rcases (show j = 0 ∨ j = 1 ∨ j = 2 by omega) with rfl | rfl | rfl <;> first | exact absurd rfl hij | (simp only [e0, e1, e2]; omega)
  · rcases (show i = 0 ∨ i = 1 by omega) with rfl | rfl
    · rw [e0, show (0 + 1 : Nat) = 1 from rfl, e1]; exact d0
    · rw [e1, show (1 + 1 : Nat) = 2 from rfl, e2]; exact d1
theorem hx_PR4 {rg db : Nat → Int32} {a b c d l : Int} {x0 i0 x1 i1 x2 i2 : Int32} (e0 : (rg 0).toInt = a) (e1 : (rg 1).toInt = b) (e2 : (rg 2).toInt = c) (e3 : (rg 3).toInt = d) (r0 : 0 ≤ a ∧ a ≤ 39) (r1 : 0 ≤ b ∧ b ≤ 39) (r2 : 0 ≤ c ∧ c ≤ 39) (r3 : 0 ≤ d ∧ d ≤ 39) (n1 : a ≠ b) (n2 : a ≠ c) (n3 : b ≠ c) (n4 : a ≠ d) (n5 : b ≠ d) (n6 : c ≠ d) (x0e : x0 = db i0.toNatClampNeg) (i0e : i0.toInt = 40 * a + b) (x0l : l ≤ x0.toInt) (x1e : x1 = db i1.toNatClampNeg) (i1e : i1.toInt = 40 * b + c) (x1l : l ≤ x1.toInt) (x2e : x2 = db i2.toNatClampNeg) (i2e : i2.toInt = 40 * c + d) (x2l : l ≤ x2.toInt) : hx_PR rg db 4 l := by
  have d0 := hx_PRd x0e i0e x0l
  have d1 := hx_PRd x1e i1e x1l
  have d2 := hx_PRd x2e i2e x2l
  refine ⟨fun i hi => ?_, fun i j hi hj hij => ?_, fun i hi => ?_⟩
  · rcases (show i = 0 ∨ i = 1 ∨ i = 2 ∨ i = 3 by omega) with rfl | rfl | rfl | rfl
    · rw [e0]; exact r0
    · rw [e1]; exact r1
    · rw [e2]; exact r2
    · rw [e3]; exact r3
  · rcases (show i = 0 ∨ i = 1 ∨ i = 2 ∨ i = 3 by omega) with rfl | rfl | rfl | rfl <;> rcases (show j = 0 ∨ j = 1 ∨ j = 2 ∨ j = 3 by omega) with rfl | rfl | rfl | rfl <;> first | exact absurd rfl hij | (simp only [e0, e1, e2, e3]; omega)
  · rcases (show i = 0 ∨ i = 1 ∨ i = 2 by omega) with rfl | rfl | rfl
    · rw [e0, show (0 + 1 : Nat) = 1 from rfl, e1]; exact d0
    · rw [e1, show (1 + 1 : Nat) = 2 from rfl, e2]; exact d1
    · rw [e2, show (2 + 1 : Nat) = 3 from rfl, e3]; exact d2
/-- a place of a ring is filled -/
theorem hx_up_c {f g : Nat → Int32} {i x : Int32} {k : Nat} (d : g = hx_up f i.toNatClampNeg x) (hi : i.toNatClampNeg = k) : (g k).toInt = x.toInt := by
  subst d; subst hi; rw [hx_up_at]
theorem hx_up_o {f g : Nat → Int32} {i x : Int32} {k : Nat} {v : Int} (d : g = hx_up f i.toNatClampNeg x) (hi : i.toNatClampNeg ≠ k) (h : (f k).toInt = v) : (g k).toInt = v := by
  subst d; rw [hx_up_ne (Ne.symm hi)]; exact h
theorem hx_cp_s {f g r : Nat → Int32} {i x : Int32} {n n1 : Int} (h : ∀ k : Nat, (k : Int) < n → f k = r k) (d : g = hx_up f i.toNatClampNeg x) (a : x = r i.toNatClampNeg) (hi : i.toInt = n) (h0 : 0 ≤ n) (e : n1 = n + 1) : ∀ k : Nat, (k : Int) < n1 → g k = r k := by
  intro k hk
  subst d
  by_cases z : k = i.toNatClampNeg
  · subst z; rw [hx_up_at]; exact a
  · rw [hx_up_ne z]
    refine h k ?_
    have : i.toNatClampNeg = n.toNat := by unfold Int32.toNatClampNeg; omega
    omega
def hx_nd (R : Int → Int) (ag bf br : Nat → Int32) (n l : Int) (cn : Nat) : Nat → Int
  | 0 => 0
  | i + 1 => hx_nd R ag bf br n l cn i + (hx_tl R (hx_mt ag bf (br i).toInt (br (((i : Int) + 1) % n).toNat).toInt) l cn).2
theorem hx_nd_e {R : Int → Int} {ag bf br : Nat → Int32} {n l k k1 : Int} {cn : Nat} {i m q p : Int32} (h0 : 0 ≤ k) (e : k1 = k + 1) (hi : i.toInt = k) (a1 : q = br i.toNatClampNeg) (a2 : p = br m.toNatClampNeg) (hm : m.toInt = k1 % n) (hm0 : 0 ≤ m.toInt) : hx_nd R ag bf br n l cn k1.toNat = hx_nd R ag bf br n l cn k.toNat + (hx_tl R (hx_mt ag bf q.toInt p.toInt) l cn).2 := by
  subst e
  have e1 : (k + 1).toNat = k.toNat + 1 := by omega
  have ek : ((k.toNat : Nat) : Int) = k := by omega
  have ei : i.toNatClampNeg = k.toNat := by unfold Int32.toNatClampNeg; omega
  have em : m.toNatClampNeg = ((k + 1) % n).toNat := by unfold Int32.toNatClampNeg; omega
  rw [ei] at a1; rw [em] at a2
  rw [e1]; simp only [hx_nd, ek]; rw [a1, a2]
theorem hx_nd_mono {R : Int → Int} {ag bf br : Nat → Int32} {n l : Int} {cn : Nat} : ∀ i j : Nat, i ≤ j → hx_nd R ag bf br n l cn i ≤ hx_nd R ag bf br n l cn j := by
  intro i j h
  induction j with
  | zero => have : i = 0 := by omega
            subst this; exact Int.le_refl _
  | succ j ih =>
    by_cases z : i = j + 1
    · subst z; exact Int.le_refl _
    · have := ih (by omega)
      have := (hx_tl_mono (R := R) (mt := hx_mt ag bf (br j).toInt (br (((j : Int) + 1) % n).toNat).toInt) (s := l) cn cn (Nat.le_refl _)).1
      simp only [hx_nd]; omega
theorem hx_nd_pos {R : Int → Int} {ag bf br db : Nat → Int32} {n l : Int} {c : Int} (hD : hx_DB db R ag bf c) (hB : hx_BR br db n l) (hn : n ≠ 0) (hag : ∀ c : Nat, (c : Int) < 100 → 0 ≤ (ag c).toInt ∧ (ag c).toInt ≤ 39 ∧ 0 ≤ (bf c).toInt ∧ (bf c).toInt ≤ 39) (hc : c ≤ 100) : ∀ k : Nat, (k : Int) ≤ n → (k : Int) ≤ hx_nd R ag bf br n l c.toNat k := by
  obtain ⟨-, hB⟩ := hB
  rcases hB with hB | ⟨h2, h4, h1, hr, hne, hdb⟩
  · exact absurd hB hn
  · intro k
    induction k with
    | zero => intro _; exact Int.le_refl _
    | succ k ih =>
      intro hk
      have i1 := ih (by omega)
      have r1 := hr k (by omega)
      have m0 : 0 ≤ ((k : Int) + 1) % n := Int.emod_nonneg _ (by omega)
      have m1 : ((k : Int) + 1) % n < n := Int.emod_lt_of_pos _ (by omega)
      have r2 := hr (((k : Int) + 1) % n).toNat (by omega)
      have d := hdb k (by omega)
      obtain ⟨c0, q0, q1, q2, q3⟩ := hD _ (by omega) d
      have w := hag c0.toNat (by omega)
      have p := hx_tl_pos (R := R) (mt := hx_mt ag bf (br k).toInt (br (((k : Int) + 1) % n).toNat).toInt) (s := l) (by omega) c.toNat c0 q0 (by omega) (hx_mt_t (by omega) (by omega)) q2
      simp only [hx_nd]; omega
theorem hx_Rn_pay2 {odf svf szf gdf owf plf rf pof pdf psm pkf pst pof1 pdf1 psm1 pkf1 pst1 : Nat → Int32} {now c : Int} {pm p1 v1 v2 v3 v4 v5 : Int32} (hp : p1.toInt = pm.toInt + 1) (h0 : 0 ≤ pm.toInt) (e1 : pof1 = hx_up pof pm.toNatClampNeg v1) (e2 : pdf1 = hx_up pdf pm.toNatClampNeg v2) (e3 : psm1 = hx_up psm pm.toNatClampNeg v3) (e4 : pkf1 = hx_up pkf pm.toNatClampNeg v4) (e5 : pst1 = hx_up pst pm.toNatClampNeg v5) (hc : v1.toInt ≠ c) : hx_Rn odf svf szf gdf owf plf rf pof1 pdf1 psm1 pkf1 pst1 now p1.toInt.toNat c = hx_Rn odf svf szf gdf owf plf rf pof pdf psm pkf pst now pm.toInt.toNat c := by
  have e : p1.toInt.toNat = pm.toNatClampNeg + 1 := by unfold Int32.toNatClampNeg; omega
  have e' : pm.toInt.toNat = pm.toNatClampNeg := rfl
  rw [e, e']
  exact hx_Rn_pay e1 e2 e3 e4 e5 hc
theorem hx_tl_le {R : Int → Int} {mt : Int → Bool} {s l n k c : Int} (h : hx_tl R mt s k.toNat = (l, n)) (hk : k ≤ c) : n ≤ (hx_tl R mt s c.toNat).2 := by
  have := (hx_tl_mono (R := R) (mt := mt) (s := s) k.toNat c.toNat (by omega)).2
  rw [h] at this
  exact this
theorem hx_tk_cg {R R1 : Int → Int} {ag bf br db : Nat → Int32} {n l s k p : Int} {i q : Int32} (hB : hx_BR br db n l) (hn : n ≠ 0) (hk : 0 ≤ k) (hkn : k < n) (hi : i.toInt = k) (a1 : q = br i.toNatClampNeg) (h : ∀ c : Int, (∀ j : Nat, (j : Int) < k → (ag c.toNat).toInt ≠ (br j).toInt) → R1 c = R c) (cn : Nat) : (hx_tl R1 (hx_mt ag bf q.toInt p) s cn).2 = (hx_tl R (hx_mt ag bf q.toInt p) s cn).2 := by
  have e : i.toNatClampNeg = k.toNat := by unfold Int32.toNatClampNeg; omega
  rw [e] at a1
  have hd := (hB.2.resolve_left hn).2.2.2.2.1
  rw [hx_tl_congr cn (fun c h0 h1 hm => h c (fun j hj => by
    rw [(hx_mt_e hm).1, a1]
    exact hd _ _ (by omega) (by omega) (by omega)))]
theorem hx_tk_next {R R1 R2 : Int → Int} {ag bf br : Nat → Int32} {k k1 p : Int} {i q : Int32} (hk : 0 ≤ k) (e : k1 = k + 1) (hi : i.toInt = k) (a1 : q = br i.toNatClampNeg) (h : ∀ c : Int, (∀ j : Nat, (j : Int) < k → (ag c.toNat).toInt ≠ (br j).toInt) → R1 c = R c) (h2 : ∀ c : Int, hx_mt ag bf q.toInt p c = false → R2 c = R1 c) : ∀ c : Int, (∀ j : Nat, (j : Int) < k1 → (ag c.toNat).toInt ≠ (br j).toInt) → R2 c = R c := by
  intro c hc
  have e' : i.toNatClampNeg = k.toNat := by unfold Int32.toNatClampNeg; omega
  rw [e'] at a1
  refine (h2 c (hx_mt_f (Or.inl ?_))).trans (h c (fun j hj => hc j (by omega)))
  rw [a1]
  exact hc k.toNat (by omega)
