/-! PURE FACTS for the reference's net: what is left of a claim, what a ring takes -/
def hx_ps (pof pdf psm pkf pst : Nat → Int32) (day known c : Int) : Nat → Int
  | 0 => 0
  | n + 1 => hx_ps pof pdf psm pkf pst day known c n + (if (pof n).toInt = c ∧ (pdf n).toInt ≤ day ∧ (pkf n).toInt ≤ known ∧ ((pst n).toInt = -1 ∨ known < (pst n).toInt) then (psm n).toInt else 0)
theorem hx_ps_s {pof pdf psm pkf pst : Nat → Int32} {day known c k k1 : Int} (h0 : 0 ≤ k) (e1 : k1 = k + 1) : hx_ps pof pdf psm pkf pst day known c k1.toNat = hx_ps pof pdf psm pkf pst day known c k.toNat + (if (pof k.toNat).toInt = c ∧ (pdf k.toNat).toInt ≤ day ∧ (pkf k.toNat).toInt ≤ known ∧ ((pst k.toNat).toInt = -1 ∨ known < (pst k.toNat).toInt) then (psm k.toNat).toInt else 0) := by
  subst e1
  have e : (k + 1).toNat = k.toNat + 1 := by omega
  rw [e]; rfl
theorem hx_ps_no1 {pof pdf psm pkf pst : Nat → Int32} {day known c k k1 v : Int} {x i : Int32} (h : v = hx_ps pof pdf psm pkf pst day known c k.toNat) (h0 : 0 ≤ k) (e1 : k1 = k + 1) (a : x = pof i.toNatClampNeg) (hi : i.toInt = k) (hx : x.toInt ≠ c) : v = hx_ps pof pdf psm pkf pst day known c k1.toNat := by
  have ei : i.toNatClampNeg = k.toNat := by unfold Int32.toNatClampNeg; omega
  rw [ei] at a
  rw [hx_ps_s h0 e1, if_neg (fun q => hx (by rw [a]; exact q.1)), h]; omega
theorem hx_ps_no2 {pof pdf psm pkf pst : Nat → Int32} {day known c k k1 v : Int} {x i : Int32} (h : v = hx_ps pof pdf psm pkf pst day known c k.toNat) (h0 : 0 ≤ k) (e1 : k1 = k + 1) (a : x = pdf i.toNatClampNeg) (hi : i.toInt = k) (hx : day < x.toInt) : v = hx_ps pof pdf psm pkf pst day known c k1.toNat := by
  have ei : i.toNatClampNeg = k.toNat := by unfold Int32.toNatClampNeg; omega
  rw [ei] at a
  rw [hx_ps_s h0 e1, if_neg (fun q => by have := q.2.1; rw [← a] at this; omega), h]; omega
theorem hx_ps_no3 {pof pdf psm pkf pst : Nat → Int32} {day known c k k1 v : Int} {x i : Int32} (h : v = hx_ps pof pdf psm pkf pst day known c k.toNat) (h0 : 0 ≤ k) (e1 : k1 = k + 1) (a : x = pkf i.toNatClampNeg) (hi : i.toInt = k) (hx : known < x.toInt) : v = hx_ps pof pdf psm pkf pst day known c k1.toNat := by
  have ei : i.toNatClampNeg = k.toNat := by unfold Int32.toNatClampNeg; omega
  rw [ei] at a
  rw [hx_ps_s h0 e1, if_neg (fun q => by have := q.2.2.1; rw [← a] at this; omega), h]; omega
theorem hx_ps_no4 {pof pdf psm pkf pst : Nat → Int32} {day known c k k1 v : Int} {x i : Int32} (h : v = hx_ps pof pdf psm pkf pst day known c k.toNat) (h0 : 0 ≤ k) (e1 : k1 = k + 1) (a : x = pst i.toNatClampNeg) (hi : i.toInt = k) (hx : x.toInt ≠ -1) (hx2 : x.toInt ≤ known) : v = hx_ps pof pdf psm pkf pst day known c k1.toNat := by
  have ei : i.toNatClampNeg = k.toNat := by unfold Int32.toNatClampNeg; omega
  rw [ei] at a
  rw [hx_ps_s h0 e1, if_neg (fun q => by have := q.2.2.2; rw [← a] at this; omega), h]; omega
theorem hx_ps_yes {pof pdf psm pkf pst : Nat → Int32} {day known c k k1 v v1 : Int} {x1 x2 x3 x4 x5 i : Int32} (h : v = hx_ps pof pdf psm pkf pst day known c k.toNat) (h0 : 0 ≤ k) (e1 : k1 = k + 1) (hi : i.toInt = k) (a1 : x1 = pof i.toNatClampNeg) (a2 : x2 = pdf i.toNatClampNeg) (a3 : x3 = pkf i.toNatClampNeg) (a4 : x4 = pst i.toNatClampNeg) (a5 : x5 = psm i.toNatClampNeg) (h1 : x1.toInt = c) (h2 : x2.toInt ≤ day) (h3 : x3.toInt ≤ known) (h4 : x4.toInt = -1 ∨ known < x4.toInt) (hv : v1 = v + x5.toInt) : v1 = hx_ps pof pdf psm pkf pst day known c k1.toNat := by
  have ei : i.toNatClampNeg = k.toNat := by unfold Int32.toNatClampNeg; omega
  rw [ei] at a1 a2 a3 a4 a5
  rw [hx_ps_s h0 e1, if_pos ⟨by rw [← a1]; exact h1, by rw [← a2]; exact h2, by rw [← a3]; exact h3, by rw [← a4]; exact h4⟩, hv, h, a5]
theorem hx_ps_congr {pof pdf psm pkf pst pof1 pdf1 psm1 pkf1 pst1 : Nat → Int32} {day known c : Int} : ∀ n, (∀ j, j < n → pof j = pof1 j ∧ pdf j = pdf1 j ∧ psm j = psm1 j ∧ pkf j = pkf1 j ∧ pst j = pst1 j) → hx_ps pof pdf psm pkf pst day known c n = hx_ps pof1 pdf1 psm1 pkf1 pst1 day known c n := by
  intro n
  induction n with
  | zero => intro _; rfl
  | succ n ih =>
    intro h
    obtain ⟨a, b, c1, d, e⟩ := h n (by omega)
    simp only [hx_ps, ih (fun j hj => h j (by omega)), a, b, c1, d, e]
/-- a payment of another claim changes nothing -/
theorem hx_ps_pay {pof pdf psm pkf pst pof1 pdf1 psm1 pkf1 pst1 : Nat → Int32} {day known c : Int} {k : Nat} {v1 v2 v3 v4 v5 : Int32} (e1 : pof1 = hx_up pof k v1) (e2 : pdf1 = hx_up pdf k v2) (e3 : psm1 = hx_up psm k v3) (e4 : pkf1 = hx_up pkf k v4) (e5 : pst1 = hx_up pst k v5) (hc : v1.toInt ≠ c) : hx_ps pof1 pdf1 psm1 pkf1 pst1 day known c (k + 1) = hx_ps pof pdf psm pkf pst day known c k := by
  subst e1; subst e2; subst e3; subst e4; subst e5
  simp only [hx_ps, hx_up_at]
  rw [if_neg (fun q => hc q.1), Int.add_zero]
  exact hx_ps_congr k (fun j hj => by rw [hx_up_ne (by omega), hx_up_ne (by omega), hx_up_ne (by omega), hx_up_ne (by omega), hx_up_ne (by omega)]; exact ⟨rfl, rfl, rfl, rfl, rfl⟩)
/-- what a ring takes off the claims below n: what is left of its sum, and how many payments -/
def hx_tl (R : Int → Int) (mt : Int → Bool) (s : Int) : Nat → Int × Int
  | 0 => (s, 0)
  | n + 1 => if 0 < (hx_tl R mt s n).1 ∧ mt n = true ∧ 0 < R n then ((hx_tl R mt s n).1 - (if (hx_tl R mt s n).1 < R n then (hx_tl R mt s n).1 else R n), (hx_tl R mt s n).2 + 1) else hx_tl R mt s n
theorem hx_tl_mono {R : Int → Int} {mt : Int → Bool} {s : Int} : ∀ n m, n ≤ m → 0 ≤ (hx_tl R mt s n).2 ∧ (hx_tl R mt s n).2 ≤ (hx_tl R mt s m).2 := by
  have h0 : ∀ n, 0 ≤ (hx_tl R mt s n).2 := by
    intro n
    induction n with
    | zero => exact Int.le_refl _
    | succ n ih => simp only [hx_tl]; split <;> (try simp only) <;> omega
  intro n m h
  refine ⟨h0 n, ?_⟩
  induction m with
  | zero => have : n = 0 := by omega
            subst this; exact Int.le_refl _
  | succ m ih =>
    by_cases z : n = m + 1
    · subst z; exact Int.le_refl _
    · have := ih (by omega)
      simp only [hx_tl]; split <;> (try simp only) <;> omega
theorem hx_tl_stop {R : Int → Int} {mt : Int → Bool} {s : Int} : ∀ n m, n ≤ m → (hx_tl R mt s n).1 ≤ 0 → hx_tl R mt s m = hx_tl R mt s n := by
  intro n m h hz
  induction m with
  | zero => have : n = 0 := by omega
            subst this; rfl
  | succ m ih =>
    by_cases z : n = m + 1
    · subst z; rfl
    · have := ih (by omega)
      simp only [hx_tl]
      rw [if_neg (fun q => by rw [this] at q; omega), this]
theorem hx_tl_congr {R R1 : Int → Int} {mt : Int → Bool} {s : Int} : ∀ n : Nat, (∀ c : Int, 0 ≤ c → c < n → mt c = true → R c = R1 c) → hx_tl R mt s n = hx_tl R1 mt s n := by
  intro n
  induction n with
  | zero => intro _; rfl
  | succ n ih =>
    intro h
    have e := ih (fun c h0 h1 => h c h0 (by omega))
    simp only [hx_tl, e]
    by_cases z : mt n = true
    · rw [h n (by omega) (by omega) z]
    · simp [z]
theorem hx_tl_pos {R : Int → Int} {mt : Int → Bool} {s : Int} (hs : 0 < s) : ∀ (n : Nat) (c : Int), 0 ≤ c → c < n → mt c = true → 0 < R c → 1 ≤ (hx_tl R mt s n).2 := by
  intro n
  induction n with
  | zero => intro c h0 h1; omega
  | succ n ih =>
    intro c h0 h1 hm hR
    by_cases hp : 1 ≤ (hx_tl R mt s n).2
    · have := (hx_tl_mono (R := R) (mt := mt) (s := s) n (n + 1) (by omega)).2; omega
    · have hz : ∀ k : Nat, k ≤ n → hx_tl R mt s k = (s, 0) := by
        intro k
        induction k with
        | zero => intro _; rfl
        | succ k ihk =>
          intro hk
          have e := ihk (by omega)
          simp only [hx_tl, e]
          by_cases q : 0 < s ∧ mt (k : Int) = true ∧ 0 < R (k : Int)
          · exfalso
            have : (hx_tl R mt s (k + 1)).2 = 1 := by simp only [hx_tl, e]; rw [if_pos q]; rfl
            have := (hx_tl_mono (R := R) (mt := mt) (s := s) (k + 1) n (by omega)).2
            omega
          · rw [if_neg q]
      have ez := hz n (Nat.le_refl _)
      by_cases z : c = n
      · subst z
        simp only [hx_tl, ez]
        rw [if_pos ⟨hs, hm, hR⟩]; simp
      · have := ih c h0 (by omega) hm hR
        omega
/-- all that is owed of a claim on a day, less the goods that were seized -/
def hx_ax (szf gdf owf plf rf : Nat → Int32) (day c : Int) : Int := if (szf c.toNat).toInt ≠ -1 ∧ (szf c.toNat).toInt ≤ day then (owf c.toNat + rf (13 * (plf c.toNat).toInt.toNat + 12)).toInt - (gdf c.toNat).toInt else (owf c.toNat + 0).toInt
def hx_al (odf svf szf gdf owf plf rf : Nat → Int32) (day c : Int) : Option Int := if (odf c.toNat).toInt = -1 ∨ day < (odf c.toNat).toInt then none else if (svf c.toNat).toInt ≠ -1 ∧ (svf c.toNat).toInt ≤ day then none else some (hx_ax szf gdf owf plf rf day c)
def hx_R (al : Option Int) (s : Int) : Int := match al with
  | none => 0
  | some a => if s < a then a - s else 0
theorem hx_R_none {odf svf szf gdf owf plf rf : Nat → Int32} {day c s : Int} (h : (odf c.toNat).toInt = -1 ∨ day < (odf c.toNat).toInt) : hx_R (hx_al odf svf szf gdf owf plf rf day c) s = 0 := by
  unfold hx_al; rw [if_pos h]; rfl
theorem hx_R_served {odf svf szf gdf owf plf rf : Nat → Int32} {day c s : Int} (h : (svf c.toNat).toInt ≠ -1 ∧ (svf c.toNat).toInt ≤ day) : hx_R (hx_al odf svf szf gdf owf plf rf day c) s = 0 := by
  unfold hx_al
  by_cases z : (odf c.toNat).toInt = -1 ∨ day < (odf c.toNat).toInt
  · rw [if_pos z]; rfl
  · rw [if_neg z, if_pos h]; rfl
theorem hx_R_some {odf svf szf gdf owf plf rf : Nat → Int32} {day c s : Int} (h1 : ¬ ((odf c.toNat).toInt = -1 ∨ day < (odf c.toNat).toInt)) (h2 : ¬ ((svf c.toNat).toInt ≠ -1 ∧ (svf c.toNat).toInt ≤ day)) : hx_R (hx_al odf svf szf gdf owf plf rf day c) s = (if s < hx_ax szf gdf owf plf rf day c then hx_ax szf gdf owf plf rf day c - s else 0) := by
  unfold hx_al; rw [if_neg h1, if_neg h2]; rfl
