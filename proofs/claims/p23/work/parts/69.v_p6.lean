/-! WHAT WAS TOLD: bits -/
theorem hv_sh1 : ∀ k, k < 32 → ((1 : Int32) <<< ((Int32.ofNat k) &&& 31)).toBitVec = BitVec.twoPow 32 k := by decide +kernel
theorem hv_sh1i {i b : Int32} (h0 : 0 ≤ i.toInt) (h1 : i.toInt ≤ 31) (eb : b = (1 : Int32) <<< (i &&& 31)) : b.toBitVec = BitVec.twoPow 32 i.toInt.toNat := by
  have e : i = Int32.ofNat i.toInt.toNat := Int32.toInt_inj.mp (by rw [Int32.toInt_ofNat_of_lt (by omega)]; omega)
  rw [eb]
  have h := hv_sh1 i.toInt.toNat (by omega)
  rw [← e] at h
  exact h
theorem hv_b_and {x i b c : Int32} (h0 : 0 ≤ i.toInt) (h1 : i.toInt ≤ 31) (eb : b = (1 : Int32) <<< (i &&& 31)) (ec : c = x &&& b) : c.toInt ≠ 0 ↔ x.toBitVec.getLsbD i.toInt.toNat = true := by
  have hb := hv_sh1i h0 h1 eb
  have hc : c.toBitVec = x.toBitVec &&& BitVec.twoPow 32 i.toInt.toNat := by rw [ec, ← hb]; rfl
  rw [BitVec.and_twoPow] at hc
  constructor
  · intro hn
    cases hg : x.toBitVec.getLsbD i.toInt.toNat with
    | true => rfl
    | false =>
      rw [hg] at hc
      exact absurd (show c.toInt = 0 by show c.toBitVec.toInt = 0; rw [hc]; rfl) hn
  · intro hg hz
    rw [hg, if_pos rfl] at hc
    have hz2 : c.toBitVec = 0#32 := BitVec.eq_of_toInt_eq hz
    have h3 : (BitVec.twoPow 32 i.toInt.toNat).getLsbD i.toInt.toNat = false := by rw [← hc, hz2]; exact BitVec.getLsbD_zero
    rw [BitVec.getLsbD_twoPow, decide_eq_true (show i.toInt.toNat < 32 by omega), decide_eq_true rfl] at h3
    cases h3
theorem hv_b_or {x i b c : Int32} (h0 : 0 ≤ i.toInt) (h1 : i.toInt ≤ 31) (eb : b = (1 : Int32) <<< (i &&& 31)) (ec : c = x ||| b) (j : Nat) : c.toBitVec.getLsbD j = (x.toBitVec.getLsbD j || decide (i.toInt.toNat = j)) := by
  have hb := hv_sh1i h0 h1 eb
  have hc : c.toBitVec = x.toBitVec ||| BitVec.twoPow 32 i.toInt.toNat := by rw [ec, ← hb]; rfl
  rw [hc, BitVec.getLsbD_or, BitVec.getLsbD_twoPow]
  have : decide (i.toInt.toNat < 32) = true := decide_eq_true (by omega)
  rw [this, Bool.true_and]
/-- what was told, as the class has it, and as the reference has it -/
def hv_sC (x : Int32) : Nat → Bool := fun k => if k < 14 then x.toBitVec.getLsbD (k + 1) else false
def hv_rx (k : Nat) : Nat := if k = 13 then 20 else k
def hv_sR (x : Int32) : Nat → Bool := fun k => if k < 14 then x.toBitVec.getLsbD (hv_rx k) else false
theorem hv_sC_u {x i b c : Int32} (h0 : 1 ≤ i.toInt) (h1 : i.toInt ≤ 14) (eb : b = (1 : Int32) <<< (i &&& 31)) (ec : c = x ||| b) : hv_sC c = hv_ub (hv_sC x) (i.toInt - 1).toNat := by
  funext j
  unfold hv_sC hv_ub
  dsimp only
  by_cases hj : j < 14
  · rw [if_pos hj, if_pos hj, hv_b_or (by omega) (by omega) eb ec]
    by_cases e : j = (i.toInt - 1).toNat
    · rw [if_pos e, decide_eq_true (by omega), Bool.or_true]
    · rw [if_neg e, decide_eq_false (by omega), Bool.or_false]
  · rw [if_neg hj, if_neg hj, if_neg (by omega)]
theorem hv_sC_a {x i : Int32} (h0 : 1 ≤ i.toInt) (h1 : i.toInt ≤ 14) : hv_sC x (i.toInt - 1).toNat = x.toBitVec.getLsbD i.toInt.toNat := by
  unfold hv_sC
  rw [if_pos (by omega), show (i.toInt - 1).toNat + 1 = i.toInt.toNat by omega]
theorem hv_sC_0 : hv_sC 0 = fun _ => false := by
  funext j
  unfold hv_sC
  split
  · exact BitVec.getLsbD_zero
  · rfl
theorem hv_sR_0 : hv_sR 0 = fun _ => false := by
  funext j
  unfold hv_sR
  split
  · exact BitVec.getLsbD_zero
  · rfl
theorem hv_sR_u {x i b c : Int32} (k : Nat) (hk : k < 14) (hi : i.toInt = (hv_rx k : Int)) (eb : b = (1 : Int32) <<< (i &&& 31)) (ec : c = x ||| b) : hv_sR c = hv_ub (hv_sR x) k := by
  have hr : hv_rx k ≤ 20 := by unfold hv_rx; split <;> omega
  funext j
  unfold hv_sR hv_ub
  dsimp only
  by_cases hj : j < 14
  · rw [if_pos hj, if_pos hj, hv_b_or (by omega) (by omega) eb ec, hi, Int.toNat_natCast]
    by_cases e : j = k
    · rw [if_pos e, e, decide_eq_true rfl, Bool.or_true]
    · rw [if_neg e, decide_eq_false (by unfold hv_rx; split <;> split <;> omega), Bool.or_false]
  · rw [if_neg hj, if_neg hj, if_neg (by omega)]
/-- a bit, shifted down -/
theorem hv_b_sh {x i d c : Int32} (h0 : 0 ≤ i.toInt) (h1 : i.toInt ≤ 20) (ed : d = x >>> (i &&& 31)) (ec : c = d &&& 1) : c.toInt = 1 ↔ x.toBitVec.getLsbD i.toInt.toNat = true := by
  have ei : i = Int32.ofNat i.toInt.toNat := Int32.toInt_inj.mp (by rw [Int32.toInt_ofNat_of_lt (by omega)]; omega)
  have hs : ∀ k, k < 21 → ((Int32.ofNat k) &&& 31).toBitVec.smod 32 = BitVec.ofNat 32 k := by decide +kernel
  have hk : ∀ k, k < 21 → (BitVec.ofNat 32 k).toNat = k := by decide +kernel
  have hd : d.toBitVec = x.toBitVec.sshiftRight i.toInt.toNat := by
    rw [ed]
    show x.toBitVec.sshiftRight ((i &&& 31).toBitVec.smod 32).toNat = _
    have h2 := hs i.toInt.toNat (by omega)
    rw [← ei] at h2
    rw [h2, hk _ (by omega)]
  have hc : c.toBitVec = BitVec.setWidth 32 (BitVec.ofBool (x.toBitVec.getLsbD i.toInt.toNat)) := by
    have h3 : c.toBitVec = d.toBitVec &&& 1#32 := by rw [ec]; rfl
    rw [h3, BitVec.and_one_eq_setWidth_ofBool_getLsbD, hd, BitVec.getLsbD_sshiftRight]
    congr 2
    simp
    unfold Int32.toNatClampNeg
    omega
  have hv : c.toInt = c.toBitVec.toInt := rfl
  rw [hv, hc]
  cases x.toBitVec.getLsbD i.toInt.toNat with
  | true => exact ⟨fun _ => rfl, fun _ => by decide⟩
  | false => exact ⟨fun z => absurd z (by decide), fun z => by cases z⟩
/-! NUMBERS OF CLAUSES -/
def hv_rC (f : Nat → Int32) : Nat → Int := fun k => if k < 13 then (f (k + 1)).toInt else 0
def hv_rR (f : Nat → Int32) : Nat → Int := fun k => if k < 13 then (f k).toInt else 0
theorem hv_rC_u {f f1 : Nat → Int32} {i v : Int32} (h0 : 1 ≤ i.toInt) (h1 : i.toInt ≤ 13) (e : f1 = hx_up f i.toNatClampNeg v) : hv_rC f1 = hv_ud (hv_rC f) (i.toInt - 1).toNat v.toInt := by
  funext j
  unfold hv_rC hv_ud
  by_cases z : j = (i.toInt - 1).toNat
  · rw [if_pos (by omega), if_pos z, e, show j + 1 = i.toNatClampNeg by unfold Int32.toNatClampNeg; omega, hx_up_at]
  · rw [if_neg z, e, hx_up_ne (by unfold Int32.toNatClampNeg; omega)]
theorem hv_rR_u {f f1 : Nat → Int32} {i v : Int32} (h0 : 0 ≤ i.toInt) (h1 : i.toInt ≤ 12) (e : f1 = hx_up f i.toNatClampNeg v) : hv_rR f1 = hv_ud (hv_rR f) i.toInt.toNat v.toInt := by
  funext j
  unfold hv_rR hv_ud
  by_cases z : j = i.toInt.toNat
  · rw [if_pos (by omega), if_pos z, e, show j = i.toNatClampNeg by unfold Int32.toNatClampNeg; omega, hx_up_at]
  · rw [if_neg z, e, hx_up_ne (by unfold Int32.toNatClampNeg; omega)]
theorem hv_ltv : ∀ k, 1 ≤ k → k < 14 → ∀ x : Int32, Value.int x = P_lt k → x.toInt = hv_lo (k - 1) := by
  intro k h1 h2 x h
  rcases (show k = 1 ∨ k = 2 ∨ k = 3 ∨ k = 4 ∨ k = 5 ∨ k = 6 ∨ k = 7 ∨ k = 8 ∨ k = 9 ∨ k = 10 ∨ k = 11 ∨ k = 12 ∨ k = 13 by omega) with z | z | z | z | z | z | z | z | z | z | z | z | z <;> subst z <;> (have h3 := Value.int.inj h; rw [h3]; decide)
theorem hv_mtv : ∀ k, 1 ≤ k → k < 14 → ∀ x : Int32, Value.int x = P_mt k → x.toInt = hv_hi (k - 1) := by
  intro k h1 h2 x h
  rcases (show k = 1 ∨ k = 2 ∨ k = 3 ∨ k = 4 ∨ k = 5 ∨ k = 6 ∨ k = 7 ∨ k = 8 ∨ k = 9 ∨ k = 10 ∨ k = 11 ∨ k = 12 ∨ k = 13 by omega) with z | z | z | z | z | z | z | z | z | z | z | z | z <;> subst z <;> (have h3 := Value.int.inj h; rw [h3]; decide)
theorem hv_lo_b (k : Nat) : 0 ≤ hv_lo k := by unfold hv_lo; split <;> omega
section HVN
variable {T : Nat → Int32} {n p q : Nat} {lo hi : Int} {sn : Nat → Bool} {rd : Nat → Int} {o o1 : List hv_tok} {x k : Nat} {a b : Nat × Int} {p1 t1 : Nat}
theorem hv_num_1 (h : hv_sk T n p < n → hv_dg T (hv_sk T n p) = false) : hv_num T n p lo hi = .inl (1 + 8 * hv_sk T n p) := if_neg (fun z => by rw [h z.1] at z; exact absurd z.2 (by decide))
theorem hv_num_2 (h : hv_sk T n p < n ∧ hv_dg T (hv_sk T n p) = true) (h2 : ¬ (hv_de T n (hv_sk T n p) - hv_sk T n p ≤ 4 ∧ lo ≤ hv_dv T (hv_sk T n p) (hv_de T n (hv_sk T n p) - hv_sk T n p) ∧ hv_dv T (hv_sk T n p) (hv_de T n (hv_sk T n p) - hv_sk T n p) ≤ hi)) : hv_num T n p lo hi = .inl (2 + 8 * hv_sk T n p) := (if_pos h).trans (if_neg h2)
theorem hv_num_3 (h : hv_sk T n p < n ∧ hv_dg T (hv_sk T n p) = true) (h2 : hv_de T n (hv_sk T n p) - hv_sk T n p ≤ 4) (h3 : lo ≤ hv_dv T (hv_sk T n p) (hv_de T n (hv_sk T n p) - hv_sk T n p)) (h4 : hv_dv T (hv_sk T n p) (hv_de T n (hv_sk T n p) - hv_sk T n p) ≤ hi) : hv_num T n p lo hi = .inr (hv_de T n (hv_sk T n p), hv_dv T (hv_sk T n p) (hv_de T n (hv_sk T n p) - hv_sk T n p)) := (if_pos h).trans (if_pos ⟨h2, h3, h4⟩)
theorem hv_co_1 (h : ¬ (21 ≤ hv_wd T n q ∧ hv_wd T n q ≤ 24)) : hv_co T n q sn rd o = .inl (1 + 8 * q) := if_neg h
theorem hv_co_2 (h : 21 ≤ hv_wd T n q ∧ hv_wd T n q ≤ 24) (hs : sn (hv_wd T n q - 12).toNat = true) : hv_co T n q sn rd o = .inl (3 + 8 * q) := (if_pos h).trans (if_pos hs)
theorem hv_co_3 (h : 21 ≤ hv_wd T n q ∧ hv_wd T n q ≤ 24) (hs : sn (hv_wd T n q - 12).toNat = false) (hn : hv_num T n (hv_we T n q) 0 999 = .inl x) : hv_co T n q sn rd o = .inl x := by
  refine (if_pos h).trans ((if_neg (by rw [hs]; decide)).trans ?_)
  rw [hn]; rfl
theorem hv_co_4 (h : 21 ≤ hv_wd T n q ∧ hv_wd T n q ≤ 24) (hs : sn (hv_wd T n q - 12).toNat = false) (hn : hv_num T n (hv_we T n q) 0 999 = .inr a) : hv_co T n q sn rd o = .inr (a.1, hv_ub sn (hv_wd T n q - 12).toNat, hv_ud rd (hv_wd T n q - 12).toNat a.2, o) := by
  refine (if_pos h).trans ((if_neg (by rw [hs]; decide)).trans ?_)
  rw [hn]; rfl
theorem hv_cl_1 (h : ¬ (11 ≤ hv_wd T n (hv_sk T n p) ∧ hv_wd T n (hv_sk T n p) ≤ 20)) : hv_cl T n p sn rd o = .inl (1 + 8 * hv_sk T n p) := if_neg h
theorem hv_cl_c (h : hv_wd T n (hv_sk T n p) = 19) : hv_cl T n p sn rd o = hv_co T n (hv_sk T n (hv_we T n (hv_sk T n p))) sn rd o := by
  unfold hv_cl; rw [if_pos (by omega), if_neg (by omega), if_pos h]
theorem hv_cl_p1 (h : hv_wd T n (hv_sk T n p) = 20) (hs : sn 13 = true) : hv_cl T n p sn rd o = .inl (3 + 8 * hv_sk T n p) := by
  unfold hv_cl; rw [if_pos (by omega), if_pos h, if_pos hs]
theorem hv_cl_p2 (h : hv_wd T n (hv_sk T n p) = 20) (hs : sn 13 = false) (he : hv_LE T n 8 false false (hv_we T n (hv_sk T n p)) 0 [] = .inl x) : hv_cl T n p sn rd o = .inl x := by
  unfold hv_cl; rw [if_pos (by omega), if_pos h, if_neg (by rw [hs]; decide), he]; rfl
theorem hv_cl_p3 (h : hv_wd T n (hv_sk T n p) = 20) (hs : sn 13 = false) (he : hv_LE T n 8 false false (hv_we T n (hv_sk T n p)) 0 [] = .inr (p1, t1, o1)) : hv_cl T n p sn rd o = .inr (p1, hv_ub sn 13, rd, o1) := by
  unfold hv_cl; rw [if_pos (by omega), if_pos h, if_neg (by rw [hs]; decide), he]; rfl
theorem hv_cl_k (h : 11 ≤ hv_wd T n (hv_sk T n p) ∧ hv_wd T n (hv_sk T n p) ≤ 18) (hk : k = hv_kk (hv_wd T n (hv_sk T n p))) : hv_cl T n p sn rd o = hv_ck T n (hv_sk T n p) k sn rd o := by
  subst hk
  unfold hv_cl; rw [if_pos (by omega), if_neg (by omega), if_neg (by omega)]
theorem hv_ck_1 (hs : sn k = true) : hv_ck T n p k sn rd o = .inl (3 + 8 * p) := if_pos hs
theorem hv_ck_2 (hs : sn k = false) (hn : hv_num T n (hv_we T n p) (hv_lo k) (hv_hi k) = .inl x) : hv_ck T n p k sn rd o = .inl x := by
  refine (if_neg (by rw [hs]; decide)).trans ?_
  rw [hn]; rfl
theorem hv_ck_3 (hs : sn k = false) (hn : hv_num T n (hv_we T n p) (hv_lo k) (hv_hi k) = .inr a) (h5 : k ≠ 5) : hv_ck T n p k sn rd o = .inr (a.1, hv_ub sn k, hv_ud rd k a.2, o) := by
  refine (if_neg (by rw [hs]; decide)).trans ?_
  rw [hn, hv_bd_r]
  exact if_neg h5
theorem hv_ck_4 (hs : sn 5 = false) (hn : hv_num T n (hv_we T n p) (hv_lo 5) (hv_hi 5) = .inr a) (hm : hv_num T n a.1 1 30 = .inl x) : hv_ck T n p 5 sn rd o = .inl x := by
  refine (if_neg (by rw [hs]; decide)).trans ?_
  rw [hn, hv_bd_r]
  refine (if_pos rfl).trans ?_
  rw [hm]; rfl
theorem hv_ck_5 (hs : sn 5 = false) (hn : hv_num T n (hv_we T n p) (hv_lo 5) (hv_hi 5) = .inr a) (hm : hv_num T n a.1 1 30 = .inr b) : hv_ck T n p 5 sn rd o = .inr (b.1, hv_ub sn 5, hv_ud (hv_ud rd 5 a.2) 6 b.2, o) := by
  refine (if_neg (by rw [hs]; decide)).trans ?_
  rw [hn, hv_bd_r]
  refine (if_pos rfl).trans ?_
  rw [hm]; rfl
theorem hv_AL_1 {s : hv_st} (h : hv_cl T n s.1 s.2.1 s.2.2.1 s.2.2.2 = .inl x) : hv_AL T n s = .inl x := by
  rw [hv_AL_t, h]; rfl
theorem hv_AL_2 {s q : hv_st} (h : hv_cl T n s.1 s.2.1 s.2.2.1 s.2.2.2 = .inr q) (hn : n ≤ hv_sk T n q.1) : hv_AL T n s = .inr (hv_sk T n q.1, q.2) := by
  rw [hv_AL_t, h, hv_bd_r]; exact if_neg (by omega)
theorem hv_AL_3 {s q : hv_st} (h : hv_cl T n s.1 s.2.1 s.2.2.1 s.2.2.2 = .inr q) (hn : hv_sk T n q.1 < n) (h5 : (T (hv_sk T n q.1)).toInt ≠ 59) : hv_AL T n s = .inl (1 + 8 * hv_sk T n q.1) := by
  rw [hv_AL_t, h, hv_bd_r]; exact (if_pos hn).trans (if_neg h5)
theorem hv_AL_4 {s q : hv_st} (h : hv_cl T n s.1 s.2.1 s.2.2.1 s.2.2.2 = .inr q) (hn : hv_sk T n q.1 < n) (h5 : (T (hv_sk T n q.1)).toInt = 59) : hv_AL T n s = hv_AL T n (hv_sk T n q.1 + 1, q.2) := by
  rw [hv_AL_t (s := s), h, hv_bd_r]; exact (if_pos hn).trans (if_pos h5)
end HVN
/-- what a method answers of a CLAUSE -/
def hv_CK (e : hv_tok → Int) (sp : Nat ⊕ hv_st) (r ft p : Int) (sn : Nat → Bool) (rd : Nat → Int) (ls : List Int) : Prop := (r = 1 ∧ ft = 0 ∧ 0 ≤ p ∧ ∃ o, ls = o.map e ∧ sp = .inr (p.toNat, sn, rd, o)) ∨ (r = 0 ∧ 1 ≤ ft ∧ sp = .inl ft.toNat)
section HVCK
variable {e : hv_tok → Int} {sp sp' : Nat ⊕ hv_st} {r ft p : Int} {sn : Nat → Bool} {rd : Nat → Int} {ls : List Int}
theorem hv_CK_1 (h : hv_CK e sp r ft p sn rd ls) (z : 1 ≤ r) : ft = 0 ∧ 0 ≤ p ∧ ∃ o, ls = o.map e ∧ sp = .inr (p.toNat, sn, rd, o) := by
  rcases h with ⟨_, w⟩ | ⟨a, _⟩
  · exact w
  · exfalso; omega
theorem hv_CK_0 (h : hv_CK e sp r ft p sn rd ls) (z : r ≤ 0) : 1 ≤ ft ∧ sp = .inl ft.toNat := by
  rcases h with ⟨a, _⟩ | ⟨_, w⟩
  · exfalso; omega
  · exact w
theorem hv_CK_b (h : hv_CK e sp r ft p sn rd ls) : r = 0 ∨ r = 1 := by
  rcases h with ⟨a, _⟩ | ⟨a, _⟩
  · exact Or.inr a
  · exact Or.inl a
theorem hv_CK_c (h : hv_CK e sp r ft p sn rd ls) (z : sp' = sp) : hv_CK e sp' r ft p sn rd ls := z ▸ h
theorem hv_CK_f {x : Nat} (hr : r = 0) (hf : ft = (x : Int)) (hx : 1 ≤ x) (h : sp = .inl x) : hv_CK e sp r ft p sn rd ls := Or.inr ⟨hr, by omega, by rw [h, hf, Int.toNat_natCast]⟩
theorem hv_CK_t {x : Nat} {sn' : Nat → Bool} {rd' : Nat → Int} {o : List hv_tok} (hr : r = 1) (hf : ft = 0) (hp : p = (x : Int)) (hs : sn = sn') (hd : rd = rd') (hl : ls = o.map e) (h : sp = .inr (x, sn', rd', o)) : hv_CK e sp r ft p sn rd ls := Or.inl ⟨hr, hf, by omega, o, hl, by rw [h, hp, hs, hd, Int.toNat_natCast]⟩
end HVCK
/-- what a method answers of a NUMBER that it keeps -/
def hv_N (sp : Nat ⊕ (Nat × Int)) (r ft ft0 p : Int) (d d1 : Nat → Int32) (i : Nat) : Prop := (r = 1 ∧ ft = ft0 ∧ ∃ v : Int32, sp = .inr (p.toNat, v.toInt) ∧ d1 = hx_up d i v) ∨ (r = 0 ∧ 1 ≤ ft ∧ sp = .inl ft.toNat)
section HVNN
variable {sp : Nat ⊕ (Nat × Int)} {r ft ft0 p : Int} {d d1 : Nat → Int32} {i : Nat}
theorem hv_N_1 (h : hv_N sp r ft ft0 p d d1 i) (z : 1 ≤ r) : ft = ft0 ∧ ∃ v : Int32, sp = .inr (p.toNat, v.toInt) ∧ d1 = hx_up d i v := by
  rcases h with ⟨_, w⟩ | ⟨a, _⟩
  · exact w
  · exfalso; omega
theorem hv_N_b (h : hv_N sp r ft ft0 p d d1 i) : r = 0 ∨ r = 1 := by
  rcases h with ⟨a, _⟩ | ⟨a, _⟩
  · exact Or.inr a
  · exact Or.inl a
theorem hv_N_0 (h : hv_N sp r ft ft0 p d d1 i) (z : r ≤ 0) : 1 ≤ ft ∧ sp = .inl ft.toNat := by
  rcases h with ⟨a, _⟩ | ⟨_, w⟩
  · exfalso; omega
  · exact w
end HVNN
theorem hv_lo9 {k : Nat} (h : 8 ≤ k) : hv_lo k = 0 := by unfold hv_lo; rw [if_pos (by omega)]
theorem hv_hi9 {k : Nat} (h : 9 ≤ k) : hv_hi k = 999 := match k, h with
  | _ + 9, _ => rfl
theorem hv_ub_at {f : Nat → Bool} {k : Nat} : hv_ub f k k = true := if_pos rfl
theorem hv_ub_ne {f : Nat → Bool} {k j : Nat} (h : j ≠ k) : hv_ub f k j = f j := if_neg h
theorem hv_kk_r {w r : Int} (h1 : 1 ≤ r) (h2 : r ≤ 9) (h7 : r ≠ 7) (e : w = (if r ≤ 6 then 10 + r else 9 + r)) : hv_kk w = (r - 1).toNat := by
  unfold hv_kk
  by_cases z : r ≤ 6
  · rw [if_pos z] at e
    rw [if_pos (by omega)]; omega
  · rw [if_neg z] at e
    rw [if_neg (by omega)]; omega
/-- what stands at the head of the clauses' loop -/
def hv_AI (e : hv_tok → Int) (T : Nat → Int32) (n : Nat) (sp : Nat ⊕ hv_st) (g ft p t i : Int) (sn : Nat → Bool) (rd : Nat → Int) (ls : List Int) : Prop :=
  (g = 1 ∧ ft = 0 ∧ 0 ≤ p ∧ p ≤ n ∧ i ≤ p ∧ (0 ≤ t ∧ t ≤ 20) ∧ (sn 13 = false → t = 0) ∧ ∃ o, ls = o.map e ∧ sp = hv_AL T n (p.toNat, sn, rd, o)) ∨ (g = 0 ∧ ft = 0 ∧ ∃ x sn' o, ls = o.map e ∧ sp = .inr (x, sn', rd, o)) ∨ (g = 0 ∧ 1 ≤ ft ∧ sp = .inl ft.toNat)
/-- what is answered of a whole text -/
def hv_AR (e : hv_tok → Int) (sp : Nat ⊕ hv_st) (r : Int) (rd : Nat → Int) (ls : List Int) : Prop := (r = 0 ∧ ∃ x sn o, ls = o.map e ∧ sp = .inr (x, sn, rd, o)) ∨ (1 ≤ r ∧ sp = .inl r.toNat)
theorem hv_AI_e {e : hv_tok → Int} {T : Nat → Int32} {n : Nat} {sp : Nat ⊕ hv_st} {g ft p t i : Int} {sn : Nat → Bool} {rd : Nat → Int} {ls : List Int} (h : hv_AI e T n sp g ft p t i sn rd ls) (hg : g = 0 ∨ n < i) : hv_AR e sp ft rd ls := by
  obtain h1 | ⟨_, h2, x, sn', o, h0, h3⟩ | ⟨_, h2, h3⟩ := h
  · exfalso; omega
  · exact Or.inl ⟨h2, x, sn', o, h0, h3⟩
  · exact Or.inr ⟨h2, h3⟩
theorem hv_AI_g {e : hv_tok → Int} {T : Nat → Int32} {n : Nat} {sp : Nat ⊕ hv_st} {g ft p t i : Int} {sn : Nat → Bool} {rd : Nat → Int} {ls : List Int} (h : hv_AI e T n sp g ft p t i sn rd ls) (hg : 1 ≤ g) : ft = 0 ∧ 0 ≤ p ∧ p ≤ n ∧ i ≤ p ∧ (0 ≤ t ∧ t ≤ 20) ∧ (sn 13 = false → t = 0) ∧ ∃ o, ls = o.map e ∧ sp = hv_AL T n (p.toNat, sn, rd, o) := by
  obtain ⟨_, h1⟩ | ⟨z, _⟩ | ⟨z, _⟩ := h
  · exact h1
  · exfalso; omega
  · exfalso; omega
