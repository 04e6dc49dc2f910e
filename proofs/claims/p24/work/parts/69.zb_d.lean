/-! WHAT THE CALLS ON CLAIMS ANSWER, told of both sides alike -/
def hz_CB (odf wkf owf szf gdf svf : Nat → Int32) : Prop := ∀ c : Nat, c < 100 → (-1 ≤ (odf c).toInt ∧ (odf c).toInt ≤ 7999) ∧ (0 ≤ (wkf c).toInt ∧ (wkf c).toInt ≤ 9999) ∧ (0 ≤ (owf c).toInt ∧ (owf c).toInt ≤ 600000) ∧ (-1 ≤ (szf c).toInt ∧ (szf c).toInt ≤ 7999) ∧ (0 ≤ (gdf c).toInt ∧ (gdf c).toInt ≤ 9999) ∧ (-1 ≤ (svf c).toInt ∧ (svf c).toInt ≤ 7999)
/-- what is left of a claim now -/
def hz_Rn (odf szf gdf owf svf : Nat → Int32) (rc : Nat → Int) (pof pdf psm pkf pst : Nat → Int32) (now : Int) (pm : Nat) (c : Nat) : Int := hz_rs (svf c).toInt (hz_bl (odf c).toInt (szf c).toInt (gdf c).toInt (owf c).toInt (rc c) now (hx_ps pof pdf psm pkf pst now now (c : Int) pm)) now
theorem hz_rs_b {sv bl d : Int} : 0 ≤ hz_rs sv bl d := by unfold hz_rs; (repeat' split) <;> omega
/-- state() -/
def hz_SA (c i d k w fl v0 v1 v2 v3 v4 r : Int) : Prop := (¬ ((0 ≤ i ∧ i < c) ∧ (fl ≤ d ∧ d ≤ 7999) ∧ (fl ≤ k ∧ k ≤ 7999) ∧ (0 ≤ w ∧ w ≤ 4)) ∧ r = -1) ∨ (((0 ≤ i ∧ i < c) ∧ (fl ≤ d ∧ d ≤ 7999) ∧ (fl ≤ k ∧ k ≤ 7999)) ∧ ((w = 0 ∧ r = v0) ∨ (w = 1 ∧ r = v1) ∨ (w = 2 ∧ r = v2) ∨ (w = 3 ∧ r = v3) ∨ (w = 4 ∧ r = v4)))
theorem hz_SA_eq {c i d k w fl v0 v0' v1 v2 v3 v4 r r' : Int} (h : hz_SA c i d k w fl v0 v1 v2 v3 v4 r) (h' : hz_SA c i d k w fl v0' v1 v2 v3 v4 r') (e : 0 ≤ i → i < c → v0 = v0') : r = r' := by
  rcases h with ⟨a, b⟩ | ⟨a, b⟩ <;> rcases h' with ⟨a', b'⟩ | ⟨a', b'⟩
  · omega
  · exact absurd ⟨a'.1, a'.2.1, a'.2.2, by omega⟩ a
  · exact absurd ⟨a.1, a.2.1, a.2.2, by omega⟩ a'
  · have := e a.1.1 a.1.2
    omega
/-- order() -/
def hz_OC (n i w ju od de : Int) : Prop := (0 ≤ i ∧ i < n) ∧ ju = 5 ∧ od = -1 ∧ de = 0 ∧ (1 ≤ w ∧ w ≤ 9999)
def hz_OS (C : Prop) (k : Nat) (w nw r : Int32) (mn al oi me : Int) (of of1 wf wf1 ef ef1 : Nat → Int32) : Prop := (¬ C ∧ r.toInt = -1 ∧ of1 = of ∧ wf1 = wf ∧ ef1 = ef) ∨ (C ∧ (((w.toInt < mn ∧ w.toInt < al) ∧ r.toInt = -2 ∧ of1 = of ∧ wf1 = wf ∧ ef1 = ef) ∨ (¬ (w.toInt < mn ∧ w.toInt < al) ∧ me < w.toInt + oi ∧ r.toInt = -3 ∧ of1 = of ∧ wf1 = wf ∧ ef1 = ef) ∨ (¬ (w.toInt < mn ∧ w.toInt < al) ∧ ¬ me < w.toInt + oi ∧ r.toInt = al ∧ of1 = hx_up of k nw ∧ wf1 = hx_up wf k w ∧ ef1 = hx_up ef k r)))
theorem hz_OS_eq {C C' : Prop} {k : Nat} {w nw r r' : Int32} {mn al al' oi oi' me : Int} {of of1 of1' wf wf1 wf1' ef ef1 ef1' : Nat → Int32} (h : hz_OS C k w nw r mn al oi me of of1 wf wf1 ef ef1) (h' : hz_OS C' k w nw r' mn al' oi' me of of1' wf wf1' ef ef1') (hC : C ↔ C') (ea : C → al = al') (eo : C → oi = oi') : r.toInt = r'.toInt ∧ of1 = of1' ∧ wf1 = wf1' ∧ ef1 = ef1' := by
  rcases h with ⟨c, e1, e2, e3, e4⟩ | ⟨c, g⟩ <;> rcases h' with ⟨c', e1', e2', e3', e4'⟩ | ⟨c', g'⟩
  · exact ⟨by omega, e2.trans e2'.symm, e3.trans e3'.symm, e4.trans e4'.symm⟩
  · exact absurd (hC.mpr c') c
  · exact absurd (hC.mp c) c'
  · have ha := ea c; have ho := eo c; subst ha; subst ho
    rcases g with ⟨a, e1, e2, e3, e4⟩ | ⟨a, b, e1, e2, e3, e4⟩ | ⟨a, b, e1, e2, e3, e4⟩ <;> rcases g' with ⟨a', e1', e2', e3', e4'⟩ | ⟨a', b', e1', e2', e3', e4'⟩ | ⟨a', b', e1', e2', e3', e4'⟩
    · exact ⟨by omega, e2.trans e2'.symm, e3.trans e3'.symm, e4.trans e4'.symm⟩
    · exact absurd a a'
    · exact absurd a a'
    · exact absurd a' a
    · exact ⟨by omega, e2.trans e2'.symm, e3.trans e3'.symm, e4.trans e4'.symm⟩
    · exact absurd b b'
    · exact absurd a' a
    · exact absurd b' b
    · have er : r = r' := Int32.toInt_inj.mp (by omega)
      subst er
      exact ⟨rfl, e2.trans e2'.symm, e3.trans e3'.symm, e4.trans e4'.symm⟩
/-- the instalments of q's open orders, of the claims below n -/
def hz_oi (ag wk : Nat → Int32) (Rn : Nat → Int) (q : Int) : Nat → Int
  | 0 => 0
  | n + 1 => hz_oi ag wk Rn q n + (if (ag n).toInt = q ∧ 0 < Rn n then (wk n).toInt else 0)
theorem hz_oi_y {ag wk : Nat → Int32} {Rn : Nat → Int} {q k k1 s s1 : Int} {v : Int32} {ix : Nat} (h : s = hz_oi ag wk Rn q k.toNat) (h0 : 0 ≤ k) (ei : (ix : Int) = k) (hq : (ag k.toNat).toInt = q) (hr : 0 < Rn k.toNat) (ev : v = wk ix) (es : s1 = s + v.toInt) (e1 : k1 = k + 1) : s1 = hz_oi ag wk Rn q k1.toNat := by
  subst e1
  have e : (k + 1).toNat = k.toNat + 1 := by omega
  have ex : ix = k.toNat := by omega
  subst ex
  rw [e]; simp only [hz_oi]; rw [if_pos ⟨hq, hr⟩, ← h, es, ev]
theorem hz_oi_n {ag wk : Nat → Int32} {Rn : Nat → Int} {q k k1 s : Int} (h : s = hz_oi ag wk Rn q k.toNat) (h0 : 0 ≤ k) (hq : ¬ ((ag k.toNat).toInt = q ∧ 0 < Rn k.toNat)) (e1 : k1 = k + 1) : s = hz_oi ag wk Rn q k1.toNat := by
  subst e1
  have e : (k + 1).toNat = k.toNat + 1 := by omega
  rw [e]; simp only [hz_oi]; rw [if_neg hq, ← h, Int.add_zero]
/-- a PAYMENT is written behind the others -/
def hz_AP (pm : Nat) (c d s k : Int32) (pof pof1 pdf pdf1 psm psm1 pkf pkf1 pst pst1 : Nat → Int32) : Prop := pof1 = hx_up pof pm c ∧ pdf1 = hx_up pdf pm d ∧ psm1 = hx_up psm pm s ∧ pkf1 = hx_up pkf pm k ∧ pst1 = hx_up pst pm (-1)
def hz_PC (pm n i d s nw od sv : Int) : Prop := pm < 600 ∧ (0 ≤ i ∧ i < n) ∧ od ≠ -1 ∧ sv = -1 ∧ (od ≤ d ∧ d ≤ nw) ∧ (1 ≤ s ∧ s ≤ 9999)
def hz_PS (C : Prop) (i d s nw pm pm1 r : Int32) (pof pof1 pdf pdf1 psm psm1 pkf pkf1 pst pst1 : Nat → Int32) : Prop := (¬ C ∧ r.toInt = -1 ∧ pm1.toInt = pm.toInt ∧ pof1 = pof ∧ pdf1 = pdf ∧ psm1 = psm ∧ pkf1 = pkf ∧ pst1 = pst) ∨ (C ∧ r.toInt = pm.toInt ∧ pm1.toInt = pm.toInt + 1 ∧ hz_AP pm.toInt.toNat i d s nw pof pof1 pdf pdf1 psm psm1 pkf pkf1 pst pst1)
theorem hz_PS_eq {C : Prop} {i d s nw pm pm1 pm1' r r' : Int32} {pof pof1 pdf pdf1 psm psm1 pkf pkf1 pst pst1 pof1' pdf1' psm1' pkf1' pst1' : Nat → Int32} (h : hz_PS C i d s nw pm pm1 r pof pof1 pdf pdf1 psm psm1 pkf pkf1 pst pst1) (h' : hz_PS C i d s nw pm pm1' r' pof pof1' pdf pdf1' psm psm1' pkf pkf1' pst pst1') : r.toInt = r'.toInt ∧ pm1 = pm1' ∧ pof1 = pof1' ∧ pdf1 = pdf1' ∧ psm1 = psm1' ∧ pkf1 = pkf1' ∧ pst1 = pst1' := by
  rcases h with ⟨c, a, b, e1, e2, e3, e4, e5⟩ | ⟨c, a, b, e1, e2, e3, e4, e5⟩ <;> rcases h' with ⟨c', a', b', f1, f2, f3, f4, f5⟩ | ⟨c', a', b', f1, f2, f3, f4, f5⟩
  · exact ⟨by omega, Int32.toInt_inj.mp (by omega), e1.trans f1.symm, e2.trans f2.symm, e3.trans f3.symm, e4.trans f4.symm, e5.trans f5.symm⟩
  · exact absurd c' c
  · exact absurd c c'
  · exact ⟨by omega, Int32.toInt_inj.mp (by omega), e1.trans f1.symm, e2.trans f2.symm, e3.trans f3.symm, e4.trans f4.symm, e5.trans f5.symm⟩
/-- strike() -/
def hz_KC (pm k : Int) (pst : Nat → Int32) : Prop := (0 ≤ k ∧ k < pm) ∧ (pst k.toNat).toInt = -1
def hz_KS (pm k : Int) (nw r : Int32) (pst pst1 : Nat → Int32) : Prop := (¬ hz_KC pm k pst ∧ r.toInt = 0 ∧ pst1 = pst) ∨ (hz_KC pm k pst ∧ r.toInt = 1 ∧ pst1 = hx_up pst k.toNat nw)
theorem hz_KS_eq {pm k : Int} {nw r r' : Int32} {pst pst1 pst1' : Nat → Int32} (h : hz_KS pm k nw r pst pst1) (h' : hz_KS pm k nw r' pst pst1') : r.toInt = r'.toInt ∧ pst1 = pst1' := by
  rcases h with ⟨c, a, b⟩ | ⟨c, a, b⟩ <;> rcases h' with ⟨c', a', b'⟩ | ⟨c', a', b'⟩
  · exact ⟨by omega, b.trans b'.symm⟩
  · exact absurd c' c
  · exact absurd c c'
  · exact ⟨by omega, b.trans b'.symm⟩
/-- seize() -/
def hz_ZC (n i w sz st : Int) : Prop := (0 ≤ i ∧ i < n) ∧ sz = -1 ∧ (1 ≤ w ∧ w ≤ 9999) ∧ (st = 5 ∨ st = 6)
def hz_ZS (C : Prop) (k : Nat) (w nw r : Int32) (bl : Int) (zf zf1 gf gf1 : Nat → Int32) : Prop := (¬ C ∧ r.toInt = -1000000 ∧ zf1 = zf ∧ gf1 = gf) ∨ (C ∧ r.toInt = bl ∧ zf1 = hx_up zf k nw ∧ gf1 = hx_up gf k w)
theorem hz_ZS_eq {C C' : Prop} {k : Nat} {w nw r r' : Int32} {bl bl' : Int} {zf zf1 zf1' gf gf1 gf1' : Nat → Int32} (h : hz_ZS C k w nw r bl zf zf1 gf gf1) (h' : hz_ZS C' k w nw r' bl' zf zf1' gf gf1') (hC : C ↔ C') (eb : C → bl = bl') : r.toInt = r'.toInt ∧ zf1 = zf1' ∧ gf1 = gf1' := by
  rcases h with ⟨c, a, b, d⟩ | ⟨c, a, b, d⟩ <;> rcases h' with ⟨c', a', b', d'⟩ | ⟨c', a', b', d'⟩
  · exact ⟨by omega, b.trans b'.symm, d.trans d'.symm⟩
  · exact absurd (hC.mpr c') c
  · exact absurd (hC.mp c) c'
  · have := eb c
    exact ⟨by omega, b.trans b'.symm, d.trans d'.symm⟩
theorem hz_st_or {fo he ju od sv rs ms la ga d : Int} (h : hz_st fo he ju od sv rs ms la ga d = 5 ∨ hz_st fo he ju od sv rs ms la ga d = 6) : ¬ (od = -1 ∨ d < od) ∧ ¬ (sv ≠ -1 ∧ sv ≤ d) ∧ rs ≠ 0 := by
  unfold hz_st hz_sa at h
  by_cases h1 : od = -1 ∨ d < od
  · rw [if_pos h1] at h
    exfalso
    revert h
    (repeat' split) <;> omega
  · rw [if_neg h1] at h
    by_cases h2 : sv ≠ -1 ∧ sv ≤ d
    · rw [if_pos h2] at h; omega
    · rw [if_neg h2] at h
      by_cases h3 : rs = 0
      · rw [if_pos h3] at h; omega
      · exact ⟨h1, h2, h3⟩
/-- gaol() -/
def hz_GC (n i sz de st : Int) : Prop := (0 ≤ i ∧ i < n) ∧ sz ≠ -1 ∧ de = 0 ∧ st = 6
def hz_GS (C : Prop) (k : Nat) (nw r : Int32) (v : Int) (vf vf1 : Nat → Int32) : Prop := (¬ C ∧ r.toInt = -1 ∧ vf1 = vf) ∨ (C ∧ r.toInt = v ∧ vf1 = hx_up vf k nw)
theorem hz_GS_eq {C C' : Prop} {k : Nat} {nw r r' : Int32} {v v' : Int} {vf vf1 vf1' : Nat → Int32} (h : hz_GS C k nw r v vf vf1) (h' : hz_GS C' k nw r' v' vf vf1') (hC : C ↔ C') (ev : C → v = v') : r.toInt = r'.toInt ∧ vf1 = vf1' := by
  rcases h with ⟨c, a, b⟩ | ⟨c, a, b⟩ <;> rcases h' with ⟨c', a', b'⟩ | ⟨c', a', b'⟩
  · exact ⟨by omega, b.trans b'.symm⟩
  · exact absurd (hC.mpr c') c
  · exact absurd (hC.mp c) c'
  · have := ev c
    exact ⟨by omega, b.trans b'.symm⟩
theorem hz_mulg {a b x : Int32} (ha : 0 ≤ a.toInt ∧ a.toInt ≤ 50835) (hb : 0 ≤ b.toInt ∧ b.toInt ≤ 9999) (e : x = a * b) : x.toInt = a.toInt * b.toInt ∧ 0 ≤ x.toInt ∧ x.toInt ≤ 508299165 := by
  have h1 : 0 ≤ a.toInt * b.toInt := Int.mul_nonneg ha.1 hb.1
  have h2 : a.toInt * b.toInt ≤ 50835 * 9999 := Int.mul_le_mul ha.2 hb.2 hb.1 (by decide)
  have h3 : x.toInt = a.toInt * b.toInt := by rw [e]; exact i32_mul rfl rfl rfl (by omega) (by omega)
  exact ⟨h3, by omega, by omega⟩
theorem hz_ru12 {s : Int} (h : 0 ≤ s) (h2 : s ≤ 609999) : 0 ≤ hz_ru s 12 ∧ hz_ru s 12 ≤ 50835 := by
  unfold hz_ru; split <;> omega
theorem hz_ru12m {s : Int} (h : 0 ≤ s) : (s + 11) / 12 = hz_ru s 12 := by
  unfold hz_ru; split <;> omega
theorem hz_mul2 {a b x : Int32} (ha : 0 ≤ a.toInt ∧ a.toInt ≤ 9999) (hb : 0 ≤ b.toInt ∧ b.toInt ≤ 20) (e : x = a * b) : x.toInt = a.toInt * b.toInt ∧ 0 ≤ x.toInt ∧ x.toInt ≤ 199980 := by
  have h1 : 0 ≤ a.toInt * b.toInt := Int.mul_nonneg ha.1 hb.1
  have h2 : a.toInt * b.toInt ≤ 9999 * 20 := Int.mul_le_mul ha.2 hb.2 hb.1 (by decide)
  have h3 : x.toInt = a.toInt * b.toInt := by rw [e]; exact i32_mul rfl rfl rfl (by omega) (by omega)
  exact ⟨h3, by omega, by omega⟩
def hz_LS (c i w : Int) (v : Nat → Int) (r : Int) : Prop := (¬ ((0 ≤ i ∧ i < c) ∧ (0 ≤ w ∧ w ≤ 13)) ∧ r = -1) ∨ (((0 ≤ i ∧ i < c) ∧ (0 ≤ w ∧ w ≤ 13)) ∧ r = v w.toNat)
theorem hz_LS_eq {c i w r r' : Int} {v v' : Nat → Int} (h : hz_LS c i w v r) (h' : hz_LS c i w v' r') (e : 0 ≤ i → i < c → ∀ k, k < 14 → v k = v' k) : r = r' := by
  rcases h with ⟨a, b⟩ | ⟨a, b⟩ <;> rcases h' with ⟨a', b'⟩ | ⟨a', b'⟩
  · omega
  · exact absurd a' a
  · exact absurd a a'
  · rw [b, b']; exact e a.1.1 a.1.2 _ (by omega)
def hz_rc (A : Nat → hv_act) (plf : Nat → Int32) : Nat → Int := fun c => (A (plf c).toInt.toNat).2.1 12
/-- of numbered objects: the same one, the same place -/
theorem hz_pe {h : hx_h} {qp k p q : Nat} {i j : Int32} {n : Int} (hn : hx_num 40 h qp k n) (bi : 0 ≤ i.toInt ∧ i.toInt < 40) (bj : 0 ≤ j.toInt ∧ j.toInt < 40) (fi : h.2.2 qp i.toNatClampNeg = some p) (fj : h.2.2 qp j.toNatClampNeg = some q) : p = q ↔ i.toInt = j.toInt := by
  constructor
  · intro e
    subst e
    have := hx_num_eq hn (by unfold Int32.toNatClampNeg; omega) (by unfold Int32.toNatClampNeg; omega) fi fj
    unfold Int32.toNatClampNeg at this
    omega
  · intro e
    have e2 : i = j := Int32.toInt_inj.mp e
    subst e2
    exact Option.some.inj (fi.symm.trans fj)
theorem hz_st_op {fo he ju od sv rs ms la ga d : Int} (h0 : 0 ≤ rs) (h1 : (od = -1 ∨ d < od) ∨ (sv ≠ -1 ∧ sv ≤ d) → rs = 0) : (4 ≤ hz_st fo he ju od sv rs ms la ga d ∧ hz_st fo he ju od sv rs ms la ga d ≤ 6) ↔ 0 < rs := by
  unfold hz_st hz_sa
  by_cases a : od = -1 ∨ d < od
  · have e := h1 (Or.inl a)
    rw [if_pos a]
    constructor
    · intro h; exfalso; revert h; (repeat' split) <;> omega
    · intro h; omega
  · rw [if_neg a]
    by_cases b : sv ≠ -1 ∧ sv ≤ d
    · have e := h1 (Or.inr b)
      rw [if_pos b]; omega
    · rw [if_neg b]
      by_cases c : rs = 0
      · rw [if_pos c]; omega
      · rw [if_neg c]
        constructor
        · intro _; omega
        · intro _; (repeat' split) <;> omega
theorem hz_rs_0 {od sz gd ow rc sv d ps : Int} (h : (od = -1 ∨ d < od) ∨ (sv ≠ -1 ∧ sv ≤ d)) : hz_rs sv (hz_bl od sz gd ow rc d ps) d = 0 := by
  unfold hz_rs hz_bl
  rcases h with h | h
  · rw [if_neg (show ¬ (od ≠ -1 ∧ od ≤ d) by omega)]; (repeat' split) <;> omega
  · rw [if_pos h]
/-- what claim() tells, by its number -/
def hz_cv (v0 v1 v2 v3 v4 v5 v6 v7 v8 v9 v10 v11 v12 v13 : Int) : Nat → Int := fun k => match k with
  | 0 => v0 | 1 => v1 | 2 => v2 | 3 => v3 | 4 => v4 | 5 => v5 | 6 => v6 | 7 => v7 | 8 => v8 | 9 => v9 | 10 => v10 | 11 => v11 | 12 => v12 | 13 => v13 | _ => 0
def hz_sz1 (z : Int) : Int := if z = -1 then 0 else 1
/-- living judges, and count() -/
def hz_lj (jf df : Nat → Int32) : Nat → Int
  | 0 => 0
  | n + 1 => hz_lj jf df n + (if (jf n).toInt ≠ 0 ∧ (df n).toInt = 0 then 1 else 0)
theorem hz_lj_s {jf df : Nat → Int32} {k k1 s s1 : Int} (b : Int) (h : s = hz_lj jf df k.toNat) (h0 : 0 ≤ k) (hb : (b = 1 ∧ (jf k.toNat).toInt ≠ 0 ∧ (df k.toNat).toInt = 0) ∨ (b = 0 ∧ ¬ ((jf k.toNat).toInt ≠ 0 ∧ (df k.toNat).toInt = 0))) (es : s1 = s + b) (e1 : k1 = k + 1) : s1 = hz_lj jf df k1.toNat := by
  subst e1
  have e : (k + 1).toNat = k.toNat + 1 := by omega
  rw [e]; simp only [hz_lj]
  rcases hb with ⟨b1, b2⟩ | ⟨b1, b2⟩
  · rw [if_pos b2, ← h, es, b1]
  · rw [if_neg b2, ← h, es, b1]
theorem hz_lj_e {jf jf' df df' : Nat → Int32} (ej : hx_eqN 40 jf jf') (ed : hx_eqN 40 df df') : ∀ n : Nat, n ≤ 40 → hz_lj jf df n = hz_lj jf' df' n := by
  intro n
  induction n with
  | zero => intro _; rfl
  | succ n ih => intro h; simp only [hz_lj, ih (by omega), ej n (by omega), ed n (by omega)]
def hz_CT (w : Int) (v : Nat → Int) (r : Int) : Prop := (¬ (0 ≤ w ∧ w ≤ 8) ∧ r = -1) ∨ ((0 ≤ w ∧ w ≤ 8) ∧ r = v w.toNat)
theorem hz_CT_eq {w r r' : Int} {v v' : Nat → Int} (h : hz_CT w v r) (h' : hz_CT w v' r') (e : ∀ k, k < 9 → v k = v' k) : r = r' := by
  rcases h with ⟨a, b⟩ | ⟨a, b⟩ <;> rcases h' with ⟨a', b'⟩ | ⟨a', b'⟩
  · omega
  · exact absurd a' a
  · exact absurd a a'
  · rw [b, b']; exact e _ (by omega)
