section
/-! THE REFERENCE'S CLAUSES -/
theorem hv_rx_b {k : Nat} (h : k < 14) : hv_rx k ≤ 20 := by unfold hv_rx; split <;> omega
theorem hv_rx_i {i : Int32} (h0 : 0 ≤ i.toInt) (h1 : i.toInt ≤ 12) : i.toInt = ((hv_rx i.toInt.toNat : Nat) : Int) := by
  unfold hv_rx; rw [if_neg (by omega)]; omega
theorem hv_sR_a {x i : Int32} {k : Nat} (hk : k < 14) (hi : i.toInt = ((hv_rx k : Nat) : Int)) : hv_sR x k = x.toBitVec.getLsbD i.toInt.toNat := by
  show (if k < 14 then x.toBitVec.getLsbD (hv_rx k) else false) = _
  rw [if_pos hk, hi, Int.toNat_natCast]
/-- a number of a clause, told once -/
def hv_IN (r ft ft0 i : Int) (k : Nat) (sn sn1 : Nat → Bool) : Prop := (r = 1 ∧ ft = ft0 ∧ sn k = false ∧ sn1 = hv_ub sn k) ∨ (r = 0 ∧ sn k = true ∧ ft = 3 + 8 * i)
section HVIN
variable {r ft ft0 i : Int} {k : Nat} {sn sn1 : Nat → Bool}
theorem hv_IN_1 (h : hv_IN r ft ft0 i k sn sn1) (z : 1 ≤ r) : ft = ft0 ∧ sn k = false ∧ sn1 = hv_ub sn k := by
  rcases h with ⟨_, w⟩ | ⟨a, _⟩
  · exact w
  · exfalso; omega
theorem hv_IN_0 (h : hv_IN r ft ft0 i k sn sn1) (z : r ≤ 0) : sn k = true ∧ ft = 3 + 8 * i := by
  rcases h with ⟨a, _⟩ | ⟨_, w⟩
  · exfalso; omega
  · exact w
theorem hv_IN_b (h : hv_IN r ft ft0 i k sn sn1) : r = 0 ∨ r = 1 := by
  rcases h with ⟨a, _⟩ | ⟨a, _⟩
  · exact Or.inr a
  · exact Or.inl a
end HVIN
theorem hv_lo_e {i r n : Int} (e : r = n) (h0 : 0 ≤ i) (h : ((i = 1 ∨ i = 3 ∨ 8 ≤ i) ∧ n = 0) ∨ (¬ (i = 1 ∨ i = 3 ∨ 8 ≤ i) ∧ n = 1)) : r = hv_lo i.toNat := by
  unfold hv_lo; split <;> omega
theorem hv_hi_e {i r n : Int} (e : r = n) (h : (i = 0 ∧ n = 9999) ∨ (i = 1 ∧ n = 365) ∨ (i = 2 ∧ n = 999) ∨ (i = 3 ∧ n = 999) ∨ (i = 4 ∧ n = 20) ∨ (i = 5 ∧ n = 20) ∨ (i = 6 ∧ n = 30) ∨ (i = 7 ∧ n = 400) ∨ (i = 8 ∧ n = 40) ∨ (9 ≤ i ∧ n = 999)) : r = hv_hi i.toNat := by
  rw [e]
  rcases h with ⟨a, b⟩ | ⟨a, b⟩ | ⟨a, b⟩ | ⟨a, b⟩ | ⟨a, b⟩ | ⟨a, b⟩ | ⟨a, b⟩ | ⟨a, b⟩ | ⟨a, b⟩ | ⟨a, b⟩
  all_goals first | (rw [a, b]; rfl) | (rw [b, hv_hi9 (by omega)])
/-- what stands where nothing is told -/
def hv_W0 : Nat → Int := fun k => if k < 13 then (P_wo (k + 1)).toInt else 0
def hv_o0 : List hv_tok := [(0, 1, 0), (2, 2, 0), (1, 2, 1)]
theorem hv_W0_e {i r n : Int} (e : r = n) (h : (i = 0 ∧ n = 480) ∨ (i = 1 ∧ n = 30) ∨ (i = 2 ∧ n = 12) ∨ (i = 3 ∧ n = 60) ∨ (i = 4 ∧ n = 2) ∨ (i = 5 ∧ n = 4) ∨ (i = 6 ∧ n = 1) ∨ (i = 7 ∧ n = 40) ∨ (i = 8 ∧ n = 21) ∨ (9 ≤ i ∧ i ≤ 12 ∧ n = 0)) : r = hv_W0 i.toNat := by
  rw [e]
  rcases h with ⟨a, b⟩ | ⟨a, b⟩ | ⟨a, b⟩ | ⟨a, b⟩ | ⟨a, b⟩ | ⟨a, b⟩ | ⟨a, b⟩ | ⟨a, b⟩ | ⟨a, b⟩ | ⟨a, a2, b⟩
  all_goals try (rw [a, b]; first | decide | rfl)
  rw [b]
  rcases (show i = 9 ∨ i = 10 ∨ i = 11 ∨ i = 12 by omega) with z | z | z | z <;> rw [z] <;> decide
theorem hv_rC_0 {f : Nat → Int32} (h : ∀ j, j < 14 → f j = P_wo j) : hv_rC f = hv_W0 := by
  funext k
  show (if k < 13 then (f (k + 1)).toInt else 0) = (if k < 13 then (P_wo (k + 1)).toInt else 0)
  by_cases z : k < 13
  · rw [if_pos z, if_pos z, h _ (by omega)]
  · rw [if_neg z, if_neg z]
def hv_WI (f : Nat → Int32) (n : Int) : Prop := ∀ k : Nat, (k : Int) < n → (f k).toInt = hv_W0 k
theorem hv_WI_0 {f : Nat → Int32} {n : Int} (h : n ≤ 0) : hv_WI f n := fun k hk => by exfalso; omega
theorem hv_WI_s {f f1 : Nat → Int32} {i v : Int32} {j : Int} (h : hv_WI f i.toInt) (e : f1 = hx_up f i.toNatClampNeg v) (h0 : 0 ≤ i.toInt) (hv : v.toInt = hv_W0 i.toInt.toNat) (hj : j = i.toInt + 1) : hv_WI f1 j := fun k hk => by
  by_cases z : k = i.toInt.toNat
  · rw [e, z]; exact (congrArg Int32.toInt (hx_up_at (f := f) (k := i.toNatClampNeg) (v := v))).trans hv
  · rw [e, hx_up_ne (by unfold Int32.toNatClampNeg; omega)]; exact h k (by omega)
theorem hv_WI_e {f : Nat → Int32} {n : Int} (h : hv_WI f n) (hn : 13 ≤ n) : hv_rR f = hv_W0 := by
  funext k
  show (if k < 13 then (f k).toInt else 0) = _
  by_cases z : k < 13
  · rw [if_pos z, h k (by omega)]
  · rw [if_neg z]; show _ = (if k < 13 then (P_wo (k + 1)).toInt else 0); rw [if_neg z]
section HVCM
variable {T : Nat → Int32} {n p : Nat} {e : hv_tok → Int} {sp : Nat ⊕ hv_st} {sn : Nat → Bool} {rd : Nat → Int} {o : List hv_tok}
theorem hv_cl_p (h : hv_wd T n (hv_sk T n p) = 20) (hs : sn 13 = false) : hv_cl T n p sn rd o = hv_bd (hv_LE T n 8 false false (hv_we T n (hv_sk T n p)) 0 []) (fun q => .inr (q.1, hv_ub sn 13, rd, q.2.2)) := by
  unfold hv_cl; rw [if_pos (by omega), if_pos h, if_neg (by rw [hs]; decide)]
/-- what the reference answers of a CLAUSE: a ) too many is told here, or behind it -/
def hv_CM (T : Nat → Int32) (n : Nat) (e : hv_tok → Int) (sp : Nat ⊕ hv_st) (r ft p : Int) (sn : Nat → Bool) (rd : Nat → Int) (ls : List Int) : Prop :=
  (r = 1 ∧ ft = 0 ∧ 0 ≤ p ∧ ∃ o, ls = o.map e ∧ sp = .inr (p.toNat, sn, rd, o)) ∨ (r = 0 ∧ 1 ≤ ft ∧ ∀ s : hv_st, hv_cl T n s.1 s.2.1 s.2.2.1 s.2.2.2 = sp → hv_AL T n s = .inl ft.toNat)
variable {r ft q : Int} {ls : List Int}
theorem hv_CM_1 (h : hv_CM T n e sp r ft q sn rd ls) (z : 1 ≤ r) : ft = 0 ∧ 0 ≤ q ∧ ∃ o, ls = o.map e ∧ sp = .inr (q.toNat, sn, rd, o) := by
  rcases h with ⟨_, w⟩ | ⟨a, _⟩
  · exact w
  · exfalso; omega
theorem hv_CM_0 (h : hv_CM T n e sp r ft q sn rd ls) (z : r ≤ 0) : 1 ≤ ft ∧ ∀ s : hv_st, hv_cl T n s.1 s.2.1 s.2.2.1 s.2.2.2 = sp → hv_AL T n s = .inl ft.toNat := by
  rcases h with ⟨a, _⟩ | ⟨_, w⟩
  · exfalso; omega
  · exact w
theorem hv_CM_b (h : hv_CM T n e sp r ft q sn rd ls) : r = 0 ∨ r = 1 := by
  rcases h with ⟨a, _⟩ | ⟨a, _⟩
  · exact Or.inr a
  · exact Or.inl a
theorem hv_CM_f {x : Nat} (hr : r = 0) (hf : ft = (x : Int)) (hx : 1 ≤ x) (h : sp = .inl x) : hv_CM T n e sp r ft q sn rd ls := Or.inr ⟨hr, by omega, fun s hs => by rw [hv_AL_1 (hs.trans h), hf, Int.toNat_natCast]⟩
theorem hv_CM_t {x : Nat} {sn' : Nat → Bool} {rd' : Nat → Int} {o : List hv_tok} (hr : r = 1) (hf : ft = 0) (hp : q = (x : Int)) (hs : sn = sn') (hd : rd = rd') (hl : ls = o.map e) (h : sp = .inr (x, sn', rd', o)) : hv_CM T n e sp r ft q sn rd ls := Or.inl ⟨hr, hf, by omega, o, hl, by rw [h, hp, hs, hd, Int.toNat_natCast]⟩
theorem hv_CM_p {u : Nat} {t : Int} (h : hv_K e (hv_RN T n true u 0 [] []) r ft q t ls) (hs : sp = hv_bd (hv_LE T n 8 false false u 0 []) (fun q => .inr (q.1, sn, rd, q.2.2))) : hv_CM T n e sp r ft q sn rd ls := by
  rw [hv_top] at h
  cases hL : hv_LE T n 8 false false u 0 [] with
  | inl x =>
    rw [hL, hv_bd_l] at h hs
    rcases h with ⟨_, _, _, _, o, _, h9⟩ | ⟨a, b, c⟩
    · cases h9
    · have c' : x = ft.toNat := Sum.inl.inj c
      exact hv_CM_f (x := x) a (by omega) (by omega) hs
  | inr w =>
    rw [hL, hv_bd_r] at h hs
    by_cases z : w.1 < n ∧ (T w.1).toInt = 41
    · rw [if_pos z] at h
      rcases h with ⟨_, _, _, _, o, _, h9⟩ | ⟨a, b, c⟩
      · cases h9
      · have c' : 1 + 8 * w.1 = ft.toNat := Sum.inl.inj c
        refine Or.inr ⟨a, b, fun s hc => ?_⟩
        have hk : hv_sk T n w.1 = w.1 := hv_sn_e (fun _ => by unfold hv_bl; rw [z.2]; decide)
        have h3 := hv_AL_3 (s := s) (hc.trans hs) (show hv_sk T n w.1 < n by rw [hk]; exact z.1) (show (T (hv_sk T n w.1)).toInt ≠ 59 by rw [hk, z.2]; decide)
        exact h3.trans (by show (Sum.inl (1 + 8 * hv_sk T n w.1) : Nat ⊕ hv_st) = _; rw [hk, c'])
    · rw [if_neg z] at h
      rcases h with ⟨a, b, c, d, o, f, h9⟩ | ⟨_, _, h9⟩
      · have h8 : w = (q.toNat, t.toNat, o) := Sum.inr.inj h9
        exact Or.inl ⟨a, b, c, o, f, by rw [hs, h8]⟩
      · cases h9
end HVCM
/-- what stands at the head of the reference's loop over clauses -/
def hv_MI (T : Nat → Int32) (n : Nat) (sp : Nat ⊕ hv_st) (g m ft p : Int) (sn : Nat → Bool) (rd : Nat → Int) (ls : List Int) : Prop :=
  (g = 1 ∧ m = 1 ∧ ft = 0 ∧ 0 ≤ p ∧ p ≤ n ∧ ∃ o, ls = o.map hv_rc ∧ sp = hv_AL T n (p.toNat, sn, rd, o)) ∨ (g = 1 ∧ m = 0 ∧ ∃ x sn' o, ls = o.map hv_rc ∧ sp = .inr (x, sn', rd, o)) ∨ (g = 0 ∧ 1 ≤ ft ∧ sp = .inl ft.toNat)
section HVMI
variable {T : Nat → Int32} {n : Nat} {sp : Nat ⊕ hv_st} {g m ft p : Int} {sn : Nat → Bool} {rd : Nat → Int} {ls : List Int}
theorem hv_MI_1 (h : hv_MI T n sp g m ft p sn rd ls) (z : 1 ≤ g) (y : 1 ≤ m) : ft = 0 ∧ 0 ≤ p ∧ p ≤ n ∧ ∃ o, ls = o.map hv_rc ∧ sp = hv_AL T n (p.toNat, sn, rd, o) := by
  obtain ⟨_, _, w⟩ | ⟨_, w, _⟩ | ⟨w, _⟩ := h
  · exact w
  · exfalso; omega
  · exfalso; omega
theorem hv_MI_2 (h : hv_MI T n sp g m ft p sn rd ls) (z : 1 ≤ g) (y : m ≤ 0) : ∃ x sn' o, ls = o.map hv_rc ∧ sp = .inr (x, sn', rd, o) := by
  obtain ⟨_, w, _⟩ | ⟨_, _, w⟩ | ⟨w, _⟩ := h
  · exfalso; omega
  · exact w
  · exfalso; omega
theorem hv_MI_0 (h : hv_MI T n sp g m ft p sn rd ls) (z : g ≤ 0) : 1 ≤ ft ∧ sp = .inl ft.toNat := by
  obtain ⟨w, _⟩ | ⟨w, _⟩ | ⟨_, w⟩ := h
  · exfalso; omega
  · exfalso; omega
  · exact w
theorem hv_MI_t {x : Nat} {o : List hv_tok} (hg : g = 1) (hm : m = 1) (hf : ft = 0) (hp : p = (x : Int)) (hn : p ≤ n) (hl : ls = o.map hv_rc) (h : sp = hv_AL T n (x, sn, rd, o)) : hv_MI T n sp g m ft p sn rd ls := Or.inl ⟨hg, hm, hf, by omega, hn, o, hl, by rw [h, hp, Int.toNat_natCast]⟩
theorem hv_MI_f {x : Nat} (hg : g = 0) (hf : ft = (x : Int)) (hx : 1 ≤ x) (h : sp = .inl x) : hv_MI T n sp g m ft p sn rd ls := Or.inr (Or.inr ⟨hg, by omega, by rw [h, hf, Int.toNat_natCast]⟩)
end HVMI
theorem hv_ACT_1 {T : Nat → Int32} {n : Nat} {rd : Nat → Int} {o : List hv_tok} (h : hv_sk T n 0 < n) : hv_ACT T n rd o = hv_AL T n (hv_sk T n 0, (fun _ => false), rd, o) := if_pos h
theorem hv_ACT_0 {T : Nat → Int32} {n : Nat} {rd : Nat → Int} {o : List hv_tok} (h : ¬ hv_sk T n 0 < n) : hv_ACT T n rd o = .inr (hv_sk T n 0, (fun _ => false), rd, o) := if_neg h
/-- what is answered of a text to be kept: refused, at fault, kept -/
def hv_AN (full : Prop) (sp : Nat ⊕ hv_st) (r : Int32) (a0 a1 t0 t1 : Int) : Prop :=
  (full ∧ r = -1 ∧ a1 = a0 ∧ t1 = t0) ∨ (¬ full ∧ t1 = 0 ∧ a1 = a0 ∧ ∃ x : Int32, 1 ≤ x.toInt ∧ sp = .inl x.toInt.toNat ∧ r = -2 - x) ∨ (¬ full ∧ t1 = 0 ∧ a1 = a0 + 1 ∧ (∃ q, sp = .inr q) ∧ r.toInt = a0)
theorem hv_AN_eq {f f' : Prop} {sp sp' : Nat ⊕ hv_st} {r r' : Int32} {a0 a1 t0 t1 a0' a1' t0' t1' : Int} (h : hv_AN f sp r a0 a1 t0 t1) (h' : hv_AN f' sp' r' a0' a1' t0' t1') (hf : f ↔ f') (hs : sp = sp') (ha : a0 = a0') (ht : t0 = t0') : r = r' ∧ a1 = a1' ∧ t1 = t1' := by
  subst hs
  obtain ⟨a, b, c, d⟩ | ⟨a, b, c, x, d, e, g⟩ | ⟨a, b, c, ⟨q, d⟩, e⟩ := h <;> obtain ⟨a', b', c', d'⟩ | ⟨a', b', c', x', d', e', g'⟩ | ⟨a', b', c', ⟨q', d'⟩, e'⟩ := h'
  · exact ⟨b.trans b'.symm, by omega, by omega⟩
  · exact absurd (hf.mp a) a'
  · exact absurd (hf.mp a) a'
  · exact absurd (hf.mpr a') a
  · have hx : x.toInt.toNat = x'.toInt.toNat := by rw [e] at e'; exact Sum.inl.inj e'
    have hy : x = x' := Int32.toInt_inj.mp (by omega)
    exact ⟨by rw [g, g', hy], by omega, by omega⟩
  · rw [e] at d'; cases d'
  · exact absurd (hf.mpr a') a
  · rw [e'] at d; cases d
  · exact ⟨Int32.toInt_inj.mp (by omega), by omega, by omega⟩
end
section
/-! THE ACTS, A ROW EACH: row 0 is what holds without one -/
abbrev hv_act : Type := Int × (Nat → Int) × List hv_tok
def hv_A0 : hv_act := (-1, hv_W0, hv_o0)
/-- what an act's object holds -/
def hv_AQ (h : hx_h) (q : Nat) (m : Int) (a : hv_act) : Prop := (h.2.1 q 0).toInt = m ∧ (h.2.1 q 1).toInt = a.1 ∧ (∀ t, h.2.2 q 2 = some t → hv_rC (h.2.1 t) = a.2.1) ∧ (∀ p, h.2.2 q 3 = some p → hv_ls (h.2.1 p) (h.2.1 q 4).toInt.toNat = a.2.2.map hv_cc)
def hv_RA (h : hx_h) (qa w : Nat) (n : Int) (A : Nat → hv_act) : Prop := hv_AQ h w (-1) (A 0) ∧ ∀ j : Nat, (j : Int) < n → ∀ q, h.2.2 qa j = some q → hv_AQ h q (j : Int) (A (j + 1))
theorem hv_AQ_c {h h1 : hx_h} {q : Nat} {m : Int} {a : hv_act} (H : hv_AQ h q m a) (e0 : h1.2.1 q 0 = h.2.1 q 0) (e1 : h1.2.1 q 1 = h.2.1 q 1) (e4 : h1.2.1 q 4 = h.2.1 q 4) (r2 : h1.2.2 q 2 = h.2.2 q 2) (r3 : h1.2.2 q 3 = h.2.2 q 3) (et : ∀ t, h.2.2 q 2 = some t → h1.2.1 t = h.2.1 t) (ep : ∀ p, h.2.2 q 3 = some p → h1.2.1 p = h.2.1 p) : hv_AQ h1 q m a := by
  obtain ⟨a1, a2, a3, a4⟩ := H
  refine ⟨by rw [e0]; exact a1, by rw [e1]; exact a2, fun t ht => ?_, fun p hp => ?_⟩
  · rw [r2] at ht; rw [et t ht]; exact a3 t ht
  · rw [r3] at hp; rw [ep p hp, e4]; exact a4 p hp
section HVRA
variable {tb : List hx_d} {M : hx_m} {L L1 : List Nat} {h h1 : hx_h} {qa w ta tt tp ci t0 x t9 : Nat} {nn b2 b3 : Bool} {fs : List hx_f} {dt dp : Nat × Nat × hx_f} {n : Int} {A : Nat → hv_act}
theorem hv_RA_S (hs : hx_S tb M L h L1 h1) (hT : hx_T tb L h) (ga : hx_g L h qa ta) (gw : hx_g L h w 0) (hd : tb[ta]? = some (.inr (t0, 8, .inr (nn, [0])))) (h0 : tb[0]? = some (.inl (ci, fs))) (f2 : fs[2]? = some (.inr (b2, [tt]))) (f3 : fs[3]? = some (.inr (b3, [tp]))) (ma : M.any (fun q => q.1 == ta) = false) (m0 : M.any (fun q => q.1 == 0) = false) (mt : M.any (fun q => q.1 == tt) = false) (mp : M.any (fun q => q.1 == tp) = false) (hn : n ≤ 8) (H : hv_RA h qa w n A) : hv_RA h1 qa w n A := by
  have key : ∀ (q : Nat) (m : Int) (a : hv_act), hx_g L h q 0 → hv_AQ h q m a → hv_AQ h1 q m a := by
    intro q m a g H
    have e := fun j => hs.all g m0 j
    refine hv_AQ_c H (e 0).1 (e 1).1 (e 4).1 (e 2).2 (e 3).2 (fun t ht => ?_) (fun p hp => ?_)
    · obtain ⟨a1, a2⟩ := (hT.gr g h0 f2).2 t ht
      have gt : hx_g L h t tt := ⟨a1, by simpa using a2⟩
      exact funext fun j => (hs.all gt mt j).1
    · obtain ⟨a1, a2⟩ := (hT.gr g h0 f3).2 p hp
      have gt : hx_g L h p tp := ⟨a1, by simpa using a2⟩
      exact funext fun j => (hs.all gt mp j).1
  refine ⟨key w _ _ gw H.1, fun j hj q hq => ?_⟩
  rw [(hs.all ga ma j).2] at hq
  obtain ⟨c1, c2⟩ := (hT.er ga hd (k := j) (by omega)).2 q hq
  exact key q _ _ ⟨c1, by simpa using c2⟩ (H.2 j hj q hq)
theorem hv_RA_X (hs : hx_S tb M (hx_X L x) h L1 h1) (hT : hx_T tb L h) (ga : hx_g (hx_X L x) h qa ta) (gw : hx_g (hx_X L x) h w 0) (gx : hx_g L h x t9) (hd : tb[ta]? = some (.inr (t0, 8, .inr (nn, [0])))) (h0 : tb[0]? = some (.inl (ci, fs))) (f2 : fs[2]? = some (.inr (b2, [tt]))) (f3 : fs[3]? = some (.inr (b3, [tp]))) (ma : M.any (fun q => q.1 == ta) = false) (m0 : M.any (fun q => q.1 == 0) = false) (mt : M.any (fun q => q.1 == tt) = false) (mp : M.any (fun q => q.1 == tp) = false) (ne : ((0 : Nat) ≠ t9 ∧ tt ≠ t9) ∧ tp ≠ t9) (hn : n ≤ 8) (H : hv_RA h qa w n A) : hv_RA h1 qa w n A := by
  have key : ∀ (q : Nat) (m : Int) (a : hv_act), hx_g (hx_X L x) h q 0 → hv_AQ h q m a → hv_AQ h1 q m a := by
    intro q m a g H
    have e := fun j => hs.all g m0 j
    have g' : hx_g L h q 0 := ⟨(hx_X_m.mp g.1).1, g.2⟩
    refine hv_AQ_c H (e 0).1 (e 1).1 (e 4).1 (e 2).2 (e 3).2 (fun t ht => ?_) (fun p hp => ?_)
    · obtain ⟨a1, a2⟩ := (hT.gr g' h0 f2).2 t ht
      have a3 : h.1 t = tt := by simpa using a2
      have gt : hx_g (hx_X L x) h t tt := ⟨hx_X_m.mpr ⟨a1, fun z => ne.1.2 (by rw [← a3, z, gx.2])⟩, a3⟩
      exact funext fun j => (hs.all gt mt j).1
    · obtain ⟨a1, a2⟩ := (hT.gr g' h0 f3).2 p hp
      have a3 : h.1 p = tp := by simpa using a2
      have gt : hx_g (hx_X L x) h p tp := ⟨hx_X_m.mpr ⟨a1, fun z => ne.2 (by rw [← a3, z, gx.2])⟩, a3⟩
      exact funext fun j => (hs.all gt mp j).1
  refine ⟨key w _ _ gw H.1, fun j hj q hq => ?_⟩
  rw [(hs.all ga ma j).2] at hq
  obtain ⟨c1, c2⟩ := (hT.er ⟨(hx_X_m.mp ga.1).1, ga.2⟩ hd (k := j) (by omega)).2 q hq
  have c3 : h.1 q = 0 := by simpa using c2
  exact key q _ _ ⟨hx_X_m.mpr ⟨c1, fun z => ne.1.1 (by rw [← c3, z, gx.2])⟩, c3⟩ (H.2 j hj q hq)
/-- one more act -/
theorem hv_RA_p {q : Nat} {i : Int32} {a : hv_act} (H : hv_RA h qa w n A) (hT : hx_T tb L h) (ga : hx_g L h qa ta) (gw : hx_g L h w 0) (gq : hx_g L h q 0) (hd : tb[ta]? = some (.inr (t0, 8, .inr (nn, [0])))) (ne : (0 : Nat) ≠ ta) (hq : hv_AQ h q n a) (eh : h1 = hx_pr h qa i.toNatClampNeg (some q)) (hi : i.toInt = n) (h0 : 0 ≤ n) (hn : n ≤ 7) : hv_RA h1 qa w (n + 1) (fun k => if k = n.toNat + 1 then a else A k) := by
  have ei : i.toNatClampNeg = n.toNat := by unfold Int32.toNatClampNeg; omega
  subst eh
  have key2 : ∀ (q1 : Nat) (m : Int) (a1 : hv_act), hx_g L h q1 0 → hv_AQ h q1 m a1 → hv_AQ (hx_pr h qa i.toNatClampNeg (some q)) q1 m a1 := by
    intro q1 m a1 g H
    have nq : q1 ≠ qa := fun z => ne (by rw [← g.2, z, ga.2])
    exact hv_AQ_c H rfl rfl rfl (hx_pr_ne h (some q) (fun z => nq z.1)) (hx_pr_ne h (some q) (fun z => nq z.1)) (fun _ _ => rfl) (fun _ _ => rfl)
  refine ⟨?_, fun j hj q1 hq1 => ?_⟩
  · show hv_AQ _ w (-1) (if 0 = n.toNat + 1 then a else A 0)
    rw [if_neg (by omega)]
    exact key2 w _ _ gw H.1
  · show hv_AQ _ q1 j (if j + 1 = n.toNat + 1 then a else A (j + 1))
    by_cases z : j = n.toNat
    · rw [if_pos (by omega)]
      have e1 : (hx_pr h qa i.toNatClampNeg (some q)).2.2 qa j = some q := by
        rw [z, ← ei]; exact hx_pr_at _ _ _ _
      rw [e1] at hq1
      cases hq1
      rw [show ((j : Nat) : Int) = n by omega]
      exact key2 q _ _ gq hq
    · rw [if_neg (by omega)]
      rw [hx_pr_ne h (a := qa) (k := i.toNatClampNeg) (b := qa) (j := j) (some q) (fun y => z (by have := y.2; omega))] at hq1
      obtain ⟨c1, c2⟩ := (hT.er ga hd (k := j) (by omega)).2 q1 hq1
      exact key2 q1 _ _ ⟨c1, by simpa using c2⟩ (H.2 j (by omega) q1 hq1)
end HVRA
/-- the reference's rows -/
def hv_CR (adf rf psf prf : Nat → Int32) (j : Nat) (a : hv_act) : Prop := ((psf j).toInt ≤ 128 ∧ (1 ≤ j → (adf j).toInt = a.1 ∧ 0 ≤ a.1)) ∧ hv_rR (fun k => rf (13 * j + k)) = a.2.1 ∧ hv_ls (fun i => prf (128 * j + i)) (psf j).toInt.toNat = a.2.2.map hv_rc
def hv_CA (adf rf psf prf : Nat → Int32) (n : Int) (A : Nat → hv_act) : Prop := (A 0).1 = -1 ∧ ∀ j : Nat, (j : Int) ≤ n → hv_CR adf rf psf prf j (A j)
def hv_RL (rf0 rf1 rd : Nat → Int32) (a k : Int) : Prop := (∀ p : Nat, (p : Int) < 13 * a → rf1 p = rf0 p) ∧ ∀ j : Nat, (j : Int) < k → rf1 (13 * a.toNat + j) = rd j
theorem hv_RL_0 {rf rd : Nat → Int32} {a k : Int} (h : k ≤ 0) : hv_RL rf rf rd a k := ⟨fun _ _ => rfl, fun j hj => by exfalso; omega⟩
theorem hv_RL_s {rf0 rf rf1 rd : Nat → Int32} {a k k1 : Int} {i v l : Int32} (h : hv_RL rf0 rf rd a k) (ha : 0 ≤ a) (hk : 0 ≤ k) (hi : i.toInt = 13 * a + k) (hv : v = rd l.toNatClampNeg) (hl : l.toInt = k) (e : rf1 = hx_up rf i.toNatClampNeg v) (e1 : k1 = k + 1) : hv_RL rf0 rf1 rd a k1 := by
  have ei : ((i.toNatClampNeg : Nat) : Int) = i.toInt := by unfold Int32.toNatClampNeg; omega
  have el : ((l.toNatClampNeg : Nat) : Int) = l.toInt := by unfold Int32.toNatClampNeg; omega
  subst e
  refine ⟨fun p hp => ?_, fun j hj => ?_⟩
  · rw [hx_up_ne (by omega)]; exact h.1 p hp
  · by_cases z : j = k.toNat
    · rw [show 13 * a.toNat + j = i.toNatClampNeg by omega, hx_up_at, hv, show l.toNatClampNeg = j by omega]
    · rw [hx_up_ne (by omega)]; exact h.2 j (by omega)
theorem hv_ls_c2 {f g : Nat → Int32} {n m : Nat} (hn : n = m) (h : ∀ j, j < n → f j = g j) : hv_ls f n = hv_ls g m := by
  subst hn; exact hv_ls_c n h
theorem hv_rR_c {f g : Nat → Int32} (h : ∀ j, j < 13 → f j = g j) : hv_rR f = hv_rR g := by
  funext k
  show (if k < 13 then (f k).toInt else 0) = (if k < 13 then (g k).toInt else 0)
  by_cases z : k < 13
  · rw [if_pos z, if_pos z, h k z]
  · rw [if_neg z, if_neg z]
/-- one more row -/
theorem hv_CA_p {adf adf1 rf rf1 psf psf1 prf prf1 rd sf : Nat → Int32} {n m : Int} {A : Nat → hv_act} {a : hv_act} {i st d : Int32} (H : hv_CA adf rf psf prf n A) (h0 : 0 ≤ n) (hm : m = n + 1) (hi : i.toInt = m) (e1 : adf1 = hx_up adf i.toNatClampNeg d) (hd : d.toInt = a.1) (hd0 : 0 ≤ d.toInt) (e2 : hv_RL rf rf1 rd m 13) (hr : hv_rR rd = a.2.1) (e3 : psf1 = hx_up psf i.toNatClampNeg st) (e4 : hx_kp sf prf prf1 m st.toInt) (hs : st.toInt ≤ 128) (hl : hv_ls sf st.toInt.toNat = a.2.2.map hv_rc) : hv_CA adf1 rf1 psf1 prf1 m (fun k => if k = n.toNat + 1 then a else A k) := by
  have ei : ((i.toNatClampNeg : Nat) : Int) = m := by unfold Int32.toNatClampNeg; omega
  subst e1; subst e3
  refine ⟨by show (if 0 = n.toNat + 1 then a else A 0).1 = -1; rw [if_neg (by omega)]; exact H.1, fun j hj => ?_⟩
  show hv_CR _ _ _ _ j (if j = n.toNat + 1 then a else A j)
  by_cases z : j = n.toNat + 1
  · rw [if_pos z]
    refine ⟨⟨?_, fun _ => ?_⟩, ?_, ?_⟩
    · rw [show j = i.toNatClampNeg by omega, hx_up_at]; exact hs
    · rw [show j = i.toNatClampNeg by omega, hx_up_at]; exact ⟨hd, by omega⟩
    · rw [← hr]; exact hv_rR_c (fun k hk => by have := e2.2 k (by omega); rw [← this]; congr 1; omega)
    · rw [show j = i.toNatClampNeg by omega, hx_up_at, ← hl]
      exact hv_ls_c2 rfl (fun k hk => by have := e4.1 k (by omega); rw [← this]; congr 1; omega)
  · rw [if_neg z]
    obtain ⟨⟨a0, a1⟩, a2, a3⟩ := H.2 j (by omega)
    refine ⟨⟨?_, fun h1 => ?_⟩, ?_, ?_⟩
    · rw [hx_up_ne (by omega)]; exact a0
    · rw [hx_up_ne (by omega)]; exact a1 h1
    · rw [← a2]; exact hv_rR_c (fun k hk => e2.1 _ (by omega))
    · rw [← a3, hx_up_ne (by omega)]
      exact hv_ls_c2 rfl (fun k hk => e4.2 _ (Or.inl (by omega)))
/-- which row holds on a day -/
def hv_IF (A : Nat → hv_act) (d : Int) : Nat → Nat
  | 0 => 0
  | k + 1 => if (A (k + 1)).1 ≤ d ∧ (A (hv_IF A d k)).1 ≤ (A (k + 1)).1 then k + 1 else hv_IF A d k
theorem hv_IF_b {A : Nat → hv_act} {d : Int} : ∀ k, hv_IF A d k ≤ k
  | 0 => Nat.le_refl _
  | k + 1 => by
    have h := hv_IF_b (A := A) (d := d) k
    have e : hv_IF A d (k + 1) = (if (A (k + 1)).1 ≤ d ∧ (A (hv_IF A d k)).1 ≤ (A (k + 1)).1 then k + 1 else hv_IF A d k) := rfl
    rw [e]; split
    · exact Nat.le_refl _
    · exact Nat.le_trans h (Nat.le_succ k)
theorem hv_IF_y {A : Nat → hv_act} {d l l1 : Int} (h : (A (l.toNat + 1)).1 ≤ d ∧ (A (hv_IF A d l.toNat)).1 ≤ (A (l.toNat + 1)).1) (h0 : 0 ≤ l) (e : l1 = l + 1) : hv_IF A d l1.toNat = l.toNat + 1 := by
  rw [show l1.toNat = l.toNat + 1 by omega]; exact if_pos h
theorem hv_IF_n {A : Nat → hv_act} {d l l1 : Int} (h : ¬ ((A (l.toNat + 1)).1 ≤ d ∧ (A (hv_IF A d l.toNat)).1 ≤ (A (l.toNat + 1)).1)) (h0 : 0 ≤ l) (e : l1 = l + 1) : hv_IF A d l1.toNat = hv_IF A d l.toNat := by
  rw [show l1.toNat = l.toNat + 1 by omega]; exact if_neg h
/-- what force answers -/
def hv_FO (A : Nat → hv_act) (d i n r : Int) : Prop := ((d < 0 ∨ 7999 < d ∨ i < 0 ∨ 13 < i) ∧ r = -1) ∨ (¬ (d < 0 ∨ 7999 < d ∨ i < 0 ∨ 13 < i) ∧ ((i = 0 ∧ r = (hv_IF A d n.toNat : Int) - 1) ∨ (1 ≤ i ∧ r = (A (hv_IF A d n.toNat)).2.1 (i - 1).toNat)))
theorem hv_FO_eq {A : Nat → hv_act} {d i n r r' : Int} (h : hv_FO A d i n r) (h' : hv_FO A d i n r') : r = r' := by
  obtain ⟨_, h1⟩ | ⟨z, ⟨_, h1⟩ | ⟨_, h1⟩⟩ := h <;> obtain ⟨_, h2⟩ | ⟨z', ⟨_, h2⟩ | ⟨_, h2⟩⟩ := h' <;> first | exact h1.trans h2.symm | (exfalso; omega)
/-- the rows behind an act -/
def hv_AU (A : Nat → hv_act) (a0 a1 d : Int) (sp : Nat ⊕ hv_st) (A1 : Nat → hv_act) : Prop := (a1 = a0 ∧ A1 = A) ∨ (a1 = a0 + 1 ∧ ∃ x sn rd o, sp = .inr (x, sn, rd, o) ∧ A1 = (fun k => if k = a0.toNat + 1 then (d, rd, o) else A k))
theorem hv_AU_eq {A A1 A2 : Nat → hv_act} {a0 a1 d : Int} {sp : Nat ⊕ hv_st} (h : hv_AU A a0 a1 d sp A1) (h' : hv_AU A a0 a1 d sp A2) : A1 = A2 := by
  obtain ⟨z, h1⟩ | ⟨z, x, sn, rd, o, h1, h2⟩ := h <;> obtain ⟨z', h1'⟩ | ⟨z', x', sn', rd', o', h1', h2'⟩ := h'
  · exact h1.trans h1'.symm
  · exfalso; omega
  · exfalso; omega
  · rw [h1] at h1'
    have e := Sum.inr.inj h1'
    simp only [Prod.mk.injEq] at e
    rw [h2, h2', e.2.2.1, e.2.2.2]
theorem hv_AR_2 {e : hv_tok → Int} {sp : Nat ⊕ hv_st} {r : Int} {rd : Nat → Int} {ls : List Int} (h : hv_AR e sp r rd ls) (z : r ≤ 0) : ∃ x sn o, ls = o.map e ∧ sp = .inr (x, sn, rd, o) := by
  obtain ⟨_, w⟩ | ⟨a, _⟩ := h
  · exact w
  · exfalso; omega
theorem hv_CA_0 {adf rf psf psf1 prf prf1 sf : Nat → Int32} {i st : Int32} (hi : i.toInt = 0) (hr : hv_rR rf = hv_W0) (e3 : psf1 = hx_up psf i.toNatClampNeg st) (e4 : hx_kp sf prf prf1 i.toInt st.toInt) (hs : st.toInt ≤ 128) (hl : hv_ls sf st.toInt.toNat = hv_o0.map hv_rc) : hv_CA adf rf psf1 prf1 0 (fun _ => hv_A0) := by
  refine ⟨rfl, fun j hj => ?_⟩
  have hj0 : j = 0 := by omega
  subst hj0; subst e3
  have ei : i.toNatClampNeg = 0 := by unfold Int32.toNatClampNeg; omega
  refine ⟨⟨?_, fun h => absurd h (by omega)⟩, ?_, ?_⟩
  · rw [ei, hx_up_at]; exact hs
  · show hv_rR (fun k => rf (13 * 0 + k)) = hv_W0
    rw [← hr]; exact hv_rR_c (fun k hk => by congr 1; omega)
  · rw [ei, hx_up_at]
    show _ = hv_o0.map hv_rc
    rw [← hl]
    exact hv_ls_c2 rfl (fun k hk => by
      have h8 := e4.1 k (by omega)
      rw [hi] at h8
      rw [show 128 * 0 + k = 128 * (0 : Int).toNat + k by simp]; exact h8)
end
section
set_option maxHeartbeats 4000000 in
set_option maxRecDepth 100000 in
theorem t_X10_see_v (l : Launch) (dC : Nat → ClassId) (dI : Nat → Nat → Nat) (dA : Nat → ClassId) (L : List Nat) (h : hx_h) (sz : Nat) (x : Nat) (hT : hx_T T_tb L h) (gx : hx_g L h x 10) (qt : Nat) (gqt : hx_g L h qt 53) (f_x_6 : h.2.2 x 6 = some qt) (tf : Nat → Int32) (af_qt : h.2.1 qt = tf) (nx0 : Int32) (f_x_8 : h.2.1 x 8 = nx0) (tp0 : Int32) (f_x_7 : h.2.1 x 7 = tp0) (hA : nx0.toInt ≤ tp0.toInt) : Met l yX10_see (Cond.code yX10_see cX10_see 1 (some .int) :: hx_all) ({ frames := 0, cells := 0, slots := 0, locals := 0 }) (va_Pc [.ref x] (hx_B T_tb (P_ty dA) (dC, dI) vwCl L h sz)) (va_Qi (fun (r : Int32) (u : List Nat × hx_h) => (∃ (nx1 : Int32), u.2.2.1 x 8 = nx1 ∧ (nx0.toInt ≤ nx1.toInt ∧ nx1.toInt ≤ tp0.toInt ∧ nx1.toInt = ((hv_sk tf tp0.toInt.toNat nx0.toInt.toNat : Nat) : Int) ∧ hv_SE tf tp0.toInt r.toInt nx1.toInt ∧ -1 ≤ r.toInt ∧ r.toInt ≤ 255)) ∧ hx_T T_tb u.1 u.2 ∧ hx_S T_tb [(10, 8)] L h u.1 u.2) (hx_E T_tb (P_ty dA) (dC, dI) vwCl (hx_A L sz)) (hx_A L sz)) 0 0 (hx_A L sz) := by
  refine hx_met (lv := [(0, .ref x)]) (by decide +kernel) rfl (Nat.le_of_ble_eq_true rfl) rfl ?_
  intro p e s m below meth c hx hb hml hr hlk hts0 hown hin hsz hW ls hl
  have hts : ∀ w ∈ hx_all, w.before _ s = true := fun w hw => hts0 w (List.mem_cons_of_mem _ hw)
  have hown : s.vm.findClass "SmallCourtModel" = some m.cls := hown
  have hM : hx_S T_tb [(10, 8)] L h L h := hx_S.rf
  have b_nx0 := hT.gi gx tt_10 (k := 8) rfl
  rw [f_x_8] at b_nx0
  have b_nx0 : 0 ≤ nx0.toInt ∧ nx0.toInt ≤ 402 := b_nx0
  have b_tp0 := hT.gi gx tt_10 (k := 7) rfl
  rw [f_x_7] at b_tp0
  have b_tp0 : 0 ≤ tp0.toInt ∧ tp0.toInt ≤ 400 := b_tp0
  have loop0 : ∀ (n0 : Nat) (fw0_x_8 : Int32) (H : Heap) (locs : List Loc) (hL1 : List Nat) (hl1 : hx_h), 0 ≤ fw0_x_8.toInt → fw0_x_8.toInt ≤ 402 → (hv_sk tf tp0.toInt.toNat nx0.toInt.toNat = hv_sk tf tp0.toInt.toNat (fw0_x_8.toInt).toNat) → (nx0.toInt ≤ fw0_x_8.toInt) → (fw0_x_8.toInt ≤ tp0.toInt) → ∀ (ls : Array Slot), 402 - fw0_x_8.toInt < (n0 : Int) → hx_W T_tb (P_ty dA) (dC, dI) vwCl (hx_A L sz) s.heap hL1 hl1 s H locs → hx_T T_tb hL1 hl1 → hx_S T_tb [(10, 8)] L h hL1 hl1 → hl1.2.1 x 8 = fw0_x_8 → lv_has ls 1 [(0, .ref x)] → W p l e ({ frames := 0, cells := 0, slots := 0, locals := 0 }) s m ([.ref x] : List Value).toArray below meth c H locs 0 0 (MQ below (va_Qi (fun (r : Int32) (u : List Nat × hx_h) => (∃ (nx1 : Int32), u.2.2.1 x 8 = nx1 ∧ (nx0.toInt ≤ nx1.toInt ∧ nx1.toInt ≤ tp0.toInt ∧ nx1.toInt = ((hv_sk tf tp0.toInt.toNat nx0.toInt.toNat : Nat) : Int) ∧ hv_SE tf tp0.toInt r.toInt nx1.toInt ∧ -1 ≤ r.toInt ∧ r.toInt ≤ 255)) ∧ hx_T T_tb u.1 u.2 ∧ hx_S T_tb [(10, 8)] L h u.1 u.2) (hx_E T_tb (P_ty dA) (dC, dI) vwCl (hx_A L sz)) (hx_A L sz)) ([.ref x] : List Value).toArray s 0 0 (hx_A L sz)) (F0 m 0 ls []) := by
    intro n0
    induction n0 with
    | zero => intro fw0_x_8 H locs hL1 hl1 blfw0_x_8 bufw0_x_8 vi0_0 vi0_1 vi0_2 ls hn0; exfalso; omega
    | succ n0 ih0 =>
      intro fw0_x_8 H locs hL1 hl1 blfw0_x_8 bufw0_x_8 vi0_0 vi0_1 vi0_2 ls hn0 hW hT hM ffw0_x_8  hl
      refine lv_aload_n hx hb dX10_see_0 rfl (lv_at hl 0 rfl) ?_
      refine hk_geti hx hb hts hC_10 hown hW (gx.S hM) tt_10 8 (by decide) rfl kw_1151 ⟨rfl, rfl, rfl⟩ ffw0_x_8 dX10_see_1 ?_
      refine lv_aload_n hx hb dX10_see_4 rfl (lv_at hl 0 rfl) ?_
      refine hk_geti hx hb hts hC_10 hown hW (gx.S hM) tt_10 7 (by decide) rfl kw_1150 ⟨rfl, rfl, rfl⟩ ((hM.o gx trivial rfl).1.trans f_x_7) dX10_see_5 ?_
      refine hb_icmp_ge (zx := fw0_x_8.toInt) (zy := tp0.toInt) (tgt := 38) hx hb rfl rfl dX10_see_8 (by decide) (fun c_1 => ?_) (fun c_1 => ?_)
      · skip
        refine lv_aload_n hx hb dX10_see_38 rfl (lv_at hl 0 rfl) ?_
        refine hk_geti hx hb hts hC_10 hown hW (gx.S hM) tt_10 8 (by decide) rfl kw_1151 ⟨rfl, rfl, rfl⟩ ffw0_x_8 dX10_see_39 ?_
        refine lv_aload_n hx hb dX10_see_42 rfl (lv_at hl 0 rfl) ?_
        refine hk_geti hx hb hts hC_10 hown hW (gx.S hM) tt_10 7 (by decide) rfl kw_1150 ⟨rfl, rfl, rfl⟩ ((hM.o gx trivial rfl).1.trans f_x_7) dX10_see_43 ?_
        refine hb_icmp_ge (zx := fw0_x_8.toInt) (zy := tp0.toInt) (tgt := 65) hx hb rfl rfl dX10_see_46 (by decide) (fun c_2 => ?_) (fun c_2 => ?_)
        · skip
          refine lv_iconst (v := -1) hx hb dX10_see_65 (by decide) ?_
          exact hx_reti hx hb hr hlk hW ⟨⟨fw0_x_8, ffw0_x_8, ⟨by omega, by omega, (by rw [vi0_0]; exact (hv_sn_o (by omega) (fun z9 => by exfalso; omega)).symm), Or.inl ⟨by decide, by omega⟩, by decide, by decide⟩⟩, hT, hM⟩ dX10_see_66
        · skip
          refine lv_aload_n hx hb dX10_see_49 rfl (lv_at hl 0 rfl) ?_
          refine hk_getr hx hb hts hC_10 hown hW (gx.S hM) tt_10 6 (by decide) rfl kw_1149 ⟨rfl, rfl, rfl⟩ ((hM.o gx trivial rfl).2.trans f_x_6) dX10_see_50 ?_
          refine lv_aload_n hx hb dX10_see_53 rfl (lv_at hl 0 rfl) ?_
          refine hk_geti hx hb hts hC_10 hown hW (gx.S hM) tt_10 8 (by decide) rfl kw_1151 ⟨rfl, rfl, rfl⟩ ffw0_x_8 dX10_see_54 ?_
          refine hx_bald hx hb hW hT (gqt.S hM) tt_53 rfl ⟨by omega, by omega⟩ dX10_see_57 (fun x_3 ex_3 lx_3 ux_3 => ?_)
          have ax_3 : x_3 = tf fw0_x_8.toNatClampNeg := ex_3.trans (congrFun (hx_afS hM gqt rfl af_qt) _)
          refine lv_sipush (v := 255) hx hb dX10_see_58 (by decide) ?_
          refine lv_iand hx hb dX10_see_61 ?_
          refine lv_topi (fun x_4 ex_4 => ?_)
          have zx_4 : 0 ≤ x_4.toInt ∧ x_4.toInt ≤ 255 := by rw [ex_4]; exact hx_andR (by decide) (by decide)
          refine lv_goto (tgt := 66) hx hb dX10_see_62 (by decide) ?_
          exact hx_reti hx hb hr hlk hW ⟨⟨fw0_x_8, ffw0_x_8, ⟨by omega, by omega, (by rw [vi0_0]; exact (hv_sn_o (by omega) (fun z9 => hv_bl_f ax_3 (by omega))).symm), Or.inr ⟨by omega, hv_a255 ex_4 ax_3 (by omega) (by omega)⟩, by omega, by omega⟩⟩, hT, hM⟩ dX10_see_66
      · skip
        refine lv_aload_n hx hb dX10_see_11 rfl (lv_at hl 0 rfl) ?_
        refine hk_getr hx hb hts hC_10 hown hW (gx.S hM) tt_10 6 (by decide) rfl kw_1149 ⟨rfl, rfl, rfl⟩ ((hM.o gx trivial rfl).2.trans f_x_6) dX10_see_12 ?_
        refine lv_aload_n hx hb dX10_see_15 rfl (lv_at hl 0 rfl) ?_
        refine hk_geti hx hb hts hC_10 hown hW (gx.S hM) tt_10 8 (by decide) rfl kw_1151 ⟨rfl, rfl, rfl⟩ ffw0_x_8 dX10_see_16 ?_
        refine hx_bald hx hb hW hT (gqt.S hM) tt_53 rfl ⟨by omega, by omega⟩ dX10_see_19 (fun x_5 ex_5 lx_5 ux_5 => ?_)
        have ax_5 : x_5 = tf fw0_x_8.toNatClampNeg := ex_5.trans (congrFun (hx_afS hM gqt rfl af_qt) _)
        refine lv_bipush (v := 32) hx hb dX10_see_20 (by decide) ?_
        refine hb_icmp_ne (zx := x_5.toInt) (zy := 32) (tgt := 38) hx hb rfl (by decide) dX10_see_22 (by decide) (fun c_6 => ?_) (fun c_6 => ?_)
        · skip
          refine lv_aload_n hx hb dX10_see_38 rfl (lv_at hl 0 rfl) ?_
          refine hk_geti hx hb hts hC_10 hown hW (gx.S hM) tt_10 8 (by decide) rfl kw_1151 ⟨rfl, rfl, rfl⟩ ffw0_x_8 dX10_see_39 ?_
          refine lv_aload_n hx hb dX10_see_42 rfl (lv_at hl 0 rfl) ?_
          refine hk_geti hx hb hts hC_10 hown hW (gx.S hM) tt_10 7 (by decide) rfl kw_1150 ⟨rfl, rfl, rfl⟩ ((hM.o gx trivial rfl).1.trans f_x_7) dX10_see_43 ?_
          refine hb_icmp_ge (zx := fw0_x_8.toInt) (zy := tp0.toInt) (tgt := 65) hx hb rfl rfl dX10_see_46 (by decide) (fun c_7 => ?_) (fun c_7 => ?_)
          · skip
            refine lv_iconst (v := -1) hx hb dX10_see_65 (by decide) ?_
            exact hx_reti hx hb hr hlk hW ⟨⟨fw0_x_8, ffw0_x_8, ⟨by omega, by omega, (by rw [vi0_0]; exact (hv_sn_o (by omega) (fun z9 => hv_bl_f ax_5 (by omega))).symm), Or.inl ⟨by decide, by omega⟩, by decide, by decide⟩⟩, hT, hM⟩ dX10_see_66
          · skip
            refine lv_aload_n hx hb dX10_see_49 rfl (lv_at hl 0 rfl) ?_
            refine hk_getr hx hb hts hC_10 hown hW (gx.S hM) tt_10 6 (by decide) rfl kw_1149 ⟨rfl, rfl, rfl⟩ ((hM.o gx trivial rfl).2.trans f_x_6) dX10_see_50 ?_
            refine lv_aload_n hx hb dX10_see_53 rfl (lv_at hl 0 rfl) ?_
            refine hk_geti hx hb hts hC_10 hown hW (gx.S hM) tt_10 8 (by decide) rfl kw_1151 ⟨rfl, rfl, rfl⟩ ffw0_x_8 dX10_see_54 ?_
            refine hx_bald hx hb hW hT (gqt.S hM) tt_53 rfl ⟨by omega, by omega⟩ dX10_see_57 (fun x_8 ex_8 lx_8 ux_8 => ?_)
            have ax_8 : x_8 = tf fw0_x_8.toNatClampNeg := ex_8.trans (congrFun (hx_afS hM gqt rfl af_qt) _)
            obtain rfl : x_5 = x_8 := ex_5.trans ex_8.symm
            refine lv_sipush (v := 255) hx hb dX10_see_58 (by decide) ?_
            refine lv_iand hx hb dX10_see_61 ?_
            refine lv_topi (fun x_9 ex_9 => ?_)
            have zx_9 : 0 ≤ x_9.toInt ∧ x_9.toInt ≤ 255 := by rw [ex_9]; exact hx_andR (by decide) (by decide)
            refine lv_goto (tgt := 66) hx hb dX10_see_62 (by decide) ?_
            exact hx_reti hx hb hr hlk hW ⟨⟨fw0_x_8, ffw0_x_8, ⟨by omega, by omega, (by rw [vi0_0]; exact (hv_sn_o (by omega) (fun z9 => hv_bl_f ax_5 (by omega))).symm), Or.inr ⟨by omega, hv_a255 ex_9 ax_5 (by omega) (by omega)⟩, by omega, by omega⟩⟩, hT, hM⟩ dX10_see_66
        · skip
          refine lv_aload_n hx hb dX10_see_25 rfl (lv_at hl 0 rfl) ?_
          refine lv_dup hx hb dX10_see_26 rfl ?_
          refine hk_geti hx hb hts hC_10 hown hW (gx.S hM) tt_10 8 (by decide) rfl kw_1151 ⟨rfl, rfl, rfl⟩ ffw0_x_8 dX10_see_27 ?_
          refine lv_iconst (v := 1) hx hb dX10_see_30 (by decide) ?_
          refine lv_iadd hx hb dX10_see_31 ?_
          have rg_10 := i32_r fw0_x_8
          refine lv_topi (fun x_11 ex_11 => ?_)
          have zx_11 : x_11.toInt = fw0_x_8.toInt + 1 := by rw [ex_11]; exact i32_add rfl (by decide) (by omega) (by omega)
          refine hx_puti hx hb hts hC_10 hown hW hT (hx_S.rf (M := [(10, 8)])) (gx.S hM) tt_10 8 (by decide) rfl kw_1151 ⟨rfl, rfl, rfl⟩ rfl (x := x_11) ⟨by omega, by omega⟩ rfl rfl rfl (List.mem_singleton.mpr rfl) dX10_see_32 (fun H locs h_12 eh_12 hW hT hs => ?_)
          replace ex_5 := ex_5.trans (hs.a (gqt.S hM) rfl _).1.symm
          replace hM := hM.tr (hs.mono (by decide))
          have f_13 : h_12.2.1 x 8 = x_11 := by rw [eh_12]; exact hx_pi_at _ _ _ _
          refine lv_goto (tgt := 0) hx hb dX10_see_35 (by decide) ?_
          exact ih0 x_11 _ _ hL1 h_12 (by omega) (by omega) (vi0_0.trans (hv_sn_i (by omega) (by omega) (hv_bl_t ax_5 (by omega)) zx_11)) (by omega) (by omega) ls (by omega) hW hT hM f_13  (lv_sub hl [0] rfl)
  exact loop0 403 nx0 _ _ L h (by omega) (by omega) rfl (by omega) (by omega) ls (by omega) hW hT hM f_x_8  hl


set_option maxHeartbeats 4000000 in
set_option maxRecDepth 100000 in
theorem t_X10_wordHere_v (l : Launch) (dC : Nat → ClassId) (dI : Nat → Nat → Nat) (dA : Nat → ClassId) (L : List Nat) (h : hx_h) (sz : Nat) (x : Nat) (hT : hx_T T_tb L h) (gx : hx_g L h x 10) (qt : Nat) (gqt : hx_g L h qt 53) (f_x_6 : h.2.2 x 6 = some qt) (qw : Nat) (gqw : hx_g L h qw 57) (f_x_19 : h.2.2 x 19 = some qw) (tf : Nat → Int32) (af_qt : h.2.1 qt = tf) (wf : Nat → Int32) (af_qw : h.2.1 qw = wf) (nx0 : Int32) (f_x_8 : h.2.1 x 8 = nx0) (tp0 : Int32) (f_x_7 : h.2.1 x 7 = tp0) (hwd : hx_wd wf) (hA : nx0.toInt ≤ tp0.toInt) : Met l yX10_wordHere (Cond.code yX10_wordHere cX10_wordHere 5 (some .int) :: hx_all) ({ frames := 1, cells := 0, slots := 0, locals := 20 }) (va_Pc [.ref x] (hx_B T_tb (P_ty dA) (dC, dI) vwCl L h sz)) (va_Qi (fun (r : Int32) (u : List Nat × hx_h) => (∃ (nx1 : Int32) (ws1 : Int32), u.2.2.1 x 8 = nx1 ∧ u.2.2.1 x 11 = ws1 ∧ (nx0.toInt ≤ nx1.toInt ∧ nx1.toInt ≤ tp0.toInt ∧ nx1.toInt = ((hv_sk tf tp0.toInt.toNat nx0.toInt.toNat : Nat) : Int) ∧ nx1.toInt + ws1.toInt = ((hv_we tf tp0.toInt.toNat (hv_sk tf tp0.toInt.toNat nx0.toInt.toNat) : Nat) : Int) ∧ r.toInt = hv_wd tf tp0.toInt.toNat (hv_sk tf tp0.toInt.toNat nx0.toInt.toNat) ∧ 0 ≤ ws1.toInt ∧ nx1.toInt + ws1.toInt ≤ tp0.toInt ∧ -1 ≤ r.toInt ∧ r.toInt ≤ 24)) ∧ hx_T T_tb u.1 u.2 ∧ hx_S T_tb [(10, 8), (10, 11)] L h u.1 u.2) (hx_E T_tb (P_ty dA) (dC, dI) vwCl (hx_A L sz)) (hx_A L sz)) 0 0 (hx_A L sz) := by
  refine hx_met (lv := [(0, .ref x)]) (by decide +kernel) rfl (Nat.le_of_ble_eq_true rfl) rfl ?_
  intro p e s m below meth c hx hb hml hr hlk hts0 hown hin hsz hW ls hl
  have hts : ∀ w ∈ hx_all, w.before _ s = true := fun w hw => hts0 w (List.mem_cons_of_mem _ hw)
  have hown : s.vm.findClass "SmallCourtModel" = some m.cls := hown
  have hM : hx_S T_tb [(10, 8), (10, 11)] L h L h := hx_S.rf
  have b_nx0 := hT.gi gx tt_10 (k := 8) rfl
  rw [f_x_8] at b_nx0
  have b_nx0 : 0 ≤ nx0.toInt ∧ nx0.toInt ≤ 402 := b_nx0
  have b_tp0 := hT.gi gx tt_10 (k := 7) rfl
  rw [f_x_7] at b_tp0
  have b_tp0 : 0 ≤ tp0.toInt ∧ tp0.toInt ≤ 400 := b_tp0
  refine lv_aload_n hx hb dX10_wordHere_0 rfl (lv_at hl 0 rfl) ?_
  refine hx_goi (hx_runV (As := []) (rest := []) ⟨hx, hb, hml, hown, hts⟩ hW (gx.S hM) tt_10 (T := TX10) (N := 98) rfl (t_X10_see_v l dC dI dA L h s.heap.size x hT (gx.S hM) qt (gqt.S hM) ((hM.o gx trivial rfl).2.trans f_x_6) tf (hx_afS hM gqt rfl af_qt) nx0 f_x_8 tp0 ((hM.o gx trivial rfl).1.trans f_x_7) (by omega)) (cwV 0 hts (hx_gV kw_1468 kw_1465 kw_1467 kw_53 kw_103) rfl rfl rfl (by decide +kernel) ⟨Nat.le_of_ble_eq_true rfl, Nat.le_of_ble_eq_true rfl⟩) rfl hl.1 rfl (Nat.le_of_ble_eq_true rfl) dX10_wordHere_1 ⟨Nat.le_of_ble_eq_true rfl, Nat.le_of_ble_eq_true rfl⟩) hW (fun r_3 L_1 h_2 H locs p_4 hW => ?_)
  obtain ⟨⟨w_6, fw_6, hr_5⟩, hT, hs⟩ := p_4
  replace hT : hx_T T_tb L_1 h_2 := hT
  replace hs : hx_S T_tb [(10, 8)] L h L_1 h_2 := hs
  replace hM := hM.tr (hs.mono (by decide))
  have fw_6 : h_2.2.1 x 8 = w_6 := fw_6
  have bw_6 := hT.gi (gx.S hM) tt_10 (k := 8) rfl
  rw [fw_6] at bw_6
  have bw_6 : 0 ≤ w_6.toInt ∧ w_6.toInt ≤ 402 := bw_6
  have ek_7 : w_6.toInt.toNat = hv_sk tf tp0.toInt.toNat nx0.toInt.toNat := by omega
  have hr_5S := hr_5.2.2.2.1
  refine lv_pop hx hb dX10_wordHere_4 rfl ?_
  refine lv_aload_n hx hb dX10_wordHere_5 rfl (lv_at hl 0 rfl) ?_
  refine lv_iconst (v := 0) hx hb dX10_wordHere_6 (by decide) ?_
  refine hx_puti hx hb hts hC_10 hown hW hT (hx_S.rf (M := [(10, 11)])) (gx.S hM) tt_10 11 (by decide) rfl kw_1154 ⟨rfl, rfl, rfl⟩ rfl (x := (0 : Int32)) (by decide) rfl rfl rfl (List.mem_singleton.mpr rfl) dX10_wordHere_7 (fun H locs h_8 eh_8 hW hT hs => ?_)
  replace fw_6 := (hs.o (gx.S hM) trivial rfl).1.trans fw_6
  replace hM := hM.tr (hs.mono (by decide))
  have f_9 : h_8.2.1 x 11 = (0 : Int32) := by rw [eh_8]; exact hx_pi_at _ _ _ _
  have loop10 : ∀ (n10 : Nat) (fw10_x_11 : Int32) (H : Heap) (locs : List Loc) (hL1 : List Nat) (hl1 : hx_h), 0 ≤ fw10_x_11.toInt → fw10_x_11.toInt ≤ 400 → (hv_we tf tp0.toInt.toNat (w_6.toInt).toNat = hv_we tf tp0.toInt.toNat (w_6.toInt + fw10_x_11.toInt).toNat) → (w_6.toInt + fw10_x_11.toInt ≤ tp0.toInt) → ∀ (ls : Array Slot), 400 - fw10_x_11.toInt < (n10 : Int) → hx_W T_tb (P_ty dA) (dC, dI) vwCl (hx_A L sz) s.heap hL1 hl1 s H locs → hx_T T_tb hL1 hl1 → hx_S T_tb [(10, 8), (10, 11)] L h hL1 hl1 → hl1.2.1 x 11 = fw10_x_11 → hl1.2.1 x 8 = w_6 → lv_has ls 5 [(0, .ref x)] → W p l e ({ frames := 1, cells := 0, slots := 0, locals := 20 }) s m ([.ref x] : List Value).toArray below meth c H locs 0 0 (MQ below (va_Qi (fun (r : Int32) (u : List Nat × hx_h) => (∃ (nx1 : Int32) (ws1 : Int32), u.2.2.1 x 8 = nx1 ∧ u.2.2.1 x 11 = ws1 ∧ (nx0.toInt ≤ nx1.toInt ∧ nx1.toInt ≤ tp0.toInt ∧ nx1.toInt = ((hv_sk tf tp0.toInt.toNat nx0.toInt.toNat : Nat) : Int) ∧ nx1.toInt + ws1.toInt = ((hv_we tf tp0.toInt.toNat (hv_sk tf tp0.toInt.toNat nx0.toInt.toNat) : Nat) : Int) ∧ r.toInt = hv_wd tf tp0.toInt.toNat (hv_sk tf tp0.toInt.toNat nx0.toInt.toNat) ∧ 0 ≤ ws1.toInt ∧ nx1.toInt + ws1.toInt ≤ tp0.toInt ∧ -1 ≤ r.toInt ∧ r.toInt ≤ 24)) ∧ hx_T T_tb u.1 u.2 ∧ hx_S T_tb [(10, 8), (10, 11)] L h u.1 u.2) (hx_E T_tb (P_ty dA) (dC, dI) vwCl (hx_A L sz)) (hx_A L sz)) ([.ref x] : List Value).toArray s 0 0 (hx_A L sz)) (F0 m 10 ls []) := by
    intro n10
    induction n10 with
    | zero => intro fw10_x_11 H locs hL1 hl1 blfw10_x_11 bufw10_x_11 vi10_0 vi10_1 ls hn10; exfalso; omega
    | succ n10 ih10 =>
      intro fw10_x_11 H locs hL1 hl1 blfw10_x_11 bufw10_x_11 vi10_0 vi10_1 ls hn10 hW hT hM ffw10_x_11 fw_6  hl
      refine lv_aload_n hx hb dX10_wordHere_10 rfl (lv_at hl 0 rfl) ?_
      have join77 : ∀ (H : Heap) (locs : List Loc) (hL1 : List Nat) (hl1 : hx_h), (((hv_we tf tp0.toInt.toNat (w_6.toInt).toNat : Nat) : Int) = w_6.toInt + fw10_x_11.toInt) → ∀ (ls : Array Slot), hx_W T_tb (P_ty dA) (dC, dI) vwCl (hx_A L sz) s.heap hL1 hl1 s H locs → hx_T T_tb hL1 hl1 → hx_S T_tb [(10, 8), (10, 11)] L h hL1 hl1 → hl1.2.1 x 8 = w_6 → hl1.2.1 x 11 = fw10_x_11 → lv_has ls 5 [(0, .ref x)] → W p l e ({ frames := 1, cells := 0, slots := 0, locals := 20 }) s m ([.ref x] : List Value).toArray below meth c H locs 0 0 (MQ below (va_Qi (fun (r : Int32) (u : List Nat × hx_h) => (∃ (nx1 : Int32) (ws1 : Int32), u.2.2.1 x 8 = nx1 ∧ u.2.2.1 x 11 = ws1 ∧ (nx0.toInt ≤ nx1.toInt ∧ nx1.toInt ≤ tp0.toInt ∧ nx1.toInt = ((hv_sk tf tp0.toInt.toNat nx0.toInt.toNat : Nat) : Int) ∧ nx1.toInt + ws1.toInt = ((hv_we tf tp0.toInt.toNat (hv_sk tf tp0.toInt.toNat nx0.toInt.toNat) : Nat) : Int) ∧ r.toInt = hv_wd tf tp0.toInt.toNat (hv_sk tf tp0.toInt.toNat nx0.toInt.toNat) ∧ 0 ≤ ws1.toInt ∧ nx1.toInt + ws1.toInt ≤ tp0.toInt ∧ -1 ≤ r.toInt ∧ r.toInt ≤ 24)) ∧ hx_T T_tb u.1 u.2 ∧ hx_S T_tb [(10, 8), (10, 11)] L h u.1 u.2) (hx_E T_tb (P_ty dA) (dC, dI) vwCl (hx_A L sz)) (hx_A L sz)) ([.ref x] : List Value).toArray s 0 0 (hx_A L sz)) (F0 m 77 ls []) := by
        intro  H locs hL1 hl1  vj77_0 ls hW hT hM fw_6 ffw10_x_11  hl
        have hwn : hv_we tf tp0.toInt.toNat w_6.toInt.toNat - w_6.toInt.toNat = (fw10_x_11.toInt).toNat := by have h9 := vj77_0; omega
        refine lv_iconst (v := 0) hx hb dX10_wordHere_77 (by decide) ?_
        refine lv_istore_n (lv' := [(1, .int (0 : Int32)), (0, .ref x)]) hx hb dX10_wordHere_78 rfl hl (by decide) rfl (fun ls hl => ?_)
        have loop79 : ∀ (n79 : Nat) (iv79_1 : Int32) (H : Heap) (locs : List Loc) (hL1 : List Nat) (hl1 : hx_h), 0 ≤ iv79_1.toInt → iv79_1.toInt ≤ 25 → (∀ k : Nat, (k : Int) < iv79_1.toInt → hv_tx tf (w_6.toInt).toNat (fw10_x_11.toInt).toNat ≠ hv_wl.getD k []) → ∀ (ls : Array Slot), 25 - iv79_1.toInt < (n79 : Int) → hx_W T_tb (P_ty dA) (dC, dI) vwCl (hx_A L sz) s.heap hL1 hl1 s H locs → hx_T T_tb hL1 hl1 → hx_S T_tb [(10, 8), (10, 11)] L h hL1 hl1 → hl1.2.1 x 8 = w_6 → hl1.2.1 x 11 = fw10_x_11 → lv_has ls 5 [(1, .int iv79_1), (0, .ref x)] → W p l e ({ frames := 1, cells := 0, slots := 0, locals := 20 }) s m ([.ref x] : List Value).toArray below meth c H locs 0 0 (MQ below (va_Qi (fun (r : Int32) (u : List Nat × hx_h) => (∃ (nx1 : Int32) (ws1 : Int32), u.2.2.1 x 8 = nx1 ∧ u.2.2.1 x 11 = ws1 ∧ (nx0.toInt ≤ nx1.toInt ∧ nx1.toInt ≤ tp0.toInt ∧ nx1.toInt = ((hv_sk tf tp0.toInt.toNat nx0.toInt.toNat : Nat) : Int) ∧ nx1.toInt + ws1.toInt = ((hv_we tf tp0.toInt.toNat (hv_sk tf tp0.toInt.toNat nx0.toInt.toNat) : Nat) : Int) ∧ r.toInt = hv_wd tf tp0.toInt.toNat (hv_sk tf tp0.toInt.toNat nx0.toInt.toNat) ∧ 0 ≤ ws1.toInt ∧ nx1.toInt + ws1.toInt ≤ tp0.toInt ∧ -1 ≤ r.toInt ∧ r.toInt ≤ 24)) ∧ hx_T T_tb u.1 u.2 ∧ hx_S T_tb [(10, 8), (10, 11)] L h u.1 u.2) (hx_E T_tb (P_ty dA) (dC, dI) vwCl (hx_A L sz)) (hx_A L sz)) ([.ref x] : List Value).toArray s 0 0 (hx_A L sz)) (F0 m 79 ls []) := by
          intro n79
          induction n79 with
          | zero => intro iv79_1 H locs hL1 hl1 bliv79_1 buiv79_1 vi79_0 ls hn79; exfalso; omega
          | succ n79 ih79 =>
            intro iv79_1 H locs hL1 hl1 bliv79_1 buiv79_1 vi79_0 ls hn79 hW hT hM fw_6 ffw10_x_11  hl
            refine lv_iload_n hx hb dX10_wordHere_79 rfl (lv_at hl 0 rfl) ?_
            refine lv_bipush (v := 25) hx hb dX10_wordHere_80 (by decide) ?_
            refine hb_icmp_ge (zx := iv79_1.toInt) (zy := 25) (tgt := 200) hx hb rfl (by decide) dX10_wordHere_82 (by decide) (fun c_10 => ?_) (fun c_10 => ?_)
            · skip
              refine lv_iconst (v := -1) hx hb dX10_wordHere_200 (by decide) ?_
              exact hx_reti hx hb hr hlk hW ⟨⟨w_6, fw10_x_11, fw_6, ffw10_x_11, ⟨by omega, by omega, by omega, (by rw [← ek_7]; omega), (by rw [← ek_7]; rw [hv_wd_o hwn (by first | exact Or.inr (by omega) | exact Or.inl (fun k hk => vi79_0 k (by omega)))]; decide), by omega, by omega, by decide, by decide⟩⟩, hT, hM⟩ dX10_wordHere_201
            · skip
              refine lv_aload_n hx hb dX10_wordHere_85 rfl (lv_at hl 1 rfl) ?_
              refine hk_geti hx hb hts hC_10 hown hW (gx.S hM) tt_10 11 (by decide) rfl kw_1154 ⟨rfl, rfl, rfl⟩ ffw10_x_11 dX10_wordHere_86 ?_
              refine lv_bipush (v := 7) hx hb dX10_wordHere_89 (by decide) ?_
              refine hb_icmp_gt (zx := fw10_x_11.toInt) (zy := 7) (tgt := 200) hx hb rfl (by decide) dX10_wordHere_91 (by decide) (fun c_11 => ?_) (fun c_11 => ?_)
              · skip
                refine lv_iconst (v := -1) hx hb dX10_wordHere_200 (by decide) ?_
                exact hx_reti hx hb hr hlk hW ⟨⟨w_6, fw10_x_11, fw_6, ffw10_x_11, ⟨by omega, by omega, by omega, (by rw [← ek_7]; omega), (by rw [← ek_7]; rw [hv_wd_o hwn (by first | exact Or.inr (by omega) | exact Or.inl (fun k hk => vi79_0 k (by omega)))]; decide), by omega, by omega, by decide, by decide⟩⟩, hT, hM⟩ dX10_wordHere_201
              · skip
                refine lv_iconst (v := 0) hx hb dX10_wordHere_94 (by decide) ?_
                refine lv_istore_n (lv' := [(2, .int (0 : Int32)), (1, .int iv79_1), (0, .ref x)]) hx hb dX10_wordHere_95 rfl hl (by decide) rfl (fun ls hl => ?_)
                have loop96 : ∀ (n96 : Nat) (iv96_2 : Int32) (H : Heap) (locs : List Loc) (hL1 : List Nat) (hl1 : hx_h), 0 ≤ iv96_2.toInt → iv96_2.toInt ≤ 7 → (hx_wp wf iv79_1.toInt iv96_2.toInt) → ∀ (ls : Array Slot), 7 - iv96_2.toInt < (n96 : Int) → hx_W T_tb (P_ty dA) (dC, dI) vwCl (hx_A L sz) s.heap hL1 hl1 s H locs → hx_T T_tb hL1 hl1 → hx_S T_tb [(10, 8), (10, 11)] L h hL1 hl1 → hl1.2.1 x 8 = w_6 → hl1.2.1 x 11 = fw10_x_11 → lv_has ls 5 [(2, .int iv96_2), (1, .int iv79_1), (0, .ref x)] → W p l e ({ frames := 1, cells := 0, slots := 0, locals := 20 }) s m ([.ref x] : List Value).toArray below meth c H locs 0 0 (MQ below (va_Qi (fun (r : Int32) (u : List Nat × hx_h) => (∃ (nx1 : Int32) (ws1 : Int32), u.2.2.1 x 8 = nx1 ∧ u.2.2.1 x 11 = ws1 ∧ (nx0.toInt ≤ nx1.toInt ∧ nx1.toInt ≤ tp0.toInt ∧ nx1.toInt = ((hv_sk tf tp0.toInt.toNat nx0.toInt.toNat : Nat) : Int) ∧ nx1.toInt + ws1.toInt = ((hv_we tf tp0.toInt.toNat (hv_sk tf tp0.toInt.toNat nx0.toInt.toNat) : Nat) : Int) ∧ r.toInt = hv_wd tf tp0.toInt.toNat (hv_sk tf tp0.toInt.toNat nx0.toInt.toNat) ∧ 0 ≤ ws1.toInt ∧ nx1.toInt + ws1.toInt ≤ tp0.toInt ∧ -1 ≤ r.toInt ∧ r.toInt ≤ 24)) ∧ hx_T T_tb u.1 u.2 ∧ hx_S T_tb [(10, 8), (10, 11)] L h u.1 u.2) (hx_E T_tb (P_ty dA) (dC, dI) vwCl (hx_A L sz)) (hx_A L sz)) ([.ref x] : List Value).toArray s 0 0 (hx_A L sz)) (F0 m 96 ls []) := by
                  intro n96
                  induction n96 with
                  | zero => intro iv96_2 H locs hL1 hl1 bliv96_2 buiv96_2 vi96_0 ls hn96; exfalso; omega
                  | succ n96 ih96 =>
                    intro iv96_2 H locs hL1 hl1 bliv96_2 buiv96_2 vi96_0 ls hn96 hW hT hM fw_6 ffw10_x_11  hl
                    refine lv_iload_n hx hb dX10_wordHere_96 rfl (lv_at hl 0 rfl) ?_
                    have join122 : ∀ (H : Heap) (locs : List Loc) (hL1 : List Nat) (hl1 : hx_h), (iv96_2.toInt = ((hv_wl.getD (iv79_1.toInt).toNat []).length : Nat)) → ∀ (ls : Array Slot), hx_W T_tb (P_ty dA) (dC, dI) vwCl (hx_A L sz) s.heap hL1 hl1 s H locs → hx_T T_tb hL1 hl1 → hx_S T_tb [(10, 8), (10, 11)] L h hL1 hl1 → hl1.2.1 x 8 = w_6 → hl1.2.1 x 11 = fw10_x_11 → lv_has ls 5 [(2, .int iv96_2), (1, .int iv79_1), (0, .ref x)] → W p l e ({ frames := 1, cells := 0, slots := 0, locals := 20 }) s m ([.ref x] : List Value).toArray below meth c H locs 0 0 (MQ below (va_Qi (fun (r : Int32) (u : List Nat × hx_h) => (∃ (nx1 : Int32) (ws1 : Int32), u.2.2.1 x 8 = nx1 ∧ u.2.2.1 x 11 = ws1 ∧ (nx0.toInt ≤ nx1.toInt ∧ nx1.toInt ≤ tp0.toInt ∧ nx1.toInt = ((hv_sk tf tp0.toInt.toNat nx0.toInt.toNat : Nat) : Int) ∧ nx1.toInt + ws1.toInt = ((hv_we tf tp0.toInt.toNat (hv_sk tf tp0.toInt.toNat nx0.toInt.toNat) : Nat) : Int) ∧ r.toInt = hv_wd tf tp0.toInt.toNat (hv_sk tf tp0.toInt.toNat nx0.toInt.toNat) ∧ 0 ≤ ws1.toInt ∧ nx1.toInt + ws1.toInt ≤ tp0.toInt ∧ -1 ≤ r.toInt ∧ r.toInt ≤ 24)) ∧ hx_T T_tb u.1 u.2 ∧ hx_S T_tb [(10, 8), (10, 11)] L h u.1 u.2) (hx_E T_tb (P_ty dA) (dC, dI) vwCl (hx_A L sz)) (hx_A L sz)) ([.ref x] : List Value).toArray s 0 0 (hx_A L sz)) (F0 m 122 ls []) := by
                      intro  H locs hL1 hl1  vj122_0 ls hW hT hM fw_6 ffw10_x_11  hl
                      have hwl := vj122_0
                      refine lv_iload_n hx hb dX10_wordHere_122 rfl (lv_at hl 0 rfl) ?_
                      refine lv_aload_n hx hb dX10_wordHere_123 rfl (lv_at hl 2 rfl) ?_
                      refine hk_geti hx hb hts hC_10 hown hW (gx.S hM) tt_10 11 (by decide) rfl kw_1154 ⟨rfl, rfl, rfl⟩ ffw10_x_11 dX10_wordHere_124 ?_
                      refine hb_icmp_ne (zx := iv96_2.toInt) (zy := fw10_x_11.toInt) (tgt := 134) hx hb rfl rfl dX10_wordHere_127 (by decide) (fun c_12 => ?_) (fun c_12 => ?_)
                      · skip
                        refine lv_iconst (v := 0) hx hb dX10_wordHere_134 (by decide) ?_
                        refine lv_istore_n (lv' := [(3, .int (0 : Int32)), (2, .int iv96_2), (1, .int iv79_1), (0, .ref x)]) hx hb dX10_wordHere_135 rfl hl (by decide) rfl (fun ls hl => ?_)
                        refine lv_iconst (v := 0) hx hb dX10_wordHere_136 (by decide) ?_
                        refine lv_istore (lv' := [(4, .int (0 : Int32)), (3, .int (0 : Int32)), (2, .int iv96_2), (1, .int iv79_1), (0, .ref x)]) hx hb dX10_wordHere_137 hl (by decide) rfl (fun ls hl => ?_)
                        have loop139 : ∀ (n139 : Nat) (iv139_3 iv139_4 : Int32) (H : Heap) (locs : List Loc) (hL1 : List Nat) (hl1 : hx_h), 0 ≤ iv139_3.toInt → iv139_3.toInt ≤ 1 → 0 ≤ iv139_4.toInt → iv139_4.toInt ≤ 7 → (hv_SM tf wf w_6.toInt fw10_x_11.toInt iv79_1.toInt iv96_2.toInt iv139_4.toInt iv139_3.toInt) → ∀ (ls : Array Slot), 7 - iv139_4.toInt < (n139 : Int) → hx_W T_tb (P_ty dA) (dC, dI) vwCl (hx_A L sz) s.heap hL1 hl1 s H locs → hx_T T_tb hL1 hl1 → hx_S T_tb [(10, 8), (10, 11)] L h hL1 hl1 → hl1.2.1 x 8 = w_6 → hl1.2.1 x 11 = fw10_x_11 → lv_has ls 5 [(4, .int iv139_4), (3, .int iv139_3), (2, .int iv96_2), (1, .int iv79_1), (0, .ref x)] → W p l e ({ frames := 1, cells := 0, slots := 0, locals := 20 }) s m ([.ref x] : List Value).toArray below meth c H locs 0 0 (MQ below (va_Qi (fun (r : Int32) (u : List Nat × hx_h) => (∃ (nx1 : Int32) (ws1 : Int32), u.2.2.1 x 8 = nx1 ∧ u.2.2.1 x 11 = ws1 ∧ (nx0.toInt ≤ nx1.toInt ∧ nx1.toInt ≤ tp0.toInt ∧ nx1.toInt = ((hv_sk tf tp0.toInt.toNat nx0.toInt.toNat : Nat) : Int) ∧ nx1.toInt + ws1.toInt = ((hv_we tf tp0.toInt.toNat (hv_sk tf tp0.toInt.toNat nx0.toInt.toNat) : Nat) : Int) ∧ r.toInt = hv_wd tf tp0.toInt.toNat (hv_sk tf tp0.toInt.toNat nx0.toInt.toNat) ∧ 0 ≤ ws1.toInt ∧ nx1.toInt + ws1.toInt ≤ tp0.toInt ∧ -1 ≤ r.toInt ∧ r.toInt ≤ 24)) ∧ hx_T T_tb u.1 u.2 ∧ hx_S T_tb [(10, 8), (10, 11)] L h u.1 u.2) (hx_E T_tb (P_ty dA) (dC, dI) vwCl (hx_A L sz)) (hx_A L sz)) ([.ref x] : List Value).toArray s 0 0 (hx_A L sz)) (F0 m 139 ls []) := by
                          intro n139
                          induction n139 with
                          | zero => intro iv139_3 iv139_4 H locs hL1 hl1 bliv139_3 buiv139_3 bliv139_4 buiv139_4 vi139_0 ls hn139; exfalso; omega
                          | succ n139 ih139 =>
                            intro iv139_3 iv139_4 H locs hL1 hl1 bliv139_3 buiv139_3 bliv139_4 buiv139_4 vi139_0 ls hn139 hW hT hM fw_6 ffw10_x_11  hl
                            refine lv_iload_n hx hb dX10_wordHere_139 rfl (lv_at hl 1 rfl) ?_
                            refine hb_if_eq (zx := iv139_3.toInt) (tgt := 188) hx hb rfl dX10_wordHere_140 (by decide) (fun c_13 => ?_) (fun c_13 => ?_)
                            · skip
                              refine lv_iload_n hx hb dX10_wordHere_188 rfl (lv_at hl 1 rfl) ?_
                              refine hb_if_eq (zx := iv139_3.toInt) (tgt := 194) hx hb rfl dX10_wordHere_189 (by decide) (fun c_14 => ?_) (fun c_14 => by exfalso; omega)
                              obtain ⟨x_15, ex_15⟩ : ∃ y : Int32, y = iv79_1 + Int32.ofInt 1 := ⟨_, rfl⟩
                              have rg_16 := i32_r iv79_1
                              have zx_15 : x_15.toInt = iv79_1.toInt + (1) := by rw [ex_15]; exact i32_add rfl (by decide) (by omega) (by omega)
                              refine lv_iinc (v := x_15) (lv' := [(1, .int x_15), (4, .int iv139_4), (3, .int iv139_3), (2, .int iv96_2), (0, .ref x)]) hx hb dX10_wordHere_194 hl (k := 3) rfl ex_15.symm (by decide) rfl (fun ls hl => ?_)
                              refine lv_goto (tgt := 79) hx hb dX10_wordHere_197 (by decide) ?_
                              exact ih79 x_15 _ _ hL1 hl1 (by omega) (by omega) (hv_wd_s vi79_0 (by omega) (hv_SM_n vi139_0 (by omega)) zx_15) ls (by omega) hW hT hM fw_6 ffw10_x_11  (lv_sub hl [0, 4] rfl)
                            · skip
                              have hSM9 := hv_SM_w vi139_0 (by omega)
                              refine lv_iload hx hb dX10_wordHere_143 (lv_at hl 0 rfl) ?_
                              refine lv_iload_n hx hb dX10_wordHere_145 rfl (lv_at hl 2 rfl) ?_
                              refine hb_icmp_ge (zx := iv139_4.toInt) (zy := iv96_2.toInt) (tgt := 188) hx hb rfl rfl dX10_wordHere_146 (by decide) (fun c_17 => ?_) (fun c_17 => ?_)
                              · skip
                                refine lv_iload_n hx hb dX10_wordHere_188 rfl (lv_at hl 1 rfl) ?_
                                refine hb_if_eq (zx := iv139_3.toInt) (tgt := 194) hx hb rfl dX10_wordHere_189 (by decide) (fun c_18 => by exfalso; omega) (fun c_18 => ?_)
                                refine lv_iload_n hx hb dX10_wordHere_192 rfl (lv_at hl 3 rfl) ?_
                                exact hx_reti hx hb hr hlk hW ⟨⟨w_6, fw10_x_11, fw_6, ffw10_x_11, ⟨by omega, by omega, by omega, (by rw [← ek_7]; omega), (by rw [← ek_7]; exact hv_wd_i hwn (by omega) (by omega) (hv_SM_e hwd (by omega) (by omega) hwl vi139_0 (by omega) (by omega))), by omega, by omega, by omega, by omega⟩⟩, hT, hM⟩ dX10_wordHere_193
                              · skip
                                refine lv_aload_n hx hb dX10_wordHere_149 rfl (lv_at hl 4 rfl) ?_
                                refine hk_getr hx hb hts hC_10 hown hW (gx.S hM) tt_10 19 (by decide) rfl kw_1162 ⟨rfl, rfl, rfl⟩ ((hM.o gx trivial rfl).2.trans f_x_19) dX10_wordHere_150 ?_
                                refine lv_bipush (v := 7) hx hb dX10_wordHere_153 (by decide) ?_
                                refine lv_iload_n hx hb dX10_wordHere_155 rfl (lv_at hl 3 rfl) ?_
                                refine lv_imul hx hb dX10_wordHere_156 ?_
                                refine lv_topi (fun x_19 ex_19 => ?_)
                                have zx_19 : x_19.toInt = 7 * iv79_1.toInt := by rw [ex_19]; exact i32_mul (by decide) rfl rfl (by omega) (by omega)
                                refine lv_iload hx hb dX10_wordHere_157 (lv_at hl 0 rfl) ?_
                                refine lv_iadd hx hb dX10_wordHere_159 ?_
                                have rg_20 := i32_r x_19
                                have rg_21 := i32_r iv139_4
                                refine lv_topi (fun x_22 ex_22 => ?_)
                                have zx_22 : x_22.toInt = x_19.toInt + iv139_4.toInt := by rw [ex_22]; exact i32_add rfl rfl (by omega) (by omega)
                                refine hx_bald hx hb hW hT (gqw.S hM) tt_57 rfl ⟨by omega, by omega⟩ dX10_wordHere_160 (fun x_23 ex_23 lx_23 ux_23 => ?_)
                                have ax_23 : x_23 = wf x_22.toNatClampNeg := ex_23.trans (congrFun (hx_afS hM gqw rfl af_qw) _)
                                refine lv_aload_n hx hb dX10_wordHere_161 rfl (lv_at hl 4 rfl) ?_
                                refine hk_getr hx hb hts hC_10 hown hW (gx.S hM) tt_10 6 (by decide) rfl kw_1149 ⟨rfl, rfl, rfl⟩ ((hM.o gx trivial rfl).2.trans f_x_6) dX10_wordHere_162 ?_
                                refine lv_aload_n hx hb dX10_wordHere_165 rfl (lv_at hl 4 rfl) ?_
                                refine hk_geti hx hb hts hC_10 hown hW (gx.S hM) tt_10 8 (by decide) rfl kw_1151 ⟨rfl, rfl, rfl⟩ fw_6 dX10_wordHere_166 ?_
                                refine lv_iload hx hb dX10_wordHere_169 (lv_at hl 0 rfl) ?_
                                refine lv_iadd hx hb dX10_wordHere_171 ?_
                                have rg_24 := i32_r w_6
                                refine lv_topi (fun x_25 ex_25 => ?_)
                                have zx_25 : x_25.toInt = w_6.toInt + iv139_4.toInt := by rw [ex_25]; exact i32_add rfl rfl (by omega) (by omega)
                                refine hx_bald hx hb hW hT (gqt.S hM) tt_53 rfl ⟨by omega, by omega⟩ dX10_wordHere_172 (fun x_26 ex_26 lx_26 ux_26 => ?_)
                                have ax_26 : x_26 = tf x_25.toNatClampNeg := ex_26.trans (congrFun (hx_afS hM gqt rfl af_qt) _)
                                refine hb_icmp_ne (zx := x_23.toInt) (zy := x_26.toInt) (tgt := 180) hx hb rfl rfl dX10_wordHere_173 (by decide) (fun c_27 => ?_) (fun c_27 => ?_)
                                · skip
                                  refine lv_iconst (v := 0) hx hb dX10_wordHere_180 (by decide) ?_
                                  refine lv_istore_n (lv' := [(3, .int (0 : Int32)), (4, .int iv139_4), (2, .int iv96_2), (1, .int iv79_1), (0, .ref x)]) hx hb dX10_wordHere_181 rfl hl (by decide) rfl (fun ls hl => ?_)
                                  obtain ⟨x_28, ex_28⟩ : ∃ y : Int32, y = iv139_4 + Int32.ofInt 1 := ⟨_, rfl⟩
                                  have zx_28 : x_28.toInt = iv139_4.toInt + (1) := by rw [ex_28]; exact i32_add rfl (by decide) (by omega) (by omega)
                                  refine lv_iinc (v := x_28) (lv' := [(4, .int x_28), (3, .int (0 : Int32)), (2, .int iv96_2), (1, .int iv79_1), (0, .ref x)]) hx hb dX10_wordHere_182 hl (k := 1) rfl ex_28.symm (by decide) rfl (fun ls hl => ?_)
                                  refine lv_goto (tgt := 139) hx hb dX10_wordHere_185 (by decide) ?_
                                  have zk_0 : (0 : Int32).toInt = 0 := by decide
                                  exact ih139 (0 : Int32) x_28 _ _ hL1 hl1 (by decide) (by decide) (by omega) (by omega) (hv_SM_x hwd (by omega) (by omega) hwl (by have h9 := vi139_0; rw [show iv139_3.toInt = 1 by omega] at h9; exact h9) (by omega) (by omega) (by rw [show 7 * iv79_1.toInt.toNat + iv139_4.toInt.toNat = x_22.toNatClampNeg by unfold Int32.toNatClampNeg; omega, show w_6.toInt.toNat + iv139_4.toInt.toNat = x_25.toNatClampNeg by unfold Int32.toNatClampNeg; omega, ← ax_23, ← ax_26]; omega) (by decide)) ls (by omega) hW hT hM fw_6 ffw10_x_11  (lv_sub hl [0, 1, 2, 3, 4] rfl)
                                · skip
                                  refine lv_iconst (v := 1) hx hb dX10_wordHere_176 (by decide) ?_
                                  refine lv_goto (tgt := 181) hx hb dX10_wordHere_177 (by decide) ?_
                                  refine lv_istore_n (lv' := [(3, .int (1 : Int32)), (4, .int iv139_4), (2, .int iv96_2), (1, .int iv79_1), (0, .ref x)]) hx hb dX10_wordHere_181 rfl hl (by decide) rfl (fun ls hl => ?_)
                                  obtain ⟨x_29, ex_29⟩ : ∃ y : Int32, y = iv139_4 + Int32.ofInt 1 := ⟨_, rfl⟩
                                  have zx_29 : x_29.toInt = iv139_4.toInt + (1) := by rw [ex_29]; exact i32_add rfl (by decide) (by omega) (by omega)
                                  refine lv_iinc (v := x_29) (lv' := [(4, .int x_29), (3, .int (1 : Int32)), (2, .int iv96_2), (1, .int iv79_1), (0, .ref x)]) hx hb dX10_wordHere_182 hl (k := 1) rfl ex_29.symm (by decide) rfl (fun ls hl => ?_)
                                  refine lv_goto (tgt := 139) hx hb dX10_wordHere_185 (by decide) ?_
                                  have zk_1 : (1 : Int32).toInt = 1 := by decide
                                  exact ih139 (1 : Int32) x_29 _ _ hL1 hl1 (by decide) (by decide) (by omega) (by omega) (hv_SM_s (by have h9 := vi139_0; rw [show iv139_3.toInt = 1 by omega] at h9; exact h9) (by omega) (by rw [show 7 * iv79_1.toInt.toNat + iv139_4.toInt.toNat = x_22.toNatClampNeg by unfold Int32.toNatClampNeg; omega, show w_6.toInt.toNat + iv139_4.toInt.toNat = x_25.toNatClampNeg by unfold Int32.toNatClampNeg; omega, ← ax_23, ← ax_26]; omega) zx_29 (by decide)) ls (by omega) hW hT hM fw_6 ffw10_x_11  (lv_sub hl [0, 1, 2, 3, 4] rfl)
                        have zk_0 : (0 : Int32).toInt = 0 := by decide
                        have zk_0 : (0 : Int32).toInt = 0 := by decide
                        exact loop139 8 (0 : Int32) (0 : Int32) _ _ hL1 hl1 (by decide) (by decide) (by decide) (by decide) (hv_SM_l hwl (by omega) (by omega) (by decide)) ls (by omega) hW hT hM fw_6 ffw10_x_11  hl
                      · skip
                        refine lv_iconst (v := 1) hx hb dX10_wordHere_130 (by decide) ?_
                        refine lv_goto (tgt := 135) hx hb dX10_wordHere_131 (by decide) ?_
                        refine lv_istore_n (lv' := [(3, .int (1 : Int32)), (2, .int iv96_2), (1, .int iv79_1), (0, .ref x)]) hx hb dX10_wordHere_135 rfl hl (by decide) rfl (fun ls hl => ?_)
                        refine lv_iconst (v := 0) hx hb dX10_wordHere_136 (by decide) ?_
                        refine lv_istore (lv' := [(4, .int (0 : Int32)), (3, .int (1 : Int32)), (2, .int iv96_2), (1, .int iv79_1), (0, .ref x)]) hx hb dX10_wordHere_137 hl (by decide) rfl (fun ls hl => ?_)
                        have loop139 : ∀ (n139 : Nat) (iv139_3 iv139_4 : Int32) (H : Heap) (locs : List Loc) (hL1 : List Nat) (hl1 : hx_h), 0 ≤ iv139_3.toInt → iv139_3.toInt ≤ 1 → 0 ≤ iv139_4.toInt → iv139_4.toInt ≤ 7 → (hv_SM tf wf w_6.toInt fw10_x_11.toInt iv79_1.toInt iv96_2.toInt iv139_4.toInt iv139_3.toInt) → ∀ (ls : Array Slot), 7 - iv139_4.toInt < (n139 : Int) → hx_W T_tb (P_ty dA) (dC, dI) vwCl (hx_A L sz) s.heap hL1 hl1 s H locs → hx_T T_tb hL1 hl1 → hx_S T_tb [(10, 8), (10, 11)] L h hL1 hl1 → hl1.2.1 x 8 = w_6 → hl1.2.1 x 11 = fw10_x_11 → lv_has ls 5 [(4, .int iv139_4), (3, .int iv139_3), (2, .int iv96_2), (1, .int iv79_1), (0, .ref x)] → W p l e ({ frames := 1, cells := 0, slots := 0, locals := 20 }) s m ([.ref x] : List Value).toArray below meth c H locs 0 0 (MQ below (va_Qi (fun (r : Int32) (u : List Nat × hx_h) => (∃ (nx1 : Int32) (ws1 : Int32), u.2.2.1 x 8 = nx1 ∧ u.2.2.1 x 11 = ws1 ∧ (nx0.toInt ≤ nx1.toInt ∧ nx1.toInt ≤ tp0.toInt ∧ nx1.toInt = ((hv_sk tf tp0.toInt.toNat nx0.toInt.toNat : Nat) : Int) ∧ nx1.toInt + ws1.toInt = ((hv_we tf tp0.toInt.toNat (hv_sk tf tp0.toInt.toNat nx0.toInt.toNat) : Nat) : Int) ∧ r.toInt = hv_wd tf tp0.toInt.toNat (hv_sk tf tp0.toInt.toNat nx0.toInt.toNat) ∧ 0 ≤ ws1.toInt ∧ nx1.toInt + ws1.toInt ≤ tp0.toInt ∧ -1 ≤ r.toInt ∧ r.toInt ≤ 24)) ∧ hx_T T_tb u.1 u.2 ∧ hx_S T_tb [(10, 8), (10, 11)] L h u.1 u.2) (hx_E T_tb (P_ty dA) (dC, dI) vwCl (hx_A L sz)) (hx_A L sz)) ([.ref x] : List Value).toArray s 0 0 (hx_A L sz)) (F0 m 139 ls []) := by
                          intro n139
                          induction n139 with
                          | zero => intro iv139_3 iv139_4 H locs hL1 hl1 bliv139_3 buiv139_3 bliv139_4 buiv139_4 vi139_0 ls hn139; exfalso; omega
                          | succ n139 ih139 =>
                            intro iv139_3 iv139_4 H locs hL1 hl1 bliv139_3 buiv139_3 bliv139_4 buiv139_4 vi139_0 ls hn139 hW hT hM fw_6 ffw10_x_11  hl
                            refine lv_iload_n hx hb dX10_wordHere_139 rfl (lv_at hl 1 rfl) ?_
                            refine hb_if_eq (zx := iv139_3.toInt) (tgt := 188) hx hb rfl dX10_wordHere_140 (by decide) (fun c_30 => ?_) (fun c_30 => ?_)
                            · skip
                              refine lv_iload_n hx hb dX10_wordHere_188 rfl (lv_at hl 1 rfl) ?_
                              refine hb_if_eq (zx := iv139_3.toInt) (tgt := 194) hx hb rfl dX10_wordHere_189 (by decide) (fun c_31 => ?_) (fun c_31 => by exfalso; omega)
                              obtain ⟨x_32, ex_32⟩ : ∃ y : Int32, y = iv79_1 + Int32.ofInt 1 := ⟨_, rfl⟩
                              have rg_33 := i32_r iv79_1
                              have zx_32 : x_32.toInt = iv79_1.toInt + (1) := by rw [ex_32]; exact i32_add rfl (by decide) (by omega) (by omega)
                              refine lv_iinc (v := x_32) (lv' := [(1, .int x_32), (4, .int iv139_4), (3, .int iv139_3), (2, .int iv96_2), (0, .ref x)]) hx hb dX10_wordHere_194 hl (k := 3) rfl ex_32.symm (by decide) rfl (fun ls hl => ?_)
                              refine lv_goto (tgt := 79) hx hb dX10_wordHere_197 (by decide) ?_
                              exact ih79 x_32 _ _ hL1 hl1 (by omega) (by omega) (hv_wd_s vi79_0 (by omega) (hv_SM_n vi139_0 (by omega)) zx_32) ls (by omega) hW hT hM fw_6 ffw10_x_11  (lv_sub hl [0, 4] rfl)
                            · skip
                              have hSM9 := hv_SM_w vi139_0 (by omega)
                              refine lv_iload hx hb dX10_wordHere_143 (lv_at hl 0 rfl) ?_
                              refine lv_iload_n hx hb dX10_wordHere_145 rfl (lv_at hl 2 rfl) ?_
                              refine hb_icmp_ge (zx := iv139_4.toInt) (zy := iv96_2.toInt) (tgt := 188) hx hb rfl rfl dX10_wordHere_146 (by decide) (fun c_34 => ?_) (fun c_34 => ?_)
                              · skip
                                refine lv_iload_n hx hb dX10_wordHere_188 rfl (lv_at hl 1 rfl) ?_
                                refine hb_if_eq (zx := iv139_3.toInt) (tgt := 194) hx hb rfl dX10_wordHere_189 (by decide) (fun c_35 => by exfalso; omega) (fun c_35 => ?_)
                                refine lv_iload_n hx hb dX10_wordHere_192 rfl (lv_at hl 3 rfl) ?_
                                exact hx_reti hx hb hr hlk hW ⟨⟨w_6, fw10_x_11, fw_6, ffw10_x_11, ⟨by omega, by omega, by omega, (by rw [← ek_7]; omega), (by rw [← ek_7]; exact hv_wd_i hwn (by omega) (by omega) (hv_SM_e hwd (by omega) (by omega) hwl vi139_0 (by omega) (by omega))), by omega, by omega, by omega, by omega⟩⟩, hT, hM⟩ dX10_wordHere_193
                              · skip
                                refine lv_aload_n hx hb dX10_wordHere_149 rfl (lv_at hl 4 rfl) ?_
                                refine hk_getr hx hb hts hC_10 hown hW (gx.S hM) tt_10 19 (by decide) rfl kw_1162 ⟨rfl, rfl, rfl⟩ ((hM.o gx trivial rfl).2.trans f_x_19) dX10_wordHere_150 ?_
                                refine lv_bipush (v := 7) hx hb dX10_wordHere_153 (by decide) ?_
                                refine lv_iload_n hx hb dX10_wordHere_155 rfl (lv_at hl 3 rfl) ?_
                                refine lv_imul hx hb dX10_wordHere_156 ?_
                                refine lv_topi (fun x_36 ex_36 => ?_)
                                have zx_36 : x_36.toInt = 7 * iv79_1.toInt := by rw [ex_36]; exact i32_mul (by decide) rfl rfl (by omega) (by omega)
                                refine lv_iload hx hb dX10_wordHere_157 (lv_at hl 0 rfl) ?_
                                refine lv_iadd hx hb dX10_wordHere_159 ?_
                                have rg_37 := i32_r x_36
                                have rg_38 := i32_r iv139_4
                                refine lv_topi (fun x_39 ex_39 => ?_)
                                have zx_39 : x_39.toInt = x_36.toInt + iv139_4.toInt := by rw [ex_39]; exact i32_add rfl rfl (by omega) (by omega)
                                refine hx_bald hx hb hW hT (gqw.S hM) tt_57 rfl ⟨by omega, by omega⟩ dX10_wordHere_160 (fun x_40 ex_40 lx_40 ux_40 => ?_)
                                have ax_40 : x_40 = wf x_39.toNatClampNeg := ex_40.trans (congrFun (hx_afS hM gqw rfl af_qw) _)
                                refine lv_aload_n hx hb dX10_wordHere_161 rfl (lv_at hl 4 rfl) ?_
                                refine hk_getr hx hb hts hC_10 hown hW (gx.S hM) tt_10 6 (by decide) rfl kw_1149 ⟨rfl, rfl, rfl⟩ ((hM.o gx trivial rfl).2.trans f_x_6) dX10_wordHere_162 ?_
                                refine lv_aload_n hx hb dX10_wordHere_165 rfl (lv_at hl 4 rfl) ?_
                                refine hk_geti hx hb hts hC_10 hown hW (gx.S hM) tt_10 8 (by decide) rfl kw_1151 ⟨rfl, rfl, rfl⟩ fw_6 dX10_wordHere_166 ?_
                                refine lv_iload hx hb dX10_wordHere_169 (lv_at hl 0 rfl) ?_
                                refine lv_iadd hx hb dX10_wordHere_171 ?_
                                have rg_41 := i32_r w_6
                                refine lv_topi (fun x_42 ex_42 => ?_)
                                have zx_42 : x_42.toInt = w_6.toInt + iv139_4.toInt := by rw [ex_42]; exact i32_add rfl rfl (by omega) (by omega)
                                refine hx_bald hx hb hW hT (gqt.S hM) tt_53 rfl ⟨by omega, by omega⟩ dX10_wordHere_172 (fun x_43 ex_43 lx_43 ux_43 => ?_)
                                have ax_43 : x_43 = tf x_42.toNatClampNeg := ex_43.trans (congrFun (hx_afS hM gqt rfl af_qt) _)
                                refine hb_icmp_ne (zx := x_40.toInt) (zy := x_43.toInt) (tgt := 180) hx hb rfl rfl dX10_wordHere_173 (by decide) (fun c_44 => ?_) (fun c_44 => ?_)
                                · skip
                                  refine lv_iconst (v := 0) hx hb dX10_wordHere_180 (by decide) ?_
                                  refine lv_istore_n (lv' := [(3, .int (0 : Int32)), (4, .int iv139_4), (2, .int iv96_2), (1, .int iv79_1), (0, .ref x)]) hx hb dX10_wordHere_181 rfl hl (by decide) rfl (fun ls hl => ?_)
                                  obtain ⟨x_45, ex_45⟩ : ∃ y : Int32, y = iv139_4 + Int32.ofInt 1 := ⟨_, rfl⟩
                                  have zx_45 : x_45.toInt = iv139_4.toInt + (1) := by rw [ex_45]; exact i32_add rfl (by decide) (by omega) (by omega)
                                  refine lv_iinc (v := x_45) (lv' := [(4, .int x_45), (3, .int (0 : Int32)), (2, .int iv96_2), (1, .int iv79_1), (0, .ref x)]) hx hb dX10_wordHere_182 hl (k := 1) rfl ex_45.symm (by decide) rfl (fun ls hl => ?_)
                                  refine lv_goto (tgt := 139) hx hb dX10_wordHere_185 (by decide) ?_
                                  have zk_0 : (0 : Int32).toInt = 0 := by decide
                                  exact ih139 (0 : Int32) x_45 _ _ hL1 hl1 (by decide) (by decide) (by omega) (by omega) (hv_SM_x hwd (by omega) (by omega) hwl (by have h9 := vi139_0; rw [show iv139_3.toInt = 1 by omega] at h9; exact h9) (by omega) (by omega) (by rw [show 7 * iv79_1.toInt.toNat + iv139_4.toInt.toNat = x_39.toNatClampNeg by unfold Int32.toNatClampNeg; omega, show w_6.toInt.toNat + iv139_4.toInt.toNat = x_42.toNatClampNeg by unfold Int32.toNatClampNeg; omega, ← ax_40, ← ax_43]; omega) (by decide)) ls (by omega) hW hT hM fw_6 ffw10_x_11  (lv_sub hl [0, 1, 2, 3, 4] rfl)
                                · skip
                                  refine lv_iconst (v := 1) hx hb dX10_wordHere_176 (by decide) ?_
                                  refine lv_goto (tgt := 181) hx hb dX10_wordHere_177 (by decide) ?_
                                  refine lv_istore_n (lv' := [(3, .int (1 : Int32)), (4, .int iv139_4), (2, .int iv96_2), (1, .int iv79_1), (0, .ref x)]) hx hb dX10_wordHere_181 rfl hl (by decide) rfl (fun ls hl => ?_)
                                  obtain ⟨x_46, ex_46⟩ : ∃ y : Int32, y = iv139_4 + Int32.ofInt 1 := ⟨_, rfl⟩
                                  have zx_46 : x_46.toInt = iv139_4.toInt + (1) := by rw [ex_46]; exact i32_add rfl (by decide) (by omega) (by omega)
                                  refine lv_iinc (v := x_46) (lv' := [(4, .int x_46), (3, .int (1 : Int32)), (2, .int iv96_2), (1, .int iv79_1), (0, .ref x)]) hx hb dX10_wordHere_182 hl (k := 1) rfl ex_46.symm (by decide) rfl (fun ls hl => ?_)
                                  refine lv_goto (tgt := 139) hx hb dX10_wordHere_185 (by decide) ?_
                                  have zk_1 : (1 : Int32).toInt = 1 := by decide
                                  exact ih139 (1 : Int32) x_46 _ _ hL1 hl1 (by decide) (by decide) (by omega) (by omega) (hv_SM_s (by have h9 := vi139_0; rw [show iv139_3.toInt = 1 by omega] at h9; exact h9) (by omega) (by rw [show 7 * iv79_1.toInt.toNat + iv139_4.toInt.toNat = x_39.toNatClampNeg by unfold Int32.toNatClampNeg; omega, show w_6.toInt.toNat + iv139_4.toInt.toNat = x_42.toNatClampNeg by unfold Int32.toNatClampNeg; omega, ← ax_40, ← ax_43]; omega) zx_46 (by decide)) ls (by omega) hW hT hM fw_6 ffw10_x_11  (lv_sub hl [0, 1, 2, 3, 4] rfl)
                        have zk_1 : (1 : Int32).toInt = 1 := by decide
                        have zk_0 : (0 : Int32).toInt = 0 := by decide
                        exact loop139 8 (1 : Int32) (0 : Int32) _ _ hL1 hl1 (by decide) (by decide) (by decide) (by decide) (hv_SM_y (by omega) (by decide) (by decide)) ls (by omega) hW hT hM fw_6 ffw10_x_11  hl
                    refine lv_bipush (v := 7) hx hb dX10_wordHere_97 (by decide) ?_
                    refine hb_icmp_ge (zx := iv96_2.toInt) (zy := 7) (tgt := 122) hx hb rfl (by decide) dX10_wordHere_99 (by decide) (fun c_47 => ?_) (fun c_47 => ?_)
                    · skip
                      exact join122  _ _ hL1 hl1  (hv_wln hwd (by omega) (by omega) (by omega) (by omega) vi96_0 (Or.inl (by omega))) ls hW hT hM fw_6 ffw10_x_11  (lv_sub hl [0, 1, 2] rfl)
                    · skip
                      refine lv_aload_n hx hb dX10_wordHere_102 rfl (lv_at hl 2 rfl) ?_
                      refine hk_getr hx hb hts hC_10 hown hW (gx.S hM) tt_10 19 (by decide) rfl kw_1162 ⟨rfl, rfl, rfl⟩ ((hM.o gx trivial rfl).2.trans f_x_19) dX10_wordHere_103 ?_
                      refine lv_bipush (v := 7) hx hb dX10_wordHere_106 (by decide) ?_
                      refine lv_iload_n hx hb dX10_wordHere_108 rfl (lv_at hl 1 rfl) ?_
                      refine lv_imul hx hb dX10_wordHere_109 ?_
                      refine lv_topi (fun x_48 ex_48 => ?_)
                      have zx_48 : x_48.toInt = 7 * iv79_1.toInt := by rw [ex_48]; exact i32_mul (by decide) rfl rfl (by omega) (by omega)
                      refine lv_iload_n hx hb dX10_wordHere_110 rfl (lv_at hl 0 rfl) ?_
                      refine lv_iadd hx hb dX10_wordHere_111 ?_
                      have rg_49 := i32_r x_48
                      have rg_50 := i32_r iv96_2
                      refine lv_topi (fun x_51 ex_51 => ?_)
                      have zx_51 : x_51.toInt = x_48.toInt + iv96_2.toInt := by rw [ex_51]; exact i32_add rfl rfl (by omega) (by omega)
                      refine hx_bald hx hb hW hT (gqw.S hM) tt_57 rfl ⟨by omega, by omega⟩ dX10_wordHere_112 (fun x_52 ex_52 lx_52 ux_52 => ?_)
                      have ax_52 : x_52 = wf x_51.toNatClampNeg := ex_52.trans (congrFun (hx_afS hM gqw rfl af_qw) _)
                      refine hb_if_eq (zx := x_52.toInt) (tgt := 122) hx hb rfl dX10_wordHere_113 (by decide) (fun c_53 => ?_) (fun c_53 => ?_)
                      · skip
                        exact join122  _ _ hL1 hl1  (hv_wln hwd (by omega) (by omega) (by omega) (by omega) vi96_0 (Or.inr (hx_wz (by omega) ax_52 (by omega) (by omega) (by omega)))) ls hW hT hM fw_6 ffw10_x_11  (lv_sub hl [0, 1, 2] rfl)
                      · skip
                        obtain ⟨x_54, ex_54⟩ : ∃ y : Int32, y = iv96_2 + Int32.ofInt 1 := ⟨_, rfl⟩
                        have zx_54 : x_54.toInt = iv96_2.toInt + (1) := by rw [ex_54]; exact i32_add rfl (by decide) (by omega) (by omega)
                        refine lv_iinc (v := x_54) (lv' := [(2, .int x_54), (1, .int iv79_1), (0, .ref x)]) hx hb dX10_wordHere_116 hl (k := 0) rfl ex_54.symm (by decide) rfl (fun ls hl => ?_)
                        refine lv_goto (tgt := 96) hx hb dX10_wordHere_119 (by decide) ?_
                        exact ih96 x_54 _ _ hL1 hl1 (by omega) (by omega) (hx_wp_s vi96_0 (by omega) ax_52 (by omega) (by omega) zx_54) ls (by omega) hW hT hM fw_6 ffw10_x_11  (lv_sub hl [0, 1, 2] rfl)
                have zk_0 : (0 : Int32).toInt = 0 := by decide
                exact loop96 8 (0 : Int32) _ _ hL1 hl1 (by decide) (by decide) hx_wp0 ls (by omega) hW hT hM fw_6 ffw10_x_11  hl
        have zk_0 : (0 : Int32).toInt = 0 := by decide
        exact loop79 26 (0 : Int32) _ _ hL1 hl1 (by decide) (by decide) (fun k hk => by exfalso; omega) ls (by omega) hW hT hM fw_6 ffw10_x_11  hl
      refine hk_geti hx hb hts hC_10 hown hW (gx.S hM) tt_10 8 (by decide) rfl kw_1151 ⟨rfl, rfl, rfl⟩ fw_6 dX10_wordHere_11 ?_
      refine lv_aload_n hx hb dX10_wordHere_14 rfl (lv_at hl 0 rfl) ?_
      refine hk_geti hx hb hts hC_10 hown hW (gx.S hM) tt_10 11 (by decide) rfl kw_1154 ⟨rfl, rfl, rfl⟩ ffw10_x_11 dX10_wordHere_15 ?_
      refine lv_iadd hx hb dX10_wordHere_18 ?_
      have rg_55 := i32_r w_6
      have rg_56 := i32_r fw10_x_11
      refine lv_topi (fun x_57 ex_57 => ?_)
      have zx_57 : x_57.toInt = w_6.toInt + fw10_x_11.toInt := by rw [ex_57]; exact i32_add rfl rfl (by omega) (by omega)
      refine lv_aload_n hx hb dX10_wordHere_19 rfl (lv_at hl 0 rfl) ?_
      refine hk_geti hx hb hts hC_10 hown hW (gx.S hM) tt_10 7 (by decide) rfl kw_1150 ⟨rfl, rfl, rfl⟩ ((hM.o gx trivial rfl).1.trans f_x_7) dX10_wordHere_20 ?_
      refine hb_icmp_ge (zx := x_57.toInt) (zy := tp0.toInt) (tgt := 77) hx hb rfl rfl dX10_wordHere_23 (by decide) (fun c_58 => ?_) (fun c_58 => ?_)
      · skip
        exact join77  _ _ hL1 hl1  (by rw [vi10_0]; exact hv_sn_y (i := x_57) (by omega) (by omega) (fun z9 => by exfalso; omega)) ls hW hT hM fw_6 ffw10_x_11  (lv_sub hl [0] rfl)
      · skip
        refine lv_aload_n hx hb dX10_wordHere_26 rfl (lv_at hl 0 rfl) ?_
        refine hk_getr hx hb hts hC_10 hown hW (gx.S hM) tt_10 6 (by decide) rfl kw_1149 ⟨rfl, rfl, rfl⟩ ((hM.o gx trivial rfl).2.trans f_x_6) dX10_wordHere_27 ?_
        refine lv_aload_n hx hb dX10_wordHere_30 rfl (lv_at hl 0 rfl) ?_
        refine hk_geti hx hb hts hC_10 hown hW (gx.S hM) tt_10 8 (by decide) rfl kw_1151 ⟨rfl, rfl, rfl⟩ fw_6 dX10_wordHere_31 ?_
        refine lv_aload_n hx hb dX10_wordHere_34 rfl (lv_at hl 0 rfl) ?_
        refine hk_geti hx hb hts hC_10 hown hW (gx.S hM) tt_10 11 (by decide) rfl kw_1154 ⟨rfl, rfl, rfl⟩ ffw10_x_11 dX10_wordHere_35 ?_
        refine lv_iadd hx hb dX10_wordHere_38 ?_
        refine lv_topi (fun x_59 ex_59 => ?_)
        have zx_59 : x_59.toInt = w_6.toInt + fw10_x_11.toInt := by rw [ex_59]; exact i32_add rfl rfl (by omega) (by omega)
        obtain rfl : x_57 = x_59 := ex_57.trans ex_59.symm
        refine hx_bald hx hb hW hT (gqt.S hM) tt_53 rfl ⟨by omega, by omega⟩ dX10_wordHere_39 (fun x_60 ex_60 lx_60 ux_60 => ?_)
        have ax_60 : x_60 = tf x_57.toNatClampNeg := ex_60.trans (congrFun (hx_afS hM gqt rfl af_qt) _)
        refine lv_bipush (v := 97) hx hb dX10_wordHere_40 (by decide) ?_
        refine hb_icmp_lt (zx := x_60.toInt) (zy := 97) (tgt := 77) hx hb rfl (by decide) dX10_wordHere_42 (by decide) (fun c_61 => ?_) (fun c_61 => ?_)
        · skip
          exact join77  _ _ hL1 hl1  (by rw [vi10_0]; exact hv_sn_y (i := x_57) (by omega) (by omega) (fun z9 => hv_lt_f ax_60 (by omega))) ls hW hT hM fw_6 ffw10_x_11  (lv_sub hl [0] rfl)
        · skip
          refine lv_aload_n hx hb dX10_wordHere_45 rfl (lv_at hl 0 rfl) ?_
          refine hk_getr hx hb hts hC_10 hown hW (gx.S hM) tt_10 6 (by decide) rfl kw_1149 ⟨rfl, rfl, rfl⟩ ((hM.o gx trivial rfl).2.trans f_x_6) dX10_wordHere_46 ?_
          refine lv_aload_n hx hb dX10_wordHere_49 rfl (lv_at hl 0 rfl) ?_
          refine hk_geti hx hb hts hC_10 hown hW (gx.S hM) tt_10 8 (by decide) rfl kw_1151 ⟨rfl, rfl, rfl⟩ fw_6 dX10_wordHere_50 ?_
          refine lv_aload_n hx hb dX10_wordHere_53 rfl (lv_at hl 0 rfl) ?_
          refine hk_geti hx hb hts hC_10 hown hW (gx.S hM) tt_10 11 (by decide) rfl kw_1154 ⟨rfl, rfl, rfl⟩ ffw10_x_11 dX10_wordHere_54 ?_
          refine lv_iadd hx hb dX10_wordHere_57 ?_
          refine lv_topi (fun x_62 ex_62 => ?_)
          have zx_62 : x_62.toInt = w_6.toInt + fw10_x_11.toInt := by rw [ex_62]; exact i32_add rfl rfl (by omega) (by omega)
          obtain rfl : x_57 = x_62 := ex_57.trans ex_62.symm
          refine hx_bald hx hb hW hT (gqt.S hM) tt_53 rfl ⟨by omega, by omega⟩ dX10_wordHere_58 (fun x_63 ex_63 lx_63 ux_63 => ?_)
          have ax_63 : x_63 = tf x_57.toNatClampNeg := ex_63.trans (congrFun (hx_afS hM gqt rfl af_qt) _)
          obtain rfl : x_60 = x_63 := ex_60.trans ex_63.symm
          refine lv_bipush (v := 122) hx hb dX10_wordHere_59 (by decide) ?_
          refine hb_icmp_gt (zx := x_60.toInt) (zy := 122) (tgt := 77) hx hb rfl (by decide) dX10_wordHere_61 (by decide) (fun c_64 => ?_) (fun c_64 => ?_)
          · skip
            exact join77  _ _ hL1 hl1  (by rw [vi10_0]; exact hv_sn_y (i := x_57) (by omega) (by omega) (fun z9 => hv_lt_f ax_60 (by omega))) ls hW hT hM fw_6 ffw10_x_11  (lv_sub hl [0] rfl)
          · skip
            refine lv_aload_n hx hb dX10_wordHere_64 rfl (lv_at hl 0 rfl) ?_
            refine lv_dup hx hb dX10_wordHere_65 rfl ?_
            refine hk_geti hx hb hts hC_10 hown hW (gx.S hM) tt_10 11 (by decide) rfl kw_1154 ⟨rfl, rfl, rfl⟩ ffw10_x_11 dX10_wordHere_66 ?_
            refine lv_iconst (v := 1) hx hb dX10_wordHere_69 (by decide) ?_
            refine lv_iadd hx hb dX10_wordHere_70 ?_
            refine lv_topi (fun x_65 ex_65 => ?_)
            have zx_65 : x_65.toInt = fw10_x_11.toInt + 1 := by rw [ex_65]; exact i32_add rfl (by decide) (by omega) (by omega)
            refine hx_puti hx hb hts hC_10 hown hW hT (hx_S.rf (M := [(10, 11)])) (gx.S hM) tt_10 11 (by decide) rfl kw_1154 ⟨rfl, rfl, rfl⟩ rfl (x := x_65) ⟨by omega, by omega⟩ rfl rfl rfl (List.mem_singleton.mpr rfl) dX10_wordHere_71 (fun H locs h_66 eh_66 hW hT hs => ?_)
            replace fw_6 := (hs.o (gx.S hM) trivial rfl).1.trans fw_6
            replace ex_60 := ex_60.trans (hs.a (gqt.S hM) rfl _).1.symm
            replace hM := hM.tr (hs.mono (by decide))
            have f_67 : h_66.2.1 x 11 = x_65 := by rw [eh_66]; exact hx_pi_at _ _ _ _
            refine lv_goto (tgt := 10) hx hb dX10_wordHere_74 (by decide) ?_
            exact ih10 x_65 _ _ hL1 h_66 (by omega) (by omega) (vi10_0.trans (hv_sn_z (i := x_57) (by omega) (by omega) (hv_lt_t ax_60 (by omega) (by omega)) (by omega) (by omega))) (by omega) ls (by omega) hW hT hM f_67 fw_6  (lv_sub hl [0] rfl)
  have zk_0 : (0 : Int32).toInt = 0 := by decide
  exact loop10 401 (0 : Int32) _ _ L_1 h_8 (by decide) (by decide) (by rw [zk_0]; congr 1; omega) (by omega) ls (by omega) hW hT hM f_9 fw_6  hl


set_option maxHeartbeats 4000000 in
set_option maxRecDepth 100000 in
theorem t_X10_fails_v (l : Launch) (dC : Nat → ClassId) (dI : Nat → Nat → Nat) (dA : Nat → ClassId) (L : List Nat) (h : hx_h) (sz : Nat) (x : Nat) (i1 : Int32) (i2 : Int32) (hT : hx_T T_tb L h) (gx : hx_g L h x 10) (ft0 : Int32) (f_x_9 : h.2.1 x 9 = ft0) (hF : ft0.toInt = 0) (hi1 : 0 ≤ i1.toInt ∧ i1.toInt ≤ 4) (hi2 : 0 ≤ i2.toInt ∧ i2.toInt ≤ 402) : Met l yX10_fails (Cond.code yX10_fails cX10_fails 3 (some .boolean) :: hx_all) ({ frames := 0, cells := 0, slots := 0, locals := 0 }) (va_Pc [.ref x, .int i1, .int i2] (hx_B T_tb (P_ty dA) (dC, dI) vwCl L h sz)) (va_Qi (fun (r : Int32) (u : List Nat × hx_h) => (∃ (ft1 : Int32), u.2.2.1 x 9 = ft1 ∧ (r.toInt = 0 ∧ ft1.toInt = 1 + 8 * i2.toInt + i1.toInt)) ∧ hx_T T_tb u.1 u.2 ∧ hx_S T_tb [(10, 9)] L h u.1 u.2) (hx_E T_tb (P_ty dA) (dC, dI) vwCl (hx_A L sz)) (hx_A L sz)) 0 0 (hx_A L sz) := by
  refine hx_met (lv := [(0, .ref x), (1, .int i1), (2, .int i2)]) (by decide +kernel) rfl (Nat.le_of_ble_eq_true rfl) rfl ?_
  intro p e s m below meth c hx hb hml hr hlk hts0 hown hin hsz hW ls hl
  have hts : ∀ w ∈ hx_all, w.before _ s = true := fun w hw => hts0 w (List.mem_cons_of_mem _ hw)
  have hown : s.vm.findClass "SmallCourtModel" = some m.cls := hown
  have hM : hx_S T_tb [(10, 9)] L h L h := hx_S.rf
  have b_ft0 := hT.gi gx tt_10 (k := 9) rfl
  rw [f_x_9] at b_ft0
  have b_ft0 : -2147483648 ≤ ft0.toInt ∧ ft0.toInt ≤ 2147483647 := b_ft0
  refine lv_aload_n hx hb dX10_fails_0 rfl (lv_at hl 0 rfl) ?_
  refine hk_geti hx hb hts hC_10 hown hW (gx.S hM) tt_10 9 (by decide) rfl kw_1152 ⟨rfl, rfl, rfl⟩ f_x_9 dX10_fails_1 ?_
  refine hb_if_ne (zx := ft0.toInt) (tgt := 19) hx hb rfl dX10_fails_4 (by decide) (fun c_1 => by exfalso; omega) (fun c_1 => ?_)
  refine lv_aload_n hx hb dX10_fails_7 rfl (lv_at hl 0 rfl) ?_
  refine lv_iconst (v := 1) hx hb dX10_fails_8 (by decide) ?_
  refine lv_bipush (v := 8) hx hb dX10_fails_9 (by decide) ?_
  refine lv_iload_n hx hb dX10_fails_11 rfl (lv_at hl 2 rfl) ?_
  refine lv_imul hx hb dX10_fails_12 ?_
  refine lv_topi (fun x_2 ex_2 => ?_)
  have zx_2 : x_2.toInt = 8 * i2.toInt := by rw [ex_2]; exact i32_mul (by decide) rfl rfl (by omega) (by omega)
  refine lv_iadd hx hb dX10_fails_13 ?_
  have rg_3 := i32_r x_2
  refine lv_topi (fun x_4 ex_4 => ?_)
  have zx_4 : x_4.toInt = 1 + x_2.toInt := by rw [ex_4]; exact i32_add (by decide) rfl (by omega) (by omega)
  refine lv_iload_n hx hb dX10_fails_14 rfl (lv_at hl 1 rfl) ?_
  refine lv_iadd hx hb dX10_fails_15 ?_
  have rg_5 := i32_r x_4
  have rg_6 := i32_r i1
  refine lv_topi (fun x_7 ex_7 => ?_)
  have zx_7 : x_7.toInt = x_4.toInt + i1.toInt := by rw [ex_7]; exact i32_add rfl rfl (by omega) (by omega)
  refine hx_puti hx hb hts hC_10 hown hW hT (hx_S.rf (M := [(10, 9)])) (gx.S hM) tt_10 9 (by decide) rfl kw_1152 ⟨rfl, rfl, rfl⟩ rfl (x := x_7) (i32_r _) rfl rfl rfl (List.mem_singleton.mpr rfl) dX10_fails_16 (fun H locs h_8 eh_8 hW hT hs => ?_)
  replace hM := hM.tr (hs.mono (by decide))
  have f_9 : h_8.2.1 x 9 = x_7 := by rw [eh_8]; exact hx_pi_at _ _ _ _
  refine lv_iconst (v := 0) hx hb dX10_fails_19 (by decide) ?_
  exact hx_retz hx hb hr rfl hlk hW ⟨⟨x_7, f_9, ⟨by decide, by omega⟩⟩, hT, hM⟩ dX10_fails_20


set_option maxHeartbeats 4000000 in
set_option maxRecDepth 100000 in
theorem t_X10_number_v (l : Launch) (dC : Nat → ClassId) (dI : Nat → Nat → Nat) (dA : Nat → ClassId) (L : List Nat) (h : hx_h) (sz : Nat) (x : Nat) (i1 : Int32) (i2 : Int32) (hT : hx_T T_tb L h) (gx : hx_g L h x 10) (qt : Nat) (gqt : hx_g L h qt 53) (f_x_6 : h.2.2 x 6 = some qt) (tf : Nat → Int32) (af_qt : h.2.1 qt = tf) (nx0 : Int32) (f_x_8 : h.2.1 x 8 = nx0) (tp0 : Int32) (f_x_7 : h.2.1 x 7 = tp0) (ft0 : Int32) (f_x_9 : h.2.1 x 9 = ft0) (hF : ft0.toInt = 0) (hA : nx0.toInt ≤ tp0.toInt) (hi1 : 0 ≤ i1.toInt) : Met l yX10_number (Cond.code yX10_number cX10_number 7 (some .boolean) :: hx_all) ({ frames := 1, cells := 0, slots := 0, locals := 22 }) (va_Pc [.ref x, .int i1, .int i2] (hx_B T_tb (P_ty dA) (dC, dI) vwCl L h sz)) (va_Qi (fun (r : Int32) (u : List Nat × hx_h) => (∃ (nx1 : Int32) (sd1 : Int32) (ft1 : Int32), u.2.2.1 x 8 = nx1 ∧ u.2.2.1 x 10 = sd1 ∧ u.2.2.1 x 9 = ft1 ∧ (hv_M (hv_num tf tp0.toInt.toNat nx0.toInt.toNat i1.toInt i2.toInt) r.toInt ft1.toInt nx1.toInt sd1.toInt ∧ (r.toInt = 1 → nx0.toInt < nx1.toInt ∧ nx1.toInt ≤ tp0.toInt ∧ i1.toInt ≤ sd1.toInt ∧ sd1.toInt ≤ i2.toInt) ∧ nx0.toInt ≤ nx1.toInt)) ∧ hx_T T_tb u.1 u.2 ∧ hx_S T_tb [(10, 8), (10, 9), (10, 10)] L h u.1 u.2) (hx_E T_tb (P_ty dA) (dC, dI) vwCl (hx_A L sz)) (hx_A L sz)) 0 0 (hx_A L sz) := by
  refine hx_met (lv := [(0, .ref x), (1, .int i1), (2, .int i2)]) (by decide +kernel) rfl (Nat.le_of_ble_eq_true rfl) rfl ?_
  intro p e s m below meth c hx hb hml hr hlk hts0 hown hin hsz hW ls hl
  have hts : ∀ w ∈ hx_all, w.before _ s = true := fun w hw => hts0 w (List.mem_cons_of_mem _ hw)
  have hown : s.vm.findClass "SmallCourtModel" = some m.cls := hown
  have hM : hx_S T_tb [(10, 8), (10, 9), (10, 10)] L h L h := hx_S.rf
  have b_nx0 := hT.gi gx tt_10 (k := 8) rfl
  rw [f_x_8] at b_nx0
  have b_nx0 : 0 ≤ nx0.toInt ∧ nx0.toInt ≤ 402 := b_nx0
  have b_tp0 := hT.gi gx tt_10 (k := 7) rfl
  rw [f_x_7] at b_tp0
  have b_tp0 : 0 ≤ tp0.toInt ∧ tp0.toInt ≤ 400 := b_tp0
  have b_ft0 := hT.gi gx tt_10 (k := 9) rfl
  rw [f_x_9] at b_ft0
  have b_ft0 : -2147483648 ≤ ft0.toInt ∧ ft0.toInt ≤ 2147483647 := b_ft0
  refine lv_aload_n hx hb dX10_number_0 rfl (lv_at hl 0 rfl) ?_
  refine hx_goi (hx_runV (As := []) (rest := []) ⟨hx, hb, hml, hown, hts⟩ hW (gx.S hM) tt_10 (T := TX10) (N := 98) rfl (t_X10_see_v l dC dI dA L h s.heap.size x hT (gx.S hM) qt (gqt.S hM) ((hM.o gx trivial rfl).2.trans f_x_6) tf (hx_afS hM gqt rfl af_qt) nx0 f_x_8 tp0 ((hM.o gx trivial rfl).1.trans f_x_7) (by omega)) (cwV 0 hts (hx_gV kw_1468 kw_1465 kw_1467 kw_53 kw_103) rfl rfl rfl (by decide +kernel) ⟨Nat.le_of_ble_eq_true rfl, Nat.le_of_ble_eq_true rfl⟩) rfl hl.1 rfl (Nat.le_of_ble_eq_true rfl) dX10_number_1 ⟨Nat.le_of_ble_eq_true rfl, Nat.le_of_ble_eq_true rfl⟩) hW (fun r_3 L_1 h_2 H locs p_4 hW => ?_)
  obtain ⟨⟨w_6, fw_6, hr_5⟩, hT, hs⟩ := p_4
  replace hT : hx_T T_tb L_1 h_2 := hT
  replace hs : hx_S T_tb [(10, 8)] L h L_1 h_2 := hs
  replace f_x_9 := (hs.o (gx.S hM) trivial rfl).1.trans f_x_9
  replace hM := hM.tr (hs.mono (by decide))
  have fw_6 : h_2.2.1 x 8 = w_6 := fw_6
  have bw_6 := hT.gi (gx.S hM) tt_10 (k := 8) rfl
  rw [fw_6] at bw_6
  have bw_6 : 0 ≤ w_6.toInt ∧ w_6.toInt ≤ 402 := bw_6
  have ek_7 : w_6.toInt.toNat = hv_sk tf tp0.toInt.toNat nx0.toInt.toNat := by omega
  have hr_5S := hr_5.2.2.2.1
  refine lv_istore_n (lv' := [(3, .int r_3), (0, .ref x), (1, .int i1), (2, .int i2)]) hx hb dX10_number_4 rfl hl (by decide) rfl (fun ls hl => ?_)
  refine lv_iload_n hx hb dX10_number_5 rfl (lv_at hl 0 rfl) ?_
  refine lv_bipush (v := 48) hx hb dX10_number_6 (by decide) ?_
  refine hb_icmp_lt (zx := r_3.toInt) (zy := 48) (tgt := 17) hx hb rfl (by decide) dX10_number_8 (by decide) (fun c_8 => ?_) (fun c_8 => ?_)
  · skip
    refine lv_aload_n hx hb dX10_number_17 rfl (lv_at hl 1 rfl) ?_
    refine lv_iconst (v := 0) hx hb dX10_number_18 (by decide) ?_
    refine lv_aload_n hx hb dX10_number_19 rfl (lv_at hl 1 rfl) ?_
    refine hk_geti hx hb hts hC_10 hown hW (gx.S hM) tt_10 8 (by decide) rfl kw_1151 ⟨rfl, rfl, rfl⟩ fw_6 dX10_number_20 ?_
    have zc_0 : (0 : Int32).toInt = 0 := by decide
    refine hx_goi (hx_runV (As := [.int (0 : Int32), .int w_6]) (rest := []) ⟨hx, hb, hml, hown, hts⟩ hW (gx.S hM) tt_10 (T := TX10) (N := 98) rfl (t_X10_fails_v l dC dI dA L_1 h_2 H.size x (0 : Int32) w_6 hT (gx.S hM) ft0 f_x_9 (by omega) (by decide) ⟨by omega, by omega⟩) (cwV 2 hts (hx_gV kw_1480 kw_1477 kw_1479 kw_56 kw_103) rfl rfl rfl (by decide +kernel) ⟨Nat.le_of_ble_eq_true rfl, Nat.le_of_ble_eq_true rfl⟩) rfl hl.1 rfl (Nat.le_of_ble_eq_true rfl) dX10_number_23 ⟨Nat.le_of_ble_eq_true rfl, Nat.le_of_ble_eq_true rfl⟩) hW (fun r_11 L_9 h_10 H locs p_12 hW => ?_)
    obtain ⟨⟨w_14, fw_14, hr_13⟩, hT, hs⟩ := p_12
    replace hT : hx_T T_tb L_9 h_10 := hT
    replace hs : hx_S T_tb [(10, 9)] L_1 h_2 L_9 h_10 := hs
    replace fw_6 := (hs.o (gx.S hM) trivial rfl).1.trans fw_6
    replace hM := hM.tr (hs.mono (by decide))
    have fw_14 : h_10.2.1 x 9 = w_14 := fw_14
    have bw_14 := hT.gi (gx.S hM) tt_10 (k := 9) rfl
    rw [fw_14] at bw_14
    have bw_14 : -2147483648 ≤ w_14.toInt ∧ w_14.toInt ≤ 2147483647 := bw_14
    obtain ⟨fv_15, efv_15⟩ : ∃ y : Int32, y = h_10.2.1 x 10 := ⟨_, rfl⟩
    have bfv_15 := hT.gi (gx.S hM) tt_10 (k := 10) rfl
    rw [← efv_15] at bfv_15
    have bfv_15 : 0 ≤ fv_15.toInt ∧ fv_15.toInt ≤ 9999 := bfv_15
    have ffv_15 := efv_15.symm
    exact hx_retz hx hb hr (hx_nar01 (by omega)) hlk hW ⟨⟨w_6, fv_15, w_14, fw_6, ffv_15, fw_14, ⟨(Or.inr ⟨by omega, by omega, (hv_num_1 (by rw [← ek_7]; have h8 := hv_SE_nd hr_5S (by omega); exact fun z9 => h8 (by omega))).trans (by rw [← ek_7]; congr 1; omega)⟩), (fun z9 => by exfalso; omega), by omega⟩⟩, hT, hM⟩ dX10_number_26
  · skip
    refine lv_iload_n hx hb dX10_number_11 rfl (lv_at hl 0 rfl) ?_
    refine lv_bipush (v := 57) hx hb dX10_number_12 (by decide) ?_
    refine hb_icmp_le (zx := r_3.toInt) (zy := 57) (tgt := 27) hx hb rfl (by decide) dX10_number_14 (by decide) (fun c_16 => ?_) (fun c_16 => ?_)
    · skip
      have hdg := hv_SE_d hr_5S ⟨by omega, by omega⟩
      have hdt := hv_de_gt (T := tf) (n := tp0.toInt.toNat) (p := w_6.toInt.toNat) (by omega) hdg.2
      refine lv_aload_n hx hb dX10_number_27 rfl (lv_at hl 1 rfl) ?_
      refine hk_geti hx hb hts hC_10 hown hW (gx.S hM) tt_10 8 (by decide) rfl kw_1151 ⟨rfl, rfl, rfl⟩ fw_6 dX10_number_28 ?_
      refine lv_istore (lv' := [(4, .int w_6), (3, .int r_3), (0, .ref x), (1, .int i1), (2, .int i2)]) hx hb dX10_number_31 hl (by decide) rfl (fun ls hl => ?_)
      refine lv_iconst (v := 0) hx hb dX10_number_33 (by decide) ?_
      refine lv_istore (lv' := [(5, .int (0 : Int32)), (4, .int w_6), (3, .int r_3), (0, .ref x), (1, .int i1), (2, .int i2)]) hx hb dX10_number_34 hl (by decide) rfl (fun ls hl => ?_)
      refine lv_iconst (v := 0) hx hb dX10_number_36 (by decide) ?_
      refine lv_istore (lv' := [(6, .int (0 : Int32)), (5, .int (0 : Int32)), (4, .int w_6), (3, .int r_3), (0, .ref x), (1, .int i1), (2, .int i2)]) hx hb dX10_number_37 hl (by decide) rfl (fun ls hl => ?_)
      have loop39 : ∀ (n39 : Nat) (iv39_5 iv39_6 fw39_x_8 : Int32) (H : Heap) (locs : List Loc) (hL1 : List Nat) (hl1 : hx_h), 0 ≤ iv39_5.toInt → iv39_5.toInt ≤ 400 → 0 ≤ iv39_6.toInt → iv39_6.toInt ≤ 9999 → 0 ≤ fw39_x_8.toInt → fw39_x_8.toInt ≤ 402 → (hv_de tf tp0.toInt.toNat (w_6.toInt).toNat = hv_de tf tp0.toInt.toNat (fw39_x_8.toInt).toNat) → (iv39_6.toInt = hv_dv tf (w_6.toInt).toNat (min (iv39_5.toInt).toNat 4)) → (fw39_x_8.toInt = w_6.toInt + iv39_5.toInt) → ((iv39_5.toInt = 0 ∧ iv39_6.toInt = 0) ∨ (iv39_5.toInt = 1 ∧ iv39_6.toInt ≤ 9) ∨ (iv39_5.toInt = 2 ∧ iv39_6.toInt ≤ 99) ∨ (iv39_5.toInt = 3 ∧ iv39_6.toInt ≤ 999) ∨ 4 ≤ iv39_5.toInt) → (fw39_x_8.toInt ≤ tp0.toInt) → ∀ (ls : Array Slot), 402 - fw39_x_8.toInt < (n39 : Int) → hx_W T_tb (P_ty dA) (dC, dI) vwCl (hx_A L sz) s.heap hL1 hl1 s H locs → hx_T T_tb hL1 hl1 → hx_S T_tb [(10, 8), (10, 9), (10, 10)] L h hL1 hl1 → hl1.2.1 x 8 = fw39_x_8 → hl1.2.1 x 9 = ft0 → lv_has ls 7 [(6, .int iv39_6), (5, .int iv39_5), (4, .int w_6), (3, .int r_3), (0, .ref x), (1, .int i1), (2, .int i2)] → W p l e ({ frames := 1, cells := 0, slots := 0, locals := 22 }) s m ([.ref x, .int i1, .int i2] : List Value).toArray below meth c H locs 0 0 (MQ below (va_Qi (fun (r : Int32) (u : List Nat × hx_h) => (∃ (nx1 : Int32) (sd1 : Int32) (ft1 : Int32), u.2.2.1 x 8 = nx1 ∧ u.2.2.1 x 10 = sd1 ∧ u.2.2.1 x 9 = ft1 ∧ (hv_M (hv_num tf tp0.toInt.toNat nx0.toInt.toNat i1.toInt i2.toInt) r.toInt ft1.toInt nx1.toInt sd1.toInt ∧ (r.toInt = 1 → nx0.toInt < nx1.toInt ∧ nx1.toInt ≤ tp0.toInt ∧ i1.toInt ≤ sd1.toInt ∧ sd1.toInt ≤ i2.toInt) ∧ nx0.toInt ≤ nx1.toInt)) ∧ hx_T T_tb u.1 u.2 ∧ hx_S T_tb [(10, 8), (10, 9), (10, 10)] L h u.1 u.2) (hx_E T_tb (P_ty dA) (dC, dI) vwCl (hx_A L sz)) (hx_A L sz)) ([.ref x, .int i1, .int i2] : List Value).toArray s 0 0 (hx_A L sz)) (F0 m 39 ls []) := by
        intro n39
        induction n39 with
        | zero => intro iv39_5 iv39_6 fw39_x_8 H locs hL1 hl1 bliv39_5 buiv39_5 bliv39_6 buiv39_6 blfw39_x_8 bufw39_x_8 vi39_0 vi39_1 vi39_2 vi39_3 vi39_4 ls hn39; exfalso; omega
        | succ n39 ih39 =>
          intro iv39_5 iv39_6 fw39_x_8 H locs hL1 hl1 bliv39_5 buiv39_5 bliv39_6 buiv39_6 blfw39_x_8 bufw39_x_8 vi39_0 vi39_1 vi39_2 vi39_3 vi39_4 ls hn39 hW hT hM ffw39_x_8 f_x_9  hl
          refine lv_aload_n hx hb dX10_number_39 rfl (lv_at hl 4 rfl) ?_
          have join120 : ∀ (H : Heap) (locs : List Loc) (hL1 : List Nat) (hl1 : hx_h), (((hv_de tf tp0.toInt.toNat (w_6.toInt).toNat : Nat) : Int) = fw39_x_8.toInt) → ∀ (ls : Array Slot), hx_W T_tb (P_ty dA) (dC, dI) vwCl (hx_A L sz) s.heap hL1 hl1 s H locs → hx_T T_tb hL1 hl1 → hx_S T_tb [(10, 8), (10, 9), (10, 10)] L h hL1 hl1 → hl1.2.1 x 9 = ft0 → hl1.2.1 x 8 = fw39_x_8 → lv_has ls 7 [(6, .int iv39_6), (5, .int iv39_5), (4, .int w_6), (3, .int r_3), (0, .ref x), (1, .int i1), (2, .int i2)] → W p l e ({ frames := 1, cells := 0, slots := 0, locals := 22 }) s m ([.ref x, .int i1, .int i2] : List Value).toArray below meth c H locs 0 0 (MQ below (va_Qi (fun (r : Int32) (u : List Nat × hx_h) => (∃ (nx1 : Int32) (sd1 : Int32) (ft1 : Int32), u.2.2.1 x 8 = nx1 ∧ u.2.2.1 x 10 = sd1 ∧ u.2.2.1 x 9 = ft1 ∧ (hv_M (hv_num tf tp0.toInt.toNat nx0.toInt.toNat i1.toInt i2.toInt) r.toInt ft1.toInt nx1.toInt sd1.toInt ∧ (r.toInt = 1 → nx0.toInt < nx1.toInt ∧ nx1.toInt ≤ tp0.toInt ∧ i1.toInt ≤ sd1.toInt ∧ sd1.toInt ≤ i2.toInt) ∧ nx0.toInt ≤ nx1.toInt)) ∧ hx_T T_tb u.1 u.2 ∧ hx_S T_tb [(10, 8), (10, 9), (10, 10)] L h u.1 u.2) (hx_E T_tb (P_ty dA) (dC, dI) vwCl (hx_A L sz)) (hx_A L sz)) ([.ref x, .int i1, .int i2] : List Value).toArray s 0 0 (hx_A L sz)) (F0 m 120 ls []) := by
            intro  H locs hL1 hl1  vj120_0 ls hW hT hM f_x_9 ffw39_x_8  hl
            have hde := vj120_0
            have hvl : iv39_6.toInt = hv_dv tf w_6.toInt.toNat (hv_de tf tp0.toInt.toNat w_6.toInt.toNat - w_6.toInt.toNat) ∨ 4 < iv39_5.toInt := by rcases (show 4 < iv39_5.toInt ∨ iv39_5.toInt ≤ 4 by omega) with z | z; exact Or.inr z; exact Or.inl (vi39_1.trans (by congr 1; omega))
            refine lv_aload_n hx hb dX10_number_120 rfl (lv_at hl 4 rfl) ?_
            refine lv_iload hx hb dX10_number_121 (lv_at hl 0 rfl) ?_
            refine hx_puti hx hb hts hC_10 hown hW hT (hx_S.rf (M := [(10, 10)])) (gx.S hM) tt_10 10 (by decide) rfl kw_1153 ⟨rfl, rfl, rfl⟩ rfl (x := iv39_6) ⟨by omega, by omega⟩ rfl rfl rfl (List.mem_singleton.mpr rfl) dX10_number_123 (fun H locs h_17 eh_17 hW hT hs => ?_)
            replace f_x_9 := (hs.o (gx.S hM) trivial rfl).1.trans f_x_9
            replace ffw39_x_8 := (hs.o (gx.S hM) trivial rfl).1.trans ffw39_x_8
            replace hM := hM.tr (hs.mono (by decide))
            have f_18 : h_17.2.1 x 10 = iv39_6 := by rw [eh_17]; exact hx_pi_at _ _ _ _
            refine lv_iload hx hb dX10_number_126 (lv_at hl 1 rfl) ?_
            refine lv_iconst (v := 4) hx hb dX10_number_128 (by decide) ?_
            refine hb_icmp_gt (zx := iv39_5.toInt) (zy := 4) (tgt := 142) hx hb rfl (by decide) dX10_number_129 (by decide) (fun c_19 => ?_) (fun c_19 => ?_)
            · skip
              refine lv_aload_n hx hb dX10_number_142 rfl (lv_at hl 4 rfl) ?_
              refine lv_iconst (v := 1) hx hb dX10_number_143 (by decide) ?_
              refine lv_iload hx hb dX10_number_144 (lv_at hl 2 rfl) ?_
              have zc_1 : (1 : Int32).toInt = 1 := by decide
              refine hx_goi (hx_runV (As := [.int (1 : Int32), .int w_6]) (rest := []) ⟨hx, hb, hml, hown, hts⟩ hW (gx.S hM) tt_10 (T := TX10) (N := 98) rfl (t_X10_fails_v l dC dI dA hL1 h_17 H.size x (1 : Int32) w_6 hT (gx.S hM) ft0 f_x_9 (by omega) (by decide) ⟨by omega, by omega⟩) (cwV 2 hts (hx_gV kw_1480 kw_1477 kw_1479 kw_56 kw_103) rfl rfl rfl (by decide +kernel) ⟨Nat.le_of_ble_eq_true rfl, Nat.le_of_ble_eq_true rfl⟩) rfl hl.1 rfl (Nat.le_of_ble_eq_true rfl) dX10_number_146 ⟨Nat.le_of_ble_eq_true rfl, Nat.le_of_ble_eq_true rfl⟩) hW (fun r_22 L_20 h_21 H locs p_23 hW => ?_)
              obtain ⟨⟨w_25, fw_25, hr_24⟩, hT, hs⟩ := p_23
              replace hT : hx_T T_tb L_20 h_21 := hT
              replace hs : hx_S T_tb [(10, 9)] hL1 h_17 L_20 h_21 := hs
              replace ffw39_x_8 := (hs.o (gx.S hM) trivial rfl).1.trans ffw39_x_8
              replace f_18 := (hs.o (gx.S hM) trivial rfl).1.trans f_18
              replace hM := hM.tr (hs.mono (by decide))
              have fw_25 : h_21.2.1 x 9 = w_25 := fw_25
              have bw_25 := hT.gi (gx.S hM) tt_10 (k := 9) rfl
              rw [fw_25] at bw_25
              have bw_25 : -2147483648 ≤ w_25.toInt ∧ w_25.toInt ≤ 2147483647 := bw_25
              refine hb_if_eq (zx := r_22.toInt) (tgt := 156) hx hb rfl dX10_number_149 (by decide) (fun c_26 => ?_) (fun c_26 => by exfalso; omega)
              refine lv_iconst (v := 0) hx hb dX10_number_156 (by decide) ?_
              exact hx_retz hx hb hr rfl hlk hW ⟨⟨fw39_x_8, iv39_6, w_25, ffw39_x_8, f_18, fw_25, ⟨(Or.inr ⟨by decide, by omega, (hv_num_2 (by rw [← ek_7]; exact ⟨by omega, hdg.2⟩) (by rw [← ek_7]; omega)).trans (by rw [← ek_7]; congr 1; omega)⟩), (fun z9 => absurd z9 (by decide)), by omega⟩⟩, hT, hM⟩ dX10_number_157
            · skip
              refine lv_iload hx hb dX10_number_132 (lv_at hl 0 rfl) ?_
              refine lv_iload_n hx hb dX10_number_134 rfl (lv_at hl 5 rfl) ?_
              refine lv_iload_n hx hb dX10_number_135 rfl (lv_at hl 6 rfl) ?_
              refine hx_goi (hx_runS (As := [.int iv39_6, .int i1, .int i2]) (rest := []) ⟨hx, hb, hml, hown, hts⟩ hW (t_X10_in l dC dI dA hL1 h_17 H.size iv39_6 i1 i2 hT) (va_cwS 3 hts (hx_gS kw_1445 kw_1443 kw_1444 kw_103) rfl rfl rfl (by decide +kernel) ⟨Nat.le_of_ble_eq_true rfl, Nat.le_of_ble_eq_true rfl⟩) rfl hl.1 rfl (Nat.le_of_ble_eq_true rfl) dX10_number_136 ⟨Nat.le_of_ble_eq_true rfl, Nat.le_of_ble_eq_true rfl⟩) hW (fun r_29 L_27 h_28 H locs p_30 hW => ?_)
              obtain ⟨hr_31, hT, hs⟩ := p_30
              replace hT : hx_T T_tb L_27 h_28 := hT
              replace hs : hx_S T_tb [] hL1 h_17 L_27 h_28 := hs
              replace f_x_9 := (hs.o (gx.S hM) trivial rfl).1.trans f_x_9
              replace ffw39_x_8 := (hs.o (gx.S hM) trivial rfl).1.trans ffw39_x_8
              replace f_18 := (hs.o (gx.S hM) trivial rfl).1.trans f_18
              replace hM := hM.tr (hs.mono (by decide))
              refine hb_if_ne (zx := r_29.toInt) (tgt := 152) hx hb rfl dX10_number_139 (by decide) (fun c_32 => ?_) (fun c_32 => ?_)
              · skip
                replace hr_31 := hr_31.resolve_left (fun z9 => c_32 z9.1)
                replace c_32 := hr_31.1
                replace hr_31 := hr_31.2
                refine lv_iconst (v := 1) hx hb dX10_number_152 (by decide) ?_
                refine lv_goto (tgt := 157) hx hb dX10_number_153 (by decide) ?_
                exact hx_retz hx hb hr rfl hlk hW ⟨⟨fw39_x_8, iv39_6, ft0, ffw39_x_8, f_18, f_x_9, ⟨(Or.inl ⟨by decide, by omega, by omega, (hv_num_3 (by rw [← ek_7]; exact ⟨by omega, hdg.2⟩) (by rw [← ek_7]; omega) (by rw [← ek_7]; omega) (by rw [← ek_7]; omega)).trans (by rw [← ek_7, show hv_dv tf w_6.toInt.toNat (hv_de tf tp0.toInt.toNat w_6.toInt.toNat - w_6.toInt.toNat) = iv39_6.toInt by omega, show hv_de tf tp0.toInt.toNat w_6.toInt.toNat = fw39_x_8.toInt.toNat by omega])⟩), (fun _ => ⟨by omega, by omega, by omega, by omega⟩), by omega⟩⟩, hT, hM⟩ dX10_number_157
              · skip
                replace hr_31 := hr_31.resolve_right (fun z9 => absurd (c_32.symm.trans z9.1) (by decide))
                replace hr_31 := hr_31.2
                refine lv_aload_n hx hb dX10_number_142 rfl (lv_at hl 4 rfl) ?_
                refine lv_iconst (v := 1) hx hb dX10_number_143 (by decide) ?_
                refine lv_iload hx hb dX10_number_144 (lv_at hl 2 rfl) ?_
                have zc_1 : (1 : Int32).toInt = 1 := by decide
                refine hx_goi (hx_runV (As := [.int (1 : Int32), .int w_6]) (rest := []) ⟨hx, hb, hml, hown, hts⟩ hW (gx.S hM) tt_10 (T := TX10) (N := 98) rfl (t_X10_fails_v l dC dI dA L_27 h_28 H.size x (1 : Int32) w_6 hT (gx.S hM) ft0 f_x_9 (by omega) (by decide) ⟨by omega, by omega⟩) (cwV 2 hts (hx_gV kw_1480 kw_1477 kw_1479 kw_56 kw_103) rfl rfl rfl (by decide +kernel) ⟨Nat.le_of_ble_eq_true rfl, Nat.le_of_ble_eq_true rfl⟩) rfl hl.1 rfl (Nat.le_of_ble_eq_true rfl) dX10_number_146 ⟨Nat.le_of_ble_eq_true rfl, Nat.le_of_ble_eq_true rfl⟩) hW (fun r_35 L_33 h_34 H locs p_36 hW => ?_)
                obtain ⟨⟨w_38, fw_38, hr_37⟩, hT, hs⟩ := p_36
                replace hT : hx_T T_tb L_33 h_34 := hT
                replace hs : hx_S T_tb [(10, 9)] L_27 h_28 L_33 h_34 := hs
                replace ffw39_x_8 := (hs.o (gx.S hM) trivial rfl).1.trans ffw39_x_8
                replace f_18 := (hs.o (gx.S hM) trivial rfl).1.trans f_18
                replace hM := hM.tr (hs.mono (by decide))
                have fw_38 : h_34.2.1 x 9 = w_38 := fw_38
                have bw_38 := hT.gi (gx.S hM) tt_10 (k := 9) rfl
                rw [fw_38] at bw_38
                have bw_38 : -2147483648 ≤ w_38.toInt ∧ w_38.toInt ≤ 2147483647 := bw_38
                refine hb_if_eq (zx := r_35.toInt) (tgt := 156) hx hb rfl dX10_number_149 (by decide) (fun c_39 => ?_) (fun c_39 => by exfalso; omega)
                refine lv_iconst (v := 0) hx hb dX10_number_156 (by decide) ?_
                exact hx_retz hx hb hr rfl hlk hW ⟨⟨fw39_x_8, iv39_6, w_38, ffw39_x_8, f_18, fw_38, ⟨(Or.inr ⟨by decide, by omega, (hv_num_2 (by rw [← ek_7]; exact ⟨by omega, hdg.2⟩) (by rw [← ek_7]; omega)).trans (by rw [← ek_7]; congr 1; omega)⟩), (fun z9 => absurd z9 (by decide)), by omega⟩⟩, hT, hM⟩ dX10_number_157
          refine hk_geti hx hb hts hC_10 hown hW (gx.S hM) tt_10 8 (by decide) rfl kw_1151 ⟨rfl, rfl, rfl⟩ ffw39_x_8 dX10_number_40 ?_
          refine lv_aload_n hx hb dX10_number_43 rfl (lv_at hl 4 rfl) ?_
          refine hk_geti hx hb hts hC_10 hown hW (gx.S hM) tt_10 7 (by decide) rfl kw_1150 ⟨rfl, rfl, rfl⟩ ((hM.o gx trivial rfl).1.trans f_x_7) dX10_number_44 ?_
          refine hb_icmp_ge (zx := fw39_x_8.toInt) (zy := tp0.toInt) (tgt := 120) hx hb rfl rfl dX10_number_47 (by decide) (fun c_40 => ?_) (fun c_40 => ?_)
          · skip
            exact join120  _ _ hL1 hl1  (by rw [vi39_0]; exact hv_sn_o (by omega) (fun z9 => by exfalso; omega)) ls hW hT hM f_x_9 ffw39_x_8  (lv_sub hl [0, 1, 2, 3, 4, 5, 6] rfl)
          · skip
            refine lv_aload_n hx hb dX10_number_50 rfl (lv_at hl 4 rfl) ?_
            refine hk_getr hx hb hts hC_10 hown hW (gx.S hM) tt_10 6 (by decide) rfl kw_1149 ⟨rfl, rfl, rfl⟩ ((hM.o gx trivial rfl).2.trans f_x_6) dX10_number_51 ?_
            refine lv_aload_n hx hb dX10_number_54 rfl (lv_at hl 4 rfl) ?_
            refine hk_geti hx hb hts hC_10 hown hW (gx.S hM) tt_10 8 (by decide) rfl kw_1151 ⟨rfl, rfl, rfl⟩ ffw39_x_8 dX10_number_55 ?_
            refine hx_bald hx hb hW hT (gqt.S hM) tt_53 rfl ⟨by omega, by omega⟩ dX10_number_58 (fun x_41 ex_41 lx_41 ux_41 => ?_)
            have ax_41 : x_41 = tf fw39_x_8.toNatClampNeg := ex_41.trans (congrFun (hx_afS hM gqt rfl af_qt) _)
            refine lv_bipush (v := 48) hx hb dX10_number_59 (by decide) ?_
            refine hb_icmp_lt (zx := x_41.toInt) (zy := 48) (tgt := 120) hx hb rfl (by decide) dX10_number_61 (by decide) (fun c_42 => ?_) (fun c_42 => ?_)
            · skip
              exact join120  _ _ hL1 hl1  (by rw [vi39_0]; exact hv_sn_o (by omega) (fun z9 => hv_dg_f ax_41 (by omega))) ls hW hT hM f_x_9 ffw39_x_8  (lv_sub hl [0, 1, 2, 3, 4, 5, 6] rfl)
            · skip
              refine lv_aload_n hx hb dX10_number_64 rfl (lv_at hl 4 rfl) ?_
              refine hk_getr hx hb hts hC_10 hown hW (gx.S hM) tt_10 6 (by decide) rfl kw_1149 ⟨rfl, rfl, rfl⟩ ((hM.o gx trivial rfl).2.trans f_x_6) dX10_number_65 ?_
              refine lv_aload_n hx hb dX10_number_68 rfl (lv_at hl 4 rfl) ?_
              refine hk_geti hx hb hts hC_10 hown hW (gx.S hM) tt_10 8 (by decide) rfl kw_1151 ⟨rfl, rfl, rfl⟩ ffw39_x_8 dX10_number_69 ?_
              refine hx_bald hx hb hW hT (gqt.S hM) tt_53 rfl ⟨by omega, by omega⟩ dX10_number_72 (fun x_43 ex_43 lx_43 ux_43 => ?_)
              have ax_43 : x_43 = tf fw39_x_8.toNatClampNeg := ex_43.trans (congrFun (hx_afS hM gqt rfl af_qt) _)
              obtain rfl : x_41 = x_43 := ex_41.trans ex_43.symm
              refine lv_bipush (v := 57) hx hb dX10_number_73 (by decide) ?_
              refine hb_icmp_gt (zx := x_41.toInt) (zy := 57) (tgt := 120) hx hb rfl (by decide) dX10_number_75 (by decide) (fun c_44 => ?_) (fun c_44 => ?_)
              · skip
                exact join120  _ _ hL1 hl1  (by rw [vi39_0]; exact hv_sn_o (by omega) (fun z9 => hv_dg_f ax_41 (by omega))) ls hW hT hM f_x_9 ffw39_x_8  (lv_sub hl [0, 1, 2, 3, 4, 5, 6] rfl)
              · skip
                refine lv_iload hx hb dX10_number_78 (lv_at hl 1 rfl) ?_
                refine lv_iconst (v := 4) hx hb dX10_number_80 (by decide) ?_
                refine hb_icmp_ge (zx := iv39_5.toInt) (zy := 4) (tgt := 104) hx hb rfl (by decide) dX10_number_81 (by decide) (fun c_45 => ?_) (fun c_45 => ?_)
                · skip
                  obtain ⟨x_46, ex_46⟩ : ∃ y : Int32, y = iv39_5 + Int32.ofInt 1 := ⟨_, rfl⟩
                  have rg_47 := i32_r iv39_5
                  have zx_46 : x_46.toInt = iv39_5.toInt + (1) := by rw [ex_46]; exact i32_add rfl (by decide) (by omega) (by omega)
                  refine lv_iinc (v := x_46) (lv' := [(5, .int x_46), (6, .int iv39_6), (4, .int w_6), (3, .int r_3), (0, .ref x), (1, .int i1), (2, .int i2)]) hx hb dX10_number_104 hl (k := 1) rfl ex_46.symm (by decide) rfl (fun ls hl => ?_)
                  refine lv_aload_n hx hb dX10_number_107 rfl (lv_at hl 4 rfl) ?_
                  refine lv_dup hx hb dX10_number_108 rfl ?_
                  refine hk_geti hx hb hts hC_10 hown hW (gx.S hM) tt_10 8 (by decide) rfl kw_1151 ⟨rfl, rfl, rfl⟩ ffw39_x_8 dX10_number_109 ?_
                  refine lv_iconst (v := 1) hx hb dX10_number_112 (by decide) ?_
                  refine lv_iadd hx hb dX10_number_113 ?_
                  have rg_48 := i32_r fw39_x_8
                  refine lv_topi (fun x_49 ex_49 => ?_)
                  have zx_49 : x_49.toInt = fw39_x_8.toInt + 1 := by rw [ex_49]; exact i32_add rfl (by decide) (by omega) (by omega)
                  refine hx_puti hx hb hts hC_10 hown hW hT (hx_S.rf (M := [(10, 8)])) (gx.S hM) tt_10 8 (by decide) rfl kw_1151 ⟨rfl, rfl, rfl⟩ rfl (x := x_49) ⟨by omega, by omega⟩ rfl rfl rfl (List.mem_singleton.mpr rfl) dX10_number_114 (fun H locs h_50 eh_50 hW hT hs => ?_)
                  replace f_x_9 := (hs.o (gx.S hM) trivial rfl).1.trans f_x_9
                  replace ex_41 := ex_41.trans (hs.a (gqt.S hM) rfl _).1.symm
                  replace hM := hM.tr (hs.mono (by decide))
                  have f_51 : h_50.2.1 x 8 = x_49 := by rw [eh_50]; exact hx_pi_at _ _ _ _
                  refine lv_goto (tgt := 39) hx hb dX10_number_117 (by decide) ?_
                  exact ih39 x_46 iv39_6 x_49 _ _ hL1 h_50 (by omega) (by omega) (by omega) (by omega) (by omega) (by omega) (vi39_0.trans (hv_sn_i (by omega) (by omega) (hv_dg_t ax_41 (by omega) (by omega)) zx_49)) (hv_dvm_k vi39_1 (by omega) zx_46) (by omega) (by omega) (by omega) ls (by omega) hW hT hM f_51 f_x_9  (lv_sub hl [1, 0, 2, 3, 4, 5, 6] rfl)
                · skip
                  refine lv_bipush (v := 10) hx hb dX10_number_84 (by decide) ?_
                  refine lv_iload hx hb dX10_number_86 (lv_at hl 0 rfl) ?_
                  refine lv_imul hx hb dX10_number_88 ?_
                  refine lv_topi (fun x_52 ex_52 => ?_)
                  have zx_52 : x_52.toInt = 10 * iv39_6.toInt := by rw [ex_52]; exact i32_mul (by decide) rfl rfl (by omega) (by omega)
                  refine lv_aload_n hx hb dX10_number_89 rfl (lv_at hl 4 rfl) ?_
                  refine hk_getr hx hb hts hC_10 hown hW (gx.S hM) tt_10 6 (by decide) rfl kw_1149 ⟨rfl, rfl, rfl⟩ ((hM.o gx trivial rfl).2.trans f_x_6) dX10_number_90 ?_
                  refine lv_aload_n hx hb dX10_number_93 rfl (lv_at hl 4 rfl) ?_
                  refine hk_geti hx hb hts hC_10 hown hW (gx.S hM) tt_10 8 (by decide) rfl kw_1151 ⟨rfl, rfl, rfl⟩ ffw39_x_8 dX10_number_94 ?_
                  refine hx_bald hx hb hW hT (gqt.S hM) tt_53 rfl ⟨by omega, by omega⟩ dX10_number_97 (fun x_53 ex_53 lx_53 ux_53 => ?_)
                  have ax_53 : x_53 = tf fw39_x_8.toNatClampNeg := ex_53.trans (congrFun (hx_afS hM gqt rfl af_qt) _)
                  obtain rfl : x_41 = x_53 := ex_41.trans ex_53.symm
                  refine lv_iadd hx hb dX10_number_98 ?_
                  have rg_54 := i32_r x_52
                  have rg_55 := i32_r x_41
                  refine lv_topi (fun x_56 ex_56 => ?_)
                  have zx_56 : x_56.toInt = x_52.toInt + x_41.toInt := by rw [ex_56]; exact i32_add rfl rfl (by omega) (by omega)
                  refine lv_bipush (v := 48) hx hb dX10_number_99 (by decide) ?_
                  refine lv_isub hx hb dX10_number_101 ?_
                  have rg_57 := i32_r x_56
                  refine lv_topi (fun x_58 ex_58 => ?_)
                  have zx_58 : x_58.toInt = x_56.toInt - 48 := by rw [ex_58]; exact i32_sub rfl (by decide) (by omega) (by omega)
                  refine lv_istore (lv' := [(6, .int x_58), (5, .int iv39_5), (4, .int w_6), (3, .int r_3), (0, .ref x), (1, .int i1), (2, .int i2)]) hx hb dX10_number_102 hl (by decide) rfl (fun ls hl => ?_)
                  obtain ⟨x_59, ex_59⟩ : ∃ y : Int32, y = iv39_5 + Int32.ofInt 1 := ⟨_, rfl⟩
                  have rg_60 := i32_r iv39_5
                  have zx_59 : x_59.toInt = iv39_5.toInt + (1) := by rw [ex_59]; exact i32_add rfl (by decide) (by omega) (by omega)
                  refine lv_iinc (v := x_59) (lv' := [(5, .int x_59), (6, .int x_58), (4, .int w_6), (3, .int r_3), (0, .ref x), (1, .int i1), (2, .int i2)]) hx hb dX10_number_104 hl (k := 1) rfl ex_59.symm (by decide) rfl (fun ls hl => ?_)
                  refine lv_aload_n hx hb dX10_number_107 rfl (lv_at hl 4 rfl) ?_
                  refine lv_dup hx hb dX10_number_108 rfl ?_
                  refine hk_geti hx hb hts hC_10 hown hW (gx.S hM) tt_10 8 (by decide) rfl kw_1151 ⟨rfl, rfl, rfl⟩ ffw39_x_8 dX10_number_109 ?_
                  refine lv_iconst (v := 1) hx hb dX10_number_112 (by decide) ?_
                  refine lv_iadd hx hb dX10_number_113 ?_
                  have rg_61 := i32_r fw39_x_8
                  refine lv_topi (fun x_62 ex_62 => ?_)
                  have zx_62 : x_62.toInt = fw39_x_8.toInt + 1 := by rw [ex_62]; exact i32_add rfl (by decide) (by omega) (by omega)
                  refine hx_puti hx hb hts hC_10 hown hW hT (hx_S.rf (M := [(10, 8)])) (gx.S hM) tt_10 8 (by decide) rfl kw_1151 ⟨rfl, rfl, rfl⟩ rfl (x := x_62) ⟨by omega, by omega⟩ rfl rfl rfl (List.mem_singleton.mpr rfl) dX10_number_114 (fun H locs h_63 eh_63 hW hT hs => ?_)
                  replace f_x_9 := (hs.o (gx.S hM) trivial rfl).1.trans f_x_9
                  replace ex_41 := ex_41.trans (hs.a (gqt.S hM) rfl _).1.symm
                  replace hM := hM.tr (hs.mono (by decide))
                  have f_64 : h_63.2.1 x 8 = x_62 := by rw [eh_63]; exact hx_pi_at _ _ _ _
                  refine lv_goto (tgt := 39) hx hb dX10_number_117 (by decide) ?_
                  exact ih39 x_59 x_58 x_62 _ _ hL1 h_63 (by omega) (by omega) (by omega) (by omega) (by omega) (by omega) (vi39_0.trans (hv_sn_i (by omega) (by omega) (hv_dg_t ax_41 (by omega) (by omega)) zx_62)) (hv_dvm_s (f := 0) (i := fw39_x_8) vi39_1 (by omega) (by omega) (by omega) (by omega) ax_41 (by omega) zx_59) (by omega) (by omega) (by omega) ls (by omega) hW hT hM f_64 f_x_9  (lv_sub hl [1, 0, 2, 3, 4, 5, 6] rfl)
      have zk_0 : (0 : Int32).toInt = 0 := by decide
      have zk_0 : (0 : Int32).toInt = 0 := by decide
      exact loop39 403 (0 : Int32) (0 : Int32) w_6 _ _ L_1 h_2 (by decide) (by decide) (by decide) (by decide) (by omega) (by omega) rfl (by rw [zk_0]; rfl) (by omega) (by omega) (by omega) ls (by omega) hW hT hM fw_6 f_x_9  hl
    · skip
      refine lv_aload_n hx hb dX10_number_17 rfl (lv_at hl 1 rfl) ?_
      refine lv_iconst (v := 0) hx hb dX10_number_18 (by decide) ?_
      refine lv_aload_n hx hb dX10_number_19 rfl (lv_at hl 1 rfl) ?_
      refine hk_geti hx hb hts hC_10 hown hW (gx.S hM) tt_10 8 (by decide) rfl kw_1151 ⟨rfl, rfl, rfl⟩ fw_6 dX10_number_20 ?_
      have zc_0 : (0 : Int32).toInt = 0 := by decide
      refine hx_goi (hx_runV (As := [.int (0 : Int32), .int w_6]) (rest := []) ⟨hx, hb, hml, hown, hts⟩ hW (gx.S hM) tt_10 (T := TX10) (N := 98) rfl (t_X10_fails_v l dC dI dA L_1 h_2 H.size x (0 : Int32) w_6 hT (gx.S hM) ft0 f_x_9 (by omega) (by decide) ⟨by omega, by omega⟩) (cwV 2 hts (hx_gV kw_1480 kw_1477 kw_1479 kw_56 kw_103) rfl rfl rfl (by decide +kernel) ⟨Nat.le_of_ble_eq_true rfl, Nat.le_of_ble_eq_true rfl⟩) rfl hl.1 rfl (Nat.le_of_ble_eq_true rfl) dX10_number_23 ⟨Nat.le_of_ble_eq_true rfl, Nat.le_of_ble_eq_true rfl⟩) hW (fun r_67 L_65 h_66 H locs p_68 hW => ?_)
      obtain ⟨⟨w_70, fw_70, hr_69⟩, hT, hs⟩ := p_68
      replace hT : hx_T T_tb L_65 h_66 := hT
      replace hs : hx_S T_tb [(10, 9)] L_1 h_2 L_65 h_66 := hs
      replace fw_6 := (hs.o (gx.S hM) trivial rfl).1.trans fw_6
      replace hM := hM.tr (hs.mono (by decide))
      have fw_70 : h_66.2.1 x 9 = w_70 := fw_70
      have bw_70 := hT.gi (gx.S hM) tt_10 (k := 9) rfl
      rw [fw_70] at bw_70
      have bw_70 : -2147483648 ≤ w_70.toInt ∧ w_70.toInt ≤ 2147483647 := bw_70
      obtain ⟨fv_71, efv_71⟩ : ∃ y : Int32, y = h_66.2.1 x 10 := ⟨_, rfl⟩
      have bfv_71 := hT.gi (gx.S hM) tt_10 (k := 10) rfl
      rw [← efv_71] at bfv_71
      have bfv_71 : 0 ≤ fv_71.toInt ∧ fv_71.toInt ≤ 9999 := bfv_71
      have ffv_71 := efv_71.symm
      exact hx_retz hx hb hr (hx_nar01 (by omega)) hlk hW ⟨⟨w_6, fv_71, w_70, fw_6, ffv_71, fw_70, ⟨(Or.inr ⟨by omega, by omega, (hv_num_1 (by rw [← ek_7]; have h8 := hv_SE_nd hr_5S (by omega); exact fun z9 => h8 (by omega))).trans (by rw [← ek_7]; congr 1; omega)⟩), (fun z9 => by exfalso; omega), by omega⟩⟩, hT, hM⟩ dX10_number_26
end
section
set_option maxHeartbeats 4000000 in
set_option maxRecDepth 100000 in
theorem t_X10_compareOf_v (l : Launch) (dC : Nat → ClassId) (dI : Nat → Nat → Nat) (dA : Nat → ClassId) (L : List Nat) (h : hx_h) (sz : Nat) (i1 : Int32) (i2 : Int32) (i3 : Int32) (hT : hx_T T_tb L h)  (hi1 : 0 ≤ i1.toInt ∧ i1.toInt ≤ 7) (hi2 : 0 ≤ i2.toInt ∧ i2.toInt ≤ 4) (hi3 : 0 ≤ i3.toInt ∧ i3.toInt ≤ 10007) : Met l yX10_compareOf (Cond.code yX10_compareOf cX10_compareOf 3 (some .int) :: hx_all) ({ frames := 0, cells := 0, slots := 0, locals := 0 }) (va_Pc [.int i1, .int i2, .int i3] (hx_B T_tb (P_ty dA) (dC, dI) vwCl L h sz)) (va_Qi (fun (r : Int32) (u : List Nat × hx_h) => (hx_okc r.toInt = true ∧ r.toInt = 1000000 * (1 + i1.toInt) + 100000 * i2.toInt + i3.toInt) ∧ hx_T T_tb u.1 u.2 ∧ hx_S T_tb [] L h u.1 u.2) (hx_E T_tb (P_ty dA) (dC, dI) vwCl (hx_A L sz)) (hx_A L sz)) 0 0 (hx_A L sz) := by
  refine hx_met (lv := [(0, .int i1), (1, .int i2), (2, .int i3)]) (by decide +kernel) rfl (Nat.le_of_ble_eq_true rfl) rfl ?_
  intro p e s m below meth c hx hb hml hr hlk hts0 hown hin hsz hW ls hl
  have hts : ∀ w ∈ hx_all, w.before _ s = true := fun w hw => hts0 w (List.mem_cons_of_mem _ hw)
  have hown : s.vm.findClass "SmallCourtModel" = some m.cls := hown
  have hM : hx_S T_tb [] L h L h := hx_S.rf
  refine lv_ldcw (v := 1000000) hx hb hown (hts _ kw_1133) dX10_compareOf_0 ?_
  refine lv_iconst (v := 1) hx hb dX10_compareOf_3 (by decide) ?_
  refine lv_iload_n hx hb dX10_compareOf_4 rfl (lv_at hl 0 rfl) ?_
  refine lv_iadd hx hb dX10_compareOf_5 ?_
  have rg_1 := i32_r i1
  refine lv_topi (fun x_2 ex_2 => ?_)
  have zx_2 : x_2.toInt = 1 + i1.toInt := by rw [ex_2]; exact i32_add (by decide) rfl (by omega) (by omega)
  refine lv_imul hx hb dX10_compareOf_6 ?_
  refine lv_topi (fun x_3 ex_3 => ?_)
  have zx_3 : x_3.toInt = 1000000 * x_2.toInt := by rw [ex_3]; exact i32_mul (by decide) rfl rfl (by omega) (by omega)
  refine lv_ldcw (v := 100000) hx hb hown (hts _ kw_1134) dX10_compareOf_7 ?_
  refine lv_iload_n hx hb dX10_compareOf_10 rfl (lv_at hl 1 rfl) ?_
  refine lv_imul hx hb dX10_compareOf_11 ?_
  refine lv_topi (fun x_4 ex_4 => ?_)
  have zx_4 : x_4.toInt = 100000 * i2.toInt := by rw [ex_4]; exact i32_mul (by decide) rfl rfl (by omega) (by omega)
  refine lv_iadd hx hb dX10_compareOf_12 ?_
  have rg_5 := i32_r x_3
  have rg_6 := i32_r x_4
  refine lv_topi (fun x_7 ex_7 => ?_)
  have zx_7 : x_7.toInt = x_3.toInt + x_4.toInt := by rw [ex_7]; exact i32_add rfl rfl (by omega) (by omega)
  refine lv_iload_n hx hb dX10_compareOf_13 rfl (lv_at hl 2 rfl) ?_
  refine lv_iadd hx hb dX10_compareOf_14 ?_
  have rg_8 := i32_r x_7
  have rg_9 := i32_r i3
  refine lv_topi (fun x_10 ex_10 => ?_)
  have zx_10 : x_10.toInt = x_7.toInt + i3.toInt := by rw [ex_10]; exact i32_add rfl rfl (by omega) (by omega)
  exact hx_reti hx hb hr hlk hW ⟨⟨(hx_okc_i (by omega) (by omega) (by omega)), by omega⟩, hT, hM⟩ dX10_compareOf_15


set_option maxHeartbeats 4000000 in
set_option maxRecDepth 100000 in
theorem t_X10_compare_v (l : Launch) (dC : Nat → ClassId) (dI : Nat → Nat → Nat) (dA : Nat → ClassId) (L : List Nat) (h : hx_h) (sz : Nat) (x : Nat) (i1 : Int32) (hT : hx_T T_tb L h) (gx : hx_g L h x 10) (qs : Nat) (gqs : hx_g L h qs 55) (f_x_15 : h.2.2 x 15 = some qs) (qo : Nat) (gqo : hx_g L h qo 56) (f_x_17 : h.2.2 x 17 = some qo) (qt : Nat) (gqt : hx_g L h qt 53) (f_x_6 : h.2.2 x 6 = some qt) (qw : Nat) (gqw : hx_g L h qw 57) (f_x_19 : h.2.2 x 19 = some qw) (sf : Nat → Int32) (af_qs : h.2.1 qs = sf) (of : Nat → Int32) (af_qo : h.2.1 qo = of) (tf : Nat → Int32) (af_qt : h.2.1 qt = tf) (wf : Nat → Int32) (af_qw : h.2.1 qw = wf) (cp0 : Int32) (f_x_16 : h.2.1 x 16 = cp0) (nx0 : Int32) (f_x_8 : h.2.1 x 8 = nx0) (st0 : Int32) (f_x_14 : h.2.1 x 14 = st0) (op0 : Int32) (f_x_18 : h.2.1 x 18 = op0) (tp0 : Int32) (f_x_7 : h.2.1 x 7 = tp0) (ws0 : Int32) (f_x_11 : h.2.1 x 11 = ws0) (ft0 : Int32) (f_x_9 : h.2.1 x 9 = ft0) (hQ : hx_QQ 0 cp0.toInt nx0.toInt st0.toInt op0.toInt sf of) (hwd : hx_wd wf) (o : List hv_tok) (hO : hv_ls sf st0.toInt.toNat = o.map hv_rc) (hF : ft0.toInt = 0) (hA : nx0.toInt ≤ tp0.toInt) (hW0 : i1.toInt = hv_wd tf tp0.toInt.toNat nx0.toInt.toNat) (hWE : ((hv_we tf tp0.toInt.toNat nx0.toInt.toNat : Nat) : Int) = nx0.toInt + ws0.toInt) : Met l yX10_compare (Cond.code yX10_compare cX10_compare 6 (some .boolean) :: hx_all) ({ frames := 2, cells := 0, slots := 0, locals := 48 }) (va_Pc [.ref x, .int i1] (hx_B T_tb (P_ty dA) (dC, dI) vwCl L h sz)) (va_Qi (fun (r : Int32) (u : List Nat × hx_h) => (∃ (cp1 : Int32) (nx1 : Int32) (st1 : Int32) (ft1 : Int32) (sf1 : Nat → Int32), u.2.2.1 x 16 = cp1 ∧ u.2.2.1 x 8 = nx1 ∧ u.2.2.1 x 14 = st1 ∧ u.2.2.1 x 9 = ft1 ∧ u.2.2.1 qs = sf1 ∧ ((r.toInt = 0 ∨ r.toInt = 1) ∧ nx0.toInt ≤ nx1.toInt ∧ (r.toInt = 1 → hx_QQ 1 cp1.toInt nx1.toInt st1.toInt op0.toInt sf1 of) ∧ hv_K hv_rc (hv_term tf tp0.toInt.toNat nx0.toInt.toNat cp0.toInt.toNat o) r.toInt ft1.toInt nx1.toInt cp1.toInt (hv_ls sf1 st1.toInt.toNat) ∧ (r.toInt = 1 → nx0.toInt < nx1.toInt ∧ nx1.toInt ≤ tp0.toInt))) ∧ hx_T T_tb u.1 u.2 ∧ hx_S T_tb [(10, 8), (10, 9), (10, 10), (10, 11), (10, 14), (10, 16), (55, 0)] L h u.1 u.2) (hx_E T_tb (P_ty dA) (dC, dI) vwCl (hx_A L sz)) (hx_A L sz)) 0 0 (hx_A L sz) := by
  refine hx_met (lv := [(0, .ref x), (1, .int i1)]) (by decide +kernel) rfl (Nat.le_of_ble_eq_true rfl) rfl ?_
  intro p e s m below meth c hx hb hml hr hlk hts0 hown hin hsz hW ls hl
  have hts : ∀ w ∈ hx_all, w.before _ s = true := fun w hw => hts0 w (List.mem_cons_of_mem _ hw)
  have hown : s.vm.findClass "SmallCourtModel" = some m.cls := hown
  have hM : hx_S T_tb [(10, 8), (10, 9), (10, 10), (10, 11), (10, 14), (10, 16), (55, 0)] L h L h := hx_S.rf
  have b_cp0 := hT.gi gx tt_10 (k := 16) rfl
  rw [f_x_16] at b_cp0
  have b_cp0 : 0 ≤ cp0.toInt ∧ cp0.toInt ≤ 20 := b_cp0
  have b_nx0 := hT.gi gx tt_10 (k := 8) rfl
  rw [f_x_8] at b_nx0
  have b_nx0 : 0 ≤ nx0.toInt ∧ nx0.toInt ≤ 402 := b_nx0
  have b_st0 := hT.gi gx tt_10 (k := 14) rfl
  rw [f_x_14] at b_st0
  have b_st0 : 0 ≤ st0.toInt ∧ st0.toInt ≤ 128 := b_st0
  have b_op0 := hT.gi gx tt_10 (k := 18) rfl
  rw [f_x_18] at b_op0
  have b_op0 : 0 ≤ op0.toInt ∧ op0.toInt ≤ 128 := b_op0
  have b_tp0 := hT.gi gx tt_10 (k := 7) rfl
  rw [f_x_7] at b_tp0
  have b_tp0 : 0 ≤ tp0.toInt ∧ tp0.toInt ≤ 400 := b_tp0
  have b_ws0 := hT.gi gx tt_10 (k := 11) rfl
  rw [f_x_11] at b_ws0
  have b_ws0 : 0 ≤ ws0.toInt ∧ ws0.toInt ≤ 400 := b_ws0
  have b_ft0 := hT.gi gx tt_10 (k := 9) rfl
  rw [f_x_9] at b_ft0
  have b_ft0 : -2147483648 ≤ ft0.toInt ∧ ft0.toInt ≤ 2147483647 := b_ft0
  refine lv_iload_n hx hb dX10_compare_0 rfl (lv_at hl 1 rfl) ?_
  refine hx_goi (hx_runS (As := [.int i1]) (rest := []) ⟨hx, hb, hml, hown, hts⟩ hW (t_X10_isFact l dC dI dA L h s.heap.size i1 hT) (va_cwS 1 hts (hx_gS kw_1499 kw_1497 kw_1498 kw_103) rfl rfl rfl (by decide +kernel) ⟨Nat.le_of_ble_eq_true rfl, Nat.le_of_ble_eq_true rfl⟩) rfl hl.1 rfl (Nat.le_of_ble_eq_true rfl) dX10_compare_1 ⟨Nat.le_of_ble_eq_true rfl, Nat.le_of_ble_eq_true rfl⟩) hW (fun r_3 L_1 h_2 H locs p_4 hW => ?_)
  obtain ⟨hr_5, hT, hs⟩ := p_4
  replace hT : hx_T T_tb L_1 h_2 := hT
  replace hs : hx_S T_tb [] L h L_1 h_2 := hs
  replace f_x_16 := (hs.o (gx.S hM) trivial rfl).1.trans f_x_16
  replace f_x_8 := (hs.o (gx.S hM) trivial rfl).1.trans f_x_8
  replace f_x_14 := (hs.o (gx.S hM) trivial rfl).1.trans f_x_14
  replace f_x_11 := (hs.o (gx.S hM) trivial rfl).1.trans f_x_11
  replace f_x_9 := (hs.o (gx.S hM) trivial rfl).1.trans f_x_9
  replace af_qs : h_2.2.1 qs = sf := (funext fun j => (hs.a (gqs.S hM) rfl j).1).trans af_qs
  replace hM := hM.tr (hs.mono (by decide))
  refine hb_if_ne (zx := r_3.toInt) (tgt := 17) hx hb rfl dX10_compare_4 (by decide) (fun c_6 => ?_) (fun c_6 => ?_)
  · skip
    replace hr_5 := hr_5.resolve_left (fun z9 => c_6 z9.1)
    replace c_6 := hr_5.1
    replace hr_5 := hr_5.2
    refine lv_aload_n hx hb dX10_compare_17 rfl (lv_at hl 0 rfl) ?_
    refine hk_geti hx hb hts hC_10 hown hW (gx.S hM) tt_10 16 (by decide) rfl kw_1159 ⟨rfl, rfl, rfl⟩ f_x_16 dX10_compare_18 ?_
    refine lv_bipush (v := 20) hx hb dX10_compare_21 (by decide) ?_
    refine hb_icmp_ne (zx := cp0.toInt) (zy := 20) (tgt := 36) hx hb rfl (by decide) dX10_compare_23 (by decide) (fun c_7 => ?_) (fun c_7 => ?_)
    · skip
      have hw3 := hv_wd_3 (T := tf) (n := tp0.toInt.toNat) (p := nx0.toInt.toNat) (by omega)
      refine lv_aload_n hx hb dX10_compare_36 rfl (lv_at hl 0 rfl) ?_
      refine lv_dup hx hb dX10_compare_37 rfl ?_
      refine hk_geti hx hb hts hC_10 hown hW (gx.S hM) tt_10 16 (by decide) rfl kw_1159 ⟨rfl, rfl, rfl⟩ f_x_16 dX10_compare_38 ?_
      refine lv_iconst (v := 1) hx hb dX10_compare_41 (by decide) ?_
      refine lv_iadd hx hb dX10_compare_42 ?_
      have rg_8 := i32_r cp0
      refine lv_topi (fun x_9 ex_9 => ?_)
      have zx_9 : x_9.toInt = cp0.toInt + 1 := by rw [ex_9]; exact i32_add rfl (by decide) (by omega) (by omega)
      refine hx_puti hx hb hts hC_10 hown hW hT (hx_S.rf (M := [(10, 16)])) (gx.S hM) tt_10 16 (by decide) rfl kw_1159 ⟨rfl, rfl, rfl⟩ rfl (x := x_9) ⟨by omega, by omega⟩ rfl rfl rfl (List.mem_singleton.mpr rfl) dX10_compare_43 (fun H locs h_10 eh_10 hW hT hs => ?_)
      replace f_x_8 := (hs.o (gx.S hM) trivial rfl).1.trans f_x_8
      replace f_x_14 := (hs.o (gx.S hM) trivial rfl).1.trans f_x_14
      replace f_x_11 := (hs.o (gx.S hM) trivial rfl).1.trans f_x_11
      replace f_x_9 := (hs.o (gx.S hM) trivial rfl).1.trans f_x_9
      replace af_qs : h_10.2.1 qs = sf := (funext fun j => (hs.a (gqs.S hM) rfl j).1).trans af_qs
      replace hM := hM.tr (hs.mono (by decide))
      have f_11 : h_10.2.1 x 16 = x_9 := by rw [eh_10]; exact hx_pi_at _ _ _ _
      refine lv_aload_n hx hb dX10_compare_46 rfl (lv_at hl 0 rfl) ?_
      refine lv_dup hx hb dX10_compare_47 rfl ?_
      refine hk_geti hx hb hts hC_10 hown hW (gx.S hM) tt_10 8 (by decide) rfl kw_1151 ⟨rfl, rfl, rfl⟩ f_x_8 dX10_compare_48 ?_
      refine lv_aload_n hx hb dX10_compare_51 rfl (lv_at hl 0 rfl) ?_
      refine hk_geti hx hb hts hC_10 hown hW (gx.S hM) tt_10 11 (by decide) rfl kw_1154 ⟨rfl, rfl, rfl⟩ f_x_11 dX10_compare_52 ?_
      refine lv_iadd hx hb dX10_compare_55 ?_
      have rg_12 := i32_r nx0
      have rg_13 := i32_r ws0
      refine lv_topi (fun x_14 ex_14 => ?_)
      have zx_14 : x_14.toInt = nx0.toInt + ws0.toInt := by rw [ex_14]; exact i32_add rfl rfl (by omega) (by omega)
      refine hx_puti hx hb hts hC_10 hown hW hT (hx_S.rf (M := [(10, 8)])) (gx.S hM) tt_10 8 (by decide) rfl kw_1151 ⟨rfl, rfl, rfl⟩ rfl (x := x_14) ⟨by omega, by omega⟩ rfl rfl rfl (List.mem_singleton.mpr rfl) dX10_compare_56 (fun H locs h_15 eh_15 hW hT hs => ?_)
      replace f_x_14 := (hs.o (gx.S hM) trivial rfl).1.trans f_x_14
      replace f_x_11 := (hs.o (gx.S hM) trivial rfl).1.trans f_x_11
      replace f_x_9 := (hs.o (gx.S hM) trivial rfl).1.trans f_x_9
      replace f_11 := (hs.o (gx.S hM) trivial rfl).1.trans f_11
      replace af_qs : h_15.2.1 qs = sf := (funext fun j => (hs.a (gqs.S hM) rfl j).1).trans af_qs
      replace hM := hM.tr (hs.mono (by decide))
      have f_16 : h_15.2.1 x 8 = x_14 := by rw [eh_15]; exact hx_pi_at _ _ _ _
      have ha1 : x_14.toInt.toNat = hv_we tf tp0.toInt.toNat nx0.toInt.toNat := by omega
      refine lv_aload_n hx hb dX10_compare_59 rfl (lv_at hl 0 rfl) ?_
      refine hx_goi (hx_runV (As := []) (rest := []) ⟨hx, hb, hml, hown, hts⟩ hW (gx.S hM) tt_10 (T := TX10) (N := 98) rfl (t_X10_see_v l dC dI dA L_1 h_15 H.size x hT (gx.S hM) qt (gqt.S hM) ((hM.o gx trivial rfl).2.trans f_x_6) tf (hx_afS hM gqt rfl af_qt) x_14 f_16 tp0 ((hM.o gx trivial rfl).1.trans f_x_7) (by omega)) (cwV 0 hts (hx_gV kw_1468 kw_1465 kw_1467 kw_53 kw_103) rfl rfl rfl (by decide +kernel) ⟨Nat.le_of_ble_eq_true rfl, Nat.le_of_ble_eq_true rfl⟩) rfl hl.1 rfl (Nat.le_of_ble_eq_true rfl) dX10_compare_60 ⟨Nat.le_of_ble_eq_true rfl, Nat.le_of_ble_eq_true rfl⟩) hW (fun r_19 L_17 h_18 H locs p_20 hW => ?_)
      obtain ⟨⟨w_22, fw_22, hr_21⟩, hT, hs⟩ := p_20
      replace hT : hx_T T_tb L_17 h_18 := hT
      replace hs : hx_S T_tb [(10, 8)] L_1 h_15 L_17 h_18 := hs
      replace f_x_14 := (hs.o (gx.S hM) trivial rfl).1.trans f_x_14
      replace f_x_11 := (hs.o (gx.S hM) trivial rfl).1.trans f_x_11
      replace f_x_9 := (hs.o (gx.S hM) trivial rfl).1.trans f_x_9
      replace f_11 := (hs.o (gx.S hM) trivial rfl).1.trans f_11
      replace af_qs : h_18.2.1 qs = sf := (funext fun j => (hs.a (gqs.S hM) rfl j).1).trans af_qs
      replace hM := hM.tr (hs.mono (by decide))
      have fw_22 : h_18.2.1 x 8 = w_22 := fw_22
      have bw_22 := hT.gi (gx.S hM) tt_10 (k := 8) rfl
      rw [fw_22] at bw_22
      have bw_22 : 0 ≤ w_22.toInt ∧ w_22.toInt ≤ 402 := bw_22
      have ek_23 : w_22.toInt.toNat = hv_sk tf tp0.toInt.toNat x_14.toInt.toNat := by omega
      have hr_21S := hr_21.2.2.2.1
      refine lv_istore_n (lv' := [(2, .int r_19), (0, .ref x), (1, .int i1)]) hx hb dX10_compare_63 rfl hl (by decide) rfl (fun ls hl => ?_)
      have join192 : ∀ (jv192_4 jw192_x_8 : Int32) (H : Heap) (locs : List Loc) (hL1 : List Nat) (hl1 : hx_h), 0 ≤ jv192_4.toInt → jv192_4.toInt ≤ 4 → 0 ≤ jw192_x_8.toInt → jw192_x_8.toInt ≤ 402 → ((hv_sg tf tp0.toInt.toNat (hv_sk tf tp0.toInt.toNat (hv_we tf tp0.toInt.toNat nx0.toInt.toNat))).1 = (jv192_4.toInt).toNat ∧ (hv_sg tf tp0.toInt.toNat (hv_sk tf tp0.toInt.toNat (hv_we tf tp0.toInt.toNat nx0.toInt.toNat))).2 ≠ 0 ∧ (jw192_x_8.toInt).toNat = hv_sk tf tp0.toInt.toNat (hv_we tf tp0.toInt.toNat nx0.toInt.toNat) + (hv_sg tf tp0.toInt.toNat (hv_sk tf tp0.toInt.toNat (hv_we tf tp0.toInt.toNat nx0.toInt.toNat))).2) → (jw192_x_8.toInt ≤ tp0.toInt) → (nx0.toInt + 3 < jw192_x_8.toInt) → ∀ (ls : Array Slot), hx_W T_tb (P_ty dA) (dC, dI) vwCl (hx_A L sz) s.heap hL1 hl1 s H locs → hx_T T_tb hL1 hl1 → hx_S T_tb [(10, 8), (10, 9), (10, 10), (10, 11), (10, 14), (10, 16), (55, 0)] L h hL1 hl1 → hl1.2.1 x 8 = jw192_x_8 → hl1.2.1 x 14 = st0 → hl1.2.1 x 11 = ws0 → hl1.2.1 x 9 = ft0 → hl1.2.1 x 16 = x_9 → hl1.2.1 qs = sf → lv_has ls 6 [(4, .int jv192_4), (2, .int r_19), (0, .ref x), (1, .int i1)] → W p l e ({ frames := 2, cells := 0, slots := 0, locals := 48 }) s m ([.ref x, .int i1] : List Value).toArray below meth c H locs 0 0 (MQ below (va_Qi (fun (r : Int32) (u : List Nat × hx_h) => (∃ (cp1 : Int32) (nx1 : Int32) (st1 : Int32) (ft1 : Int32) (sf1 : Nat → Int32), u.2.2.1 x 16 = cp1 ∧ u.2.2.1 x 8 = nx1 ∧ u.2.2.1 x 14 = st1 ∧ u.2.2.1 x 9 = ft1 ∧ u.2.2.1 qs = sf1 ∧ ((r.toInt = 0 ∨ r.toInt = 1) ∧ nx0.toInt ≤ nx1.toInt ∧ (r.toInt = 1 → hx_QQ 1 cp1.toInt nx1.toInt st1.toInt op0.toInt sf1 of) ∧ hv_K hv_rc (hv_term tf tp0.toInt.toNat nx0.toInt.toNat cp0.toInt.toNat o) r.toInt ft1.toInt nx1.toInt cp1.toInt (hv_ls sf1 st1.toInt.toNat) ∧ (r.toInt = 1 → nx0.toInt < nx1.toInt ∧ nx1.toInt ≤ tp0.toInt))) ∧ hx_T T_tb u.1 u.2 ∧ hx_S T_tb [(10, 8), (10, 9), (10, 10), (10, 11), (10, 14), (10, 16), (55, 0)] L h u.1 u.2) (hx_E T_tb (P_ty dA) (dC, dI) vwCl (hx_A L sz)) (hx_A L sz)) ([.ref x, .int i1] : List Value).toArray s 0 0 (hx_A L sz)) (F0 m 192 ls []) := by
        intro jv192_4 jw192_x_8 H locs hL1 hl1 bljv192_4 bujv192_4 bljw192_x_8 bujw192_x_8 vj192_0 vj192_1 vj192_2 ls hW hT hM fjw192_x_8 f_x_14 f_x_11 f_x_9 f_11 af_qs hl
        have hsgj := vj192_0
        refine lv_aload_n hx hb dX10_compare_192 rfl (lv_at hl 2 rfl) ?_
        refine hx_goi (hx_runV (As := []) (rest := []) ⟨hx, hb, hml, hown, hts⟩ hW (gx.S hM) tt_10 (T := TX10) (N := 98) rfl (t_X10_wordHere_v l dC dI dA hL1 hl1 H.size x hT (gx.S hM) qt (gqt.S hM) ((hM.o gx trivial rfl).2.trans f_x_6) qw (gqw.S hM) ((hM.o gx trivial rfl).2.trans f_x_19) tf (hx_afS hM gqt rfl af_qt) wf (hx_afS hM gqw rfl af_qw) jw192_x_8 fjw192_x_8 tp0 ((hM.o gx trivial rfl).1.trans f_x_7) hwd (by omega)) (cwV 0 hts (hx_gV kw_1476 kw_1473 kw_1475 kw_55 kw_103) rfl rfl rfl (by decide +kernel) ⟨Nat.le_of_ble_eq_true rfl, Nat.le_of_ble_eq_true rfl⟩) rfl hl.1 rfl (Nat.le_of_ble_eq_true rfl) dX10_compare_193 ⟨Nat.le_of_ble_eq_true rfl, Nat.le_of_ble_eq_true rfl⟩) hW (fun r_26 L_24 h_25 H locs p_27 hW => ?_)
        obtain ⟨⟨w_29, w_30, fw_29, fw_30, hr_28⟩, hT, hs⟩ := p_27
        replace hT : hx_T T_tb L_24 h_25 := hT
        replace hs : hx_S T_tb [(10, 8), (10, 11)] hL1 hl1 L_24 h_25 := hs
        replace f_x_14 := (hs.o (gx.S hM) trivial rfl).1.trans f_x_14
        replace f_x_9 := (hs.o (gx.S hM) trivial rfl).1.trans f_x_9
        replace f_11 := (hs.o (gx.S hM) trivial rfl).1.trans f_11
        replace af_qs : h_25.2.1 qs = sf := (funext fun j => (hs.a (gqs.S hM) rfl j).1).trans af_qs
        replace hM := hM.tr (hs.mono (by decide))
        have fw_29 : h_25.2.1 x 8 = w_29 := fw_29
        have bw_29 := hT.gi (gx.S hM) tt_10 (k := 8) rfl
        rw [fw_29] at bw_29
        have bw_29 : 0 ≤ w_29.toInt ∧ w_29.toInt ≤ 402 := bw_29
        have fw_30 : h_25.2.1 x 11 = w_30 := fw_30
        have bw_30 := hT.gi (gx.S hM) tt_10 (k := 11) rfl
        rw [fw_30] at bw_30
        have bw_30 : 0 ≤ w_30.toInt ∧ w_30.toInt ≤ 400 := bw_30
        have ek_31 : w_29.toInt.toNat = hv_sk tf tp0.toInt.toNat jw192_x_8.toInt.toNat := by omega
        have hr_28W : r_26.toInt = hv_wd tf tp0.toInt.toNat w_29.toInt.toNat := by rw [ek_31]; exact hr_28.2.2.2.2.1
        have hr_28E : ((hv_we tf tp0.toInt.toNat w_29.toInt.toNat : Nat) : Int) = w_29.toInt + w_30.toInt := by rw [ek_31]; exact hr_28.2.2.2.1.symm
        refine lv_istore (lv' := [(5, .int r_26), (4, .int jv192_4), (2, .int r_19), (0, .ref x), (1, .int i1)]) hx hb dX10_compare_196 hl (by decide) rfl (fun ls hl => ?_)
        have ht9 := hv_term_o (T := tf) (n := tp0.toInt.toNat) (p := nx0.toInt.toNat) (t := cp0.toInt.toNat) (o := o) (u := w_29.toInt.toNat) (by omega) (by omega) hsgj.2.1 (by rw [ek_31, hsgj.2.2])
        have uid : hv_sk tf tp0.toInt.toNat w_29.toInt.toNat = w_29.toInt.toNat := by rw [ek_31]; exact hv_sk_id
        refine lv_iload hx hb dX10_compare_198 (lv_at hl 0 rfl) ?_
        refine hx_goi (hx_runS (As := [.int r_26]) (rest := []) ⟨hx, hb, hml, hown, hts⟩ hW (t_X10_isFact l dC dI dA L_24 h_25 H.size r_26 hT) (va_cwS 1 hts (hx_gS kw_1499 kw_1497 kw_1498 kw_103) rfl rfl rfl (by decide +kernel) ⟨Nat.le_of_ble_eq_true rfl, Nat.le_of_ble_eq_true rfl⟩) rfl hl.1 rfl (Nat.le_of_ble_eq_true rfl) dX10_compare_200 ⟨Nat.le_of_ble_eq_true rfl, Nat.le_of_ble_eq_true rfl⟩) hW (fun r_34 L_32 h_33 H locs p_35 hW => ?_)
        obtain ⟨hr_36, hT, hs⟩ := p_35
        replace hT : hx_T T_tb L_32 h_33 := hT
        replace hs : hx_S T_tb [] L_24 h_25 L_32 h_33 := hs
        replace f_x_14 := (hs.o (gx.S hM) trivial rfl).1.trans f_x_14
        replace f_x_9 := (hs.o (gx.S hM) trivial rfl).1.trans f_x_9
        replace f_11 := (hs.o (gx.S hM) trivial rfl).1.trans f_11
        replace fw_29 := (hs.o (gx.S hM) trivial rfl).1.trans fw_29
        replace fw_30 := (hs.o (gx.S hM) trivial rfl).1.trans fw_30
        replace af_qs : h_33.2.1 qs = sf := (funext fun j => (hs.a (gqs.S hM) rfl j).1).trans af_qs
        replace hM := hM.tr (hs.mono (by decide))
        refine hb_if_eq (zx := r_34.toInt) (tgt := 241) hx hb rfl dX10_compare_203 (by decide) (fun c_37 => ?_) (fun c_37 => ?_)
        · skip
          replace hr_36 := hr_36.resolve_right (fun z9 => absurd (c_37.symm.trans z9.1) (by decide))
          replace hr_36 := hr_36.2
          refine lv_aload_n hx hb dX10_compare_241 rfl (lv_at hl 3 rfl) ?_
          refine lv_iconst (v := 0) hx hb dX10_compare_242 (by decide) ?_
          refine lv_sipush (v := 9999) hx hb dX10_compare_243 (by decide) ?_
          have zc_9999 : (9999 : Int32).toInt = 9999 := by decide
          have zc_0 : (0 : Int32).toInt = 0 := by decide
          refine hx_goi (hx_runV (As := [.int (0 : Int32), .int (9999 : Int32)]) (rest := []) ⟨hx, hb, hml, hown, hts⟩ hW (gx.S hM) tt_10 (T := TX10) (N := 98) rfl (t_X10_number_v l dC dI dA L_32 h_33 H.size x (0 : Int32) (9999 : Int32) hT (gx.S hM) qt (gqt.S hM) ((hM.o gx trivial rfl).2.trans f_x_6) tf (hx_afS hM gqt rfl af_qt) w_29 fw_29 tp0 ((hM.o gx trivial rfl).1.trans f_x_7) ft0 f_x_9 (by omega) (by omega) (by decide)) (cwV 2 hts (hx_gV kw_1503 kw_1500 kw_1502 kw_61 kw_103) rfl rfl rfl (by decide +kernel) ⟨Nat.le_of_ble_eq_true rfl, Nat.le_of_ble_eq_true rfl⟩) rfl hl.1 rfl (Nat.le_of_ble_eq_true rfl) dX10_compare_246 ⟨Nat.le_of_ble_eq_true rfl, Nat.le_of_ble_eq_true rfl⟩) hW (fun r_40 L_38 h_39 H locs p_41 hW => ?_)
          obtain ⟨⟨w_43, w_44, w_45, fw_43, fw_44, fw_45, hr_42⟩, hT, hs⟩ := p_41
          replace hT : hx_T T_tb L_38 h_39 := hT
          replace hs : hx_S T_tb [(10, 8), (10, 9), (10, 10)] L_32 h_33 L_38 h_39 := hs
          replace f_x_14 := (hs.o (gx.S hM) trivial rfl).1.trans f_x_14
          replace f_11 := (hs.o (gx.S hM) trivial rfl).1.trans f_11
          replace fw_30 := (hs.o (gx.S hM) trivial rfl).1.trans fw_30
          replace af_qs : h_39.2.1 qs = sf := (funext fun j => (hs.a (gqs.S hM) rfl j).1).trans af_qs
          replace hM := hM.tr (hs.mono (by decide))
          have fw_43 : h_39.2.1 x 8 = w_43 := fw_43
          have bw_43 := hT.gi (gx.S hM) tt_10 (k := 8) rfl
          rw [fw_43] at bw_43
          have bw_43 : 0 ≤ w_43.toInt ∧ w_43.toInt ≤ 402 := bw_43
          have fw_44 : h_39.2.1 x 10 = w_44 := fw_44
          have bw_44 := hT.gi (gx.S hM) tt_10 (k := 10) rfl
          rw [fw_44] at bw_44
          have bw_44 : 0 ≤ w_44.toInt ∧ w_44.toInt ≤ 9999 := bw_44
          have fw_45 : h_39.2.1 x 9 = w_45 := fw_45
          have bw_45 := hT.gi (gx.S hM) tt_10 (k := 9) rfl
          rw [fw_45] at bw_45
          have bw_45 : -2147483648 ≤ w_45.toInt ∧ w_45.toInt ≤ 2147483647 := bw_45
          have hr_42b := hv_M_b hr_42.1
          refine hb_if_ne (zx := r_40.toInt) (tgt := 254) hx hb rfl dX10_compare_249 (by decide) (fun c_46 => ?_) (fun c_46 => ?_)
          · skip
            have hnm := hv_M_1 hr_42.1 (by omega)
            rw [show (0 : Int32).toInt = 0 from by decide, show (9999 : Int32).toInt = 9999 from by decide] at hnm
            have hnb := hr_42.2.1 (by omega)
            have hroom := hx_QQ_room hQ (n1 := w_43.toInt) (by omega) (by omega)
            refine lv_aload_n hx hb dX10_compare_254 rfl (lv_at hl 3 rfl) ?_
            refine lv_iload_n hx hb dX10_compare_255 rfl (lv_at hl 4 rfl) ?_
            refine lv_iconst (v := 3) hx hb dX10_compare_256 (by decide) ?_
            refine lv_isub hx hb dX10_compare_257 ?_
            have rg_47 := i32_r i1
            refine lv_topi (fun x_48 ex_48 => ?_)
            have zx_48 : x_48.toInt = i1.toInt - 3 := by rw [ex_48]; exact i32_sub rfl (by decide) (by omega) (by omega)
            refine lv_iload hx hb dX10_compare_258 (lv_at hl 1 rfl) ?_
            refine lv_aload_n hx hb dX10_compare_260 rfl (lv_at hl 3 rfl) ?_
            refine hk_geti hx hb hts hC_10 hown hW (gx.S hM) tt_10 10 (by decide) rfl kw_1153 ⟨rfl, rfl, rfl⟩ fw_44 dX10_compare_261 ?_
            refine hx_goi (hx_runS (As := [.int x_48, .int jv192_4, .int w_44]) (rest := [.ref x]) ⟨hx, hb, hml, hown, hts⟩ hW (t_X10_compareOf_v l dC dI dA L_38 h_39 H.size x_48 jv192_4 w_44 hT ⟨by omega, by omega⟩ ⟨by omega, by omega⟩ ⟨by omega, by omega⟩) (va_cwS 3 hts (hx_gS kw_1132 kw_1130 kw_1131 kw_103) rfl rfl rfl (by decide +kernel) ⟨Nat.le_of_ble_eq_true rfl, Nat.le_of_ble_eq_true rfl⟩) rfl hl.1 rfl (Nat.le_of_ble_eq_true rfl) dX10_compare_264 ⟨Nat.le_of_ble_eq_true rfl, Nat.le_of_ble_eq_true rfl⟩) hW (fun r_51 L_49 h_50 H locs p_52 hW => ?_)
            obtain ⟨hr_53, hT, hs⟩ := p_52
            replace hT : hx_T T_tb L_49 h_50 := hT
            replace hs : hx_S T_tb [] L_38 h_39 L_49 h_50 := hs
            replace f_x_14 := (hs.o (gx.S hM) trivial rfl).1.trans f_x_14
            replace f_11 := (hs.o (gx.S hM) trivial rfl).1.trans f_11
            replace fw_30 := (hs.o (gx.S hM) trivial rfl).1.trans fw_30
            replace fw_43 := (hs.o (gx.S hM) trivial rfl).1.trans fw_43
            replace fw_44 := (hs.o (gx.S hM) trivial rfl).1.trans fw_44
            replace fw_45 := (hs.o (gx.S hM) trivial rfl).1.trans fw_45
            replace af_qs : h_50.2.1 qs = sf := (funext fun j => (hs.a (gqs.S hM) rfl j).1).trans af_qs
            replace hM := hM.tr (hs.mono (by decide))
            refine hx_gov (hx_runV (As := [.int r_51]) (rest := []) ⟨hx, hb, hml, hown, hts⟩ hW (gx.S hM) tt_10 (T := TX10) (N := 98) rfl (t_X10_writes l dC dI dA L_49 h_50 H.size x r_51 hT (gx.S hM) qs (gqs.S hM) ((hM.o gx trivial rfl).2.trans f_x_15) sf af_qs st0 f_x_14 (by omega)) (cwV 1 hts (hx_gV kw_1138 kw_1135 kw_1137 kw_50 kw_103) rfl rfl rfl (by decide +kernel) ⟨Nat.le_of_ble_eq_true rfl, Nat.le_of_ble_eq_true rfl⟩) rfl hl.1 rfl (Nat.le_of_ble_eq_true rfl) dX10_compare_267 ⟨Nat.le_of_ble_eq_true rfl, Nat.le_of_ble_eq_true rfl⟩) hW (fun L_54 h_55 H locs p_57 hW => ?_)
            obtain ⟨⟨w_59, w_60, fw_59, fw_60, hr_58⟩, hT, hs⟩ := p_57
            replace hT : hx_T T_tb L_54 h_55 := hT
            replace hs : hx_S T_tb [(10, 14), (55, 0)] L_49 h_50 L_54 h_55 := hs
            replace f_11 := (hs.o (gx.S hM) trivial rfl).1.trans f_11
            replace fw_30 := (hs.o (gx.S hM) trivial rfl).1.trans fw_30
            replace fw_43 := (hs.o (gx.S hM) trivial rfl).1.trans fw_43
            replace fw_44 := (hs.o (gx.S hM) trivial rfl).1.trans fw_44
            replace fw_45 := (hs.o (gx.S hM) trivial rfl).1.trans fw_45
            replace hM := hM.tr (hs.mono (by decide))
            have fw_59 : h_55.2.1 x 14 = w_59 := fw_59
            have bw_59 := hT.gi (gx.S hM) tt_10 (k := 14) rfl
            rw [fw_59] at bw_59
            have bw_59 : 0 ≤ w_59.toInt ∧ w_59.toInt ≤ 128 := bw_59
            have fw_60 : h_55.2.1 qs = w_60 := fw_60
            refine lv_iconst (v := 1) hx hb dX10_compare_270 (by decide) ?_
            exact hx_retz hx hb hr rfl hlk hW ⟨⟨x_9, w_43, w_59, w_45, w_60, f_11, fw_43, fw_59, fw_45, fw_60, ⟨by decide, by omega, (fun _ => hx_QQ_cmp hQ (by omega) (by omega) (by omega) hr_53.1 (hx_cl (by omega)) (by omega) hr_58.1 hr_58.2), (hv_K_t (x := w_43.toInt.toNat) (y := cp0.toInt.toNat + 1) (o := (hv_wd tf tp0.toInt.toNat nx0.toInt.toNat - 2, (hv_sg tf tp0.toInt.toNat (hv_sk tf tp0.toInt.toNat (hv_we tf tp0.toInt.toNat nx0.toInt.toNat))).1, w_44.toInt) :: o) (by decide) (by omega) (by omega) (by omega) (hv_ls_u hO (by unfold hv_rc; dsimp only; rw [if_neg (by omega)]; omega) (by omega) hr_58.2) (ht9.trans (((hv_rt_n (by omega) uid).trans (by rw [hnm.2.2]; rfl)).trans rfl))), (fun _ => ⟨by omega, by omega⟩)⟩⟩, hT, hM⟩ dX10_compare_271
          · skip
            refine lv_iconst (v := 0) hx hb dX10_compare_252 (by decide) ?_
            exact hx_retz hx hb hr rfl hlk hW ⟨⟨x_9, w_43, st0, w_45, sf, f_11, fw_43, f_x_14, fw_45, af_qs, ⟨by decide, by omega, (fun z9 => absurd z9 (by decide)), (hv_K_f (x := w_45.toInt.toNat) (by decide) (by have h8 := (hv_M_0 hr_42.1 (by omega)).1; omega) (by have h8 := (hv_M_0 hr_42.1 (by omega)).1; omega) (ht9.trans ((hv_rt_n (by omega) uid).trans (by have h8 := (hv_M_0 hr_42.1 (by omega)).2; rw [show (0 : Int32).toInt = 0 from by decide, show (9999 : Int32).toInt = 9999 from by decide] at h8; rw [h8]; rfl)))), (fun z9 => absurd z9 (by decide))⟩⟩, hT, hM⟩ dX10_compare_253
        · skip
          replace hr_36 := hr_36.resolve_left (fun z9 => c_37 z9.1)
          replace c_37 := hr_36.1
          replace hr_36 := hr_36.2
          have hu3 := hv_wd_3 (T := tf) (n := tp0.toInt.toNat) (p := w_29.toInt.toNat) (by omega)
          refine lv_aload_n hx hb dX10_compare_206 rfl (lv_at hl 3 rfl) ?_
          refine lv_dup hx hb dX10_compare_207 rfl ?_
          refine hk_geti hx hb hts hC_10 hown hW (gx.S hM) tt_10 8 (by decide) rfl kw_1151 ⟨rfl, rfl, rfl⟩ fw_29 dX10_compare_208 ?_
          refine lv_aload_n hx hb dX10_compare_211 rfl (lv_at hl 3 rfl) ?_
          refine hk_geti hx hb hts hC_10 hown hW (gx.S hM) tt_10 11 (by decide) rfl kw_1154 ⟨rfl, rfl, rfl⟩ fw_30 dX10_compare_212 ?_
          refine lv_iadd hx hb dX10_compare_215 ?_
          have rg_61 := i32_r w_29
          have rg_62 := i32_r w_30
          refine lv_topi (fun x_63 ex_63 => ?_)
          have zx_63 : x_63.toInt = w_29.toInt + w_30.toInt := by rw [ex_63]; exact i32_add rfl rfl (by omega) (by omega)
          refine hx_puti hx hb hts hC_10 hown hW hT (hx_S.rf (M := [(10, 8)])) (gx.S hM) tt_10 8 (by decide) rfl kw_1151 ⟨rfl, rfl, rfl⟩ rfl (x := x_63) ⟨by omega, by omega⟩ rfl rfl rfl (List.mem_singleton.mpr rfl) dX10_compare_216 (fun H locs h_64 eh_64 hW hT hs => ?_)
          replace f_x_14 := (hs.o (gx.S hM) trivial rfl).1.trans f_x_14
          replace f_x_9 := (hs.o (gx.S hM) trivial rfl).1.trans f_x_9
          replace f_11 := (hs.o (gx.S hM) trivial rfl).1.trans f_11
          replace fw_30 := (hs.o (gx.S hM) trivial rfl).1.trans fw_30
          replace af_qs : h_64.2.1 qs = sf := (funext fun j => (hs.a (gqs.S hM) rfl j).1).trans af_qs
          replace hM := hM.tr (hs.mono (by decide))
          have f_65 : h_64.2.1 x 8 = x_63 := by rw [eh_64]; exact hx_pi_at _ _ _ _
          have hroom := hx_QQ_room hQ (n1 := x_63.toInt) (by omega) (by omega)
          refine lv_aload_n hx hb dX10_compare_219 rfl (lv_at hl 3 rfl) ?_
          refine lv_iload_n hx hb dX10_compare_220 rfl (lv_at hl 4 rfl) ?_
          refine lv_iconst (v := 3) hx hb dX10_compare_221 (by decide) ?_
          refine lv_isub hx hb dX10_compare_222 ?_
          have rg_66 := i32_r i1
          refine lv_topi (fun x_67 ex_67 => ?_)
          have zx_67 : x_67.toInt = i1.toInt - 3 := by rw [ex_67]; exact i32_sub rfl (by decide) (by omega) (by omega)
          refine lv_iload hx hb dX10_compare_223 (lv_at hl 1 rfl) ?_
          refine lv_sipush (v := 10000) hx hb dX10_compare_225 (by decide) ?_
          refine lv_iload hx hb dX10_compare_228 (lv_at hl 0 rfl) ?_
          refine lv_iadd hx hb dX10_compare_230 ?_
          have rg_68 := i32_r r_26
          refine lv_topi (fun x_69 ex_69 => ?_)
          have zx_69 : x_69.toInt = 10000 + r_26.toInt := by rw [ex_69]; exact i32_add (by decide) rfl (by omega) (by omega)
          refine lv_iconst (v := 3) hx hb dX10_compare_231 (by decide) ?_
          refine lv_isub hx hb dX10_compare_232 ?_
          have rg_70 := i32_r x_69
          refine lv_topi (fun x_71 ex_71 => ?_)
          have zx_71 : x_71.toInt = x_69.toInt - 3 := by rw [ex_71]; exact i32_sub rfl (by decide) (by omega) (by omega)
          refine hx_goi (hx_runS (As := [.int x_67, .int jv192_4, .int x_71]) (rest := [.ref x]) ⟨hx, hb, hml, hown, hts⟩ hW (t_X10_compareOf_v l dC dI dA L_32 h_64 H.size x_67 jv192_4 x_71 hT ⟨by omega, by omega⟩ ⟨by omega, by omega⟩ ⟨by omega, by omega⟩) (va_cwS 3 hts (hx_gS kw_1132 kw_1130 kw_1131 kw_103) rfl rfl rfl (by decide +kernel) ⟨Nat.le_of_ble_eq_true rfl, Nat.le_of_ble_eq_true rfl⟩) rfl hl.1 rfl (Nat.le_of_ble_eq_true rfl) dX10_compare_233 ⟨Nat.le_of_ble_eq_true rfl, Nat.le_of_ble_eq_true rfl⟩) hW (fun r_74 L_72 h_73 H locs p_75 hW => ?_)
          obtain ⟨hr_76, hT, hs⟩ := p_75
          replace hT : hx_T T_tb L_72 h_73 := hT
          replace hs : hx_S T_tb [] L_32 h_64 L_72 h_73 := hs
          replace f_x_14 := (hs.o (gx.S hM) trivial rfl).1.trans f_x_14
          replace f_x_9 := (hs.o (gx.S hM) trivial rfl).1.trans f_x_9
          replace f_11 := (hs.o (gx.S hM) trivial rfl).1.trans f_11
          replace fw_30 := (hs.o (gx.S hM) trivial rfl).1.trans fw_30
          replace f_65 := (hs.o (gx.S hM) trivial rfl).1.trans f_65
          replace af_qs : h_73.2.1 qs = sf := (funext fun j => (hs.a (gqs.S hM) rfl j).1).trans af_qs
          replace hM := hM.tr (hs.mono (by decide))
          refine hx_gov (hx_runV (As := [.int r_74]) (rest := []) ⟨hx, hb, hml, hown, hts⟩ hW (gx.S hM) tt_10 (T := TX10) (N := 98) rfl (t_X10_writes l dC dI dA L_72 h_73 H.size x r_74 hT (gx.S hM) qs (gqs.S hM) ((hM.o gx trivial rfl).2.trans f_x_15) sf af_qs st0 f_x_14 (by omega)) (cwV 1 hts (hx_gV kw_1138 kw_1135 kw_1137 kw_50 kw_103) rfl rfl rfl (by decide +kernel) ⟨Nat.le_of_ble_eq_true rfl, Nat.le_of_ble_eq_true rfl⟩) rfl hl.1 rfl (Nat.le_of_ble_eq_true rfl) dX10_compare_236 ⟨Nat.le_of_ble_eq_true rfl, Nat.le_of_ble_eq_true rfl⟩) hW (fun L_77 h_78 H locs p_80 hW => ?_)
          obtain ⟨⟨w_82, w_83, fw_82, fw_83, hr_81⟩, hT, hs⟩ := p_80
          replace hT : hx_T T_tb L_77 h_78 := hT
          replace hs : hx_S T_tb [(10, 14), (55, 0)] L_72 h_73 L_77 h_78 := hs
          replace f_x_9 := (hs.o (gx.S hM) trivial rfl).1.trans f_x_9
          replace f_11 := (hs.o (gx.S hM) trivial rfl).1.trans f_11
          replace fw_30 := (hs.o (gx.S hM) trivial rfl).1.trans fw_30
          replace f_65 := (hs.o (gx.S hM) trivial rfl).1.trans f_65
          replace hM := hM.tr (hs.mono (by decide))
          have fw_82 : h_78.2.1 x 14 = w_82 := fw_82
          have bw_82 := hT.gi (gx.S hM) tt_10 (k := 14) rfl
          rw [fw_82] at bw_82
          have bw_82 : 0 ≤ w_82.toInt ∧ w_82.toInt ≤ 128 := bw_82
          have fw_83 : h_78.2.1 qs = w_83 := fw_83
          refine lv_iconst (v := 1) hx hb dX10_compare_239 (by decide) ?_
          exact hx_retz hx hb hr rfl hlk hW ⟨⟨x_9, x_63, w_82, ft0, w_83, f_11, f_65, fw_82, f_x_9, fw_83, ⟨by decide, by omega, (fun _ => hx_QQ_cmp hQ (by omega) (by omega) (by omega) hr_76.1 (hx_cl (by omega)) (by omega) hr_81.1 hr_81.2), (hv_K_t (x := x_63.toInt.toNat) (y := cp0.toInt.toNat + 1) (o := (hv_wd tf tp0.toInt.toNat nx0.toInt.toNat - 2, (hv_sg tf tp0.toInt.toNat (hv_sk tf tp0.toInt.toNat (hv_we tf tp0.toInt.toNat nx0.toInt.toNat))).1, 10000 + (hv_wd tf tp0.toInt.toNat w_29.toInt.toNat - 3)) :: o) (by decide) (by omega) (by omega) (by omega) (hv_ls_u hO (by unfold hv_rc; dsimp only; rw [if_neg (by omega)]; omega) (by omega) hr_81.2) (ht9.trans ((hv_rt_2 (by omega)).trans (by rw [show hv_we tf tp0.toInt.toNat w_29.toInt.toNat = x_63.toInt.toNat by omega])))), (fun _ => ⟨by omega, by omega⟩)⟩⟩, hT, hM⟩ dX10_compare_240
      refine lv_iload_n hx hb dX10_compare_64 rfl (lv_at hl 0 rfl) ?_
      refine lv_bipush (v := 60) hx hb dX10_compare_65 (by decide) ?_
      refine hb_icmp_eq (zx := r_19.toInt) (zy := 60) (tgt := 92) hx hb rfl (by decide) dX10_compare_67 (by decide) (fun c_84 => ?_) (fun c_84 => ?_)
      · skip
        refine lv_aload_n hx hb dX10_compare_92 rfl (lv_at hl 1 rfl) ?_
        refine lv_dup hx hb dX10_compare_93 rfl ?_
        refine hk_geti hx hb hts hC_10 hown hW (gx.S hM) tt_10 8 (by decide) rfl kw_1151 ⟨rfl, rfl, rfl⟩ fw_22 dX10_compare_94 ?_
        refine lv_iconst (v := 1) hx hb dX10_compare_97 (by decide) ?_
        refine lv_iadd hx hb dX10_compare_98 ?_
        have rg_85 := i32_r w_22
        refine lv_topi (fun x_86 ex_86 => ?_)
        have zx_86 : x_86.toInt = w_22.toInt + 1 := by rw [ex_86]; exact i32_add rfl (by decide) (by omega) (by omega)
        refine hx_puti hx hb hts hC_10 hown hW hT (hx_S.rf (M := [(10, 8)])) (gx.S hM) tt_10 8 (by decide) rfl kw_1151 ⟨rfl, rfl, rfl⟩ rfl (x := x_86) ⟨by omega, by omega⟩ rfl rfl rfl (List.mem_singleton.mpr rfl) dX10_compare_99 (fun H locs h_87 eh_87 hW hT hs => ?_)
        replace f_x_14 := (hs.o (gx.S hM) trivial rfl).1.trans f_x_14
        replace f_x_11 := (hs.o (gx.S hM) trivial rfl).1.trans f_x_11
        replace f_x_9 := (hs.o (gx.S hM) trivial rfl).1.trans f_x_9
        replace f_11 := (hs.o (gx.S hM) trivial rfl).1.trans f_11
        replace af_qs : h_87.2.1 qs = sf := (funext fun j => (hs.a (gqs.S hM) rfl j).1).trans af_qs
        replace hM := hM.tr (hs.mono (by decide))
        have f_88 : h_87.2.1 x 8 = x_86 := by rw [eh_87]; exact hx_pi_at _ _ _ _
        have hse9 := hv_SE_s hr_21S (by omega)
        refine lv_iload_n hx hb dX10_compare_102 rfl (lv_at hl 0 rfl) ?_
        refine lv_bipush (v := 61) hx hb dX10_compare_103 (by decide) ?_
        refine hb_icmp_eq (zx := r_19.toInt) (zy := 61) (tgt := 137) hx hb rfl (by decide) dX10_compare_105 (by decide) (fun c_89 => by exfalso; omega) (fun c_89 => ?_)
        refine lv_aload_n hx hb dX10_compare_108 rfl (lv_at hl 1 rfl) ?_
        refine hk_geti hx hb hts hC_10 hown hW (gx.S hM) tt_10 8 (by decide) rfl kw_1151 ⟨rfl, rfl, rfl⟩ f_88 dX10_compare_109 ?_
        refine lv_aload_n hx hb dX10_compare_112 rfl (lv_at hl 1 rfl) ?_
        refine hk_geti hx hb hts hC_10 hown hW (gx.S hM) tt_10 7 (by decide) rfl kw_1150 ⟨rfl, rfl, rfl⟩ ((hM.o gx trivial rfl).1.trans f_x_7) dX10_compare_113 ?_
        refine hb_icmp_ge (zx := x_86.toInt) (zy := tp0.toInt) (tgt := 137) hx hb rfl rfl dX10_compare_116 (by decide) (fun c_90 => ?_) (fun c_90 => ?_)
        · skip
          refine lv_iconst (v := 0) hx hb dX10_compare_137 (by decide) ?_
          refine lv_istore_n (lv' := [(3, .int (0 : Int32)), (2, .int r_19), (0, .ref x), (1, .int i1)]) hx hb dX10_compare_138 rfl hl (by decide) rfl (fun ls hl => ?_)
          refine lv_iload_n hx hb dX10_compare_139 rfl (lv_at hl 0 rfl) ?_
          refine hb_if_eq (zx := 0) (tgt := 153) hx hb (by decide) dX10_compare_140 (by decide) (fun c_91 => ?_) (fun c_91 => absurd c_91 (by decide))
          refine lv_iload_n hx hb dX10_compare_153 rfl (lv_at hl 1 rfl) ?_
          refine lv_bipush (v := 60) hx hb dX10_compare_154 (by decide) ?_
          refine hb_icmp_ne (zx := r_19.toInt) (zy := 60) (tgt := 171) hx hb rfl (by decide) dX10_compare_156 (by decide) (fun c_92 => by exfalso; omega) (fun c_92 => ?_)
          refine lv_iload_n hx hb dX10_compare_159 rfl (lv_at hl 0 rfl) ?_
          refine hb_if_eq (zx := 0) (tgt := 167) hx hb (by decide) dX10_compare_160 (by decide) (fun c_93 => ?_) (fun c_93 => absurd c_93 (by decide))
          refine lv_iconst (v := 0) hx hb dX10_compare_167 (by decide) ?_
          refine lv_goto (tgt := 190) hx hb dX10_compare_168 (by decide) ?_
          refine lv_istore (lv' := [(4, .int (0 : Int32)), (3, .int (0 : Int32)), (2, .int r_19), (0, .ref x), (1, .int i1)]) hx hb dX10_compare_190 hl (by decide) rfl (fun ls hl => ?_)
          have zk_0 : (0 : Int32).toInt = 0 := by decide
          exact join192 (0 : Int32) x_86 _ _ L_17 h_87 (by decide) (by decide) (by omega) (by omega) (by have hsq : hv_sk tf tp0.toInt.toNat (hv_we tf tp0.toInt.toNat nx0.toInt.toNat) = w_22.toInt.toNat := (by rw [← ha1]; exact ek_23.symm); rw [hsq, show hv_sg tf tp0.toInt.toNat w_22.toInt.toNat = (0, 1) from hv_sg_1 (by have h8 := hv_SE_y (k := 60) hr_21S (by decide) (by decide) (by omega); exact h8) (fun z9 => by have h8 : (tf x_86.toNatClampNeg).toInt = 61 := z9.2; omega) (by omega) (by omega)]; refine ⟨by decide, by decide, ?_⟩; show _ = w_22.toInt.toNat + 1; omega) (by omega) (by omega) ls hW hT hM f_88 f_x_14 f_x_11 f_x_9 f_11 af_qs (lv_sub hl [0, 2, 3, 4] rfl)
        · skip
          refine lv_aload_n hx hb dX10_compare_119 rfl (lv_at hl 1 rfl) ?_
          refine hk_getr hx hb hts hC_10 hown hW (gx.S hM) tt_10 6 (by decide) rfl kw_1149 ⟨rfl, rfl, rfl⟩ ((hM.o gx trivial rfl).2.trans f_x_6) dX10_compare_120 ?_
          refine lv_aload_n hx hb dX10_compare_123 rfl (lv_at hl 1 rfl) ?_
          refine hk_geti hx hb hts hC_10 hown hW (gx.S hM) tt_10 8 (by decide) rfl kw_1151 ⟨rfl, rfl, rfl⟩ f_88 dX10_compare_124 ?_
          refine hx_bald hx hb hW hT (gqt.S hM) tt_53 rfl ⟨by omega, by omega⟩ dX10_compare_127 (fun x_94 ex_94 lx_94 ux_94 => ?_)
          have ax_94 : x_94 = tf x_86.toNatClampNeg := ex_94.trans (congrFun (hx_afS hM gqt rfl af_qt) _)
          refine lv_bipush (v := 61) hx hb dX10_compare_128 (by decide) ?_
          refine hb_icmp_ne (zx := x_94.toInt) (zy := 61) (tgt := 137) hx hb rfl (by decide) dX10_compare_130 (by decide) (fun c_95 => ?_) (fun c_95 => ?_)
          · skip
            refine lv_iconst (v := 0) hx hb dX10_compare_137 (by decide) ?_
            refine lv_istore_n (lv' := [(3, .int (0 : Int32)), (2, .int r_19), (0, .ref x), (1, .int i1)]) hx hb dX10_compare_138 rfl hl (by decide) rfl (fun ls hl => ?_)
            refine lv_iload_n hx hb dX10_compare_139 rfl (lv_at hl 0 rfl) ?_
            refine hb_if_eq (zx := 0) (tgt := 153) hx hb (by decide) dX10_compare_140 (by decide) (fun c_96 => ?_) (fun c_96 => absurd c_96 (by decide))
            refine lv_iload_n hx hb dX10_compare_153 rfl (lv_at hl 1 rfl) ?_
            refine lv_bipush (v := 60) hx hb dX10_compare_154 (by decide) ?_
            refine hb_icmp_ne (zx := r_19.toInt) (zy := 60) (tgt := 171) hx hb rfl (by decide) dX10_compare_156 (by decide) (fun c_97 => by exfalso; omega) (fun c_97 => ?_)
            refine lv_iload_n hx hb dX10_compare_159 rfl (lv_at hl 0 rfl) ?_
            refine hb_if_eq (zx := 0) (tgt := 167) hx hb (by decide) dX10_compare_160 (by decide) (fun c_98 => ?_) (fun c_98 => absurd c_98 (by decide))
            refine lv_iconst (v := 0) hx hb dX10_compare_167 (by decide) ?_
            refine lv_goto (tgt := 190) hx hb dX10_compare_168 (by decide) ?_
            refine lv_istore (lv' := [(4, .int (0 : Int32)), (3, .int (0 : Int32)), (2, .int r_19), (0, .ref x), (1, .int i1)]) hx hb dX10_compare_190 hl (by decide) rfl (fun ls hl => ?_)
            have zk_0 : (0 : Int32).toInt = 0 := by decide
            exact join192 (0 : Int32) x_86 _ _ L_17 h_87 (by decide) (by decide) (by omega) (by omega) (by have hsq : hv_sk tf tp0.toInt.toNat (hv_we tf tp0.toInt.toNat nx0.toInt.toNat) = w_22.toInt.toNat := (by rw [← ha1]; exact ek_23.symm); rw [hsq, show hv_sg tf tp0.toInt.toNat w_22.toInt.toNat = (0, 1) from hv_sg_1 (by have h8 := hv_SE_y (k := 60) hr_21S (by decide) (by decide) (by omega); exact h8) (fun z9 => by have h8 : (tf x_86.toNatClampNeg).toInt = 61 := z9.2; rw [← ax_94] at h8; omega) (by omega) (by omega)]; refine ⟨by decide, by decide, ?_⟩; show _ = w_22.toInt.toNat + 1; omega) (by omega) (by omega) ls hW hT hM f_88 f_x_14 f_x_11 f_x_9 f_11 af_qs (lv_sub hl [0, 2, 3, 4] rfl)
          · skip
            refine lv_iconst (v := 1) hx hb dX10_compare_133 (by decide) ?_
            refine lv_goto (tgt := 138) hx hb dX10_compare_134 (by decide) ?_
            refine lv_istore_n (lv' := [(3, .int (1 : Int32)), (2, .int r_19), (0, .ref x), (1, .int i1)]) hx hb dX10_compare_138 rfl hl (by decide) rfl (fun ls hl => ?_)
            refine lv_iload_n hx hb dX10_compare_139 rfl (lv_at hl 0 rfl) ?_
            refine hb_if_eq (zx := 1) (tgt := 153) hx hb (by decide) dX10_compare_140 (by decide) (fun c_99 => absurd c_99 (by decide)) (fun c_99 => ?_)
            refine lv_aload_n hx hb dX10_compare_143 rfl (lv_at hl 2 rfl) ?_
            refine lv_dup hx hb dX10_compare_144 rfl ?_
            refine hk_geti hx hb hts hC_10 hown hW (gx.S hM) tt_10 8 (by decide) rfl kw_1151 ⟨rfl, rfl, rfl⟩ f_88 dX10_compare_145 ?_
            refine lv_iconst (v := 1) hx hb dX10_compare_148 (by decide) ?_
            refine lv_iadd hx hb dX10_compare_149 ?_
            have rg_100 := i32_r x_86
            refine lv_topi (fun x_101 ex_101 => ?_)
            have zx_101 : x_101.toInt = x_86.toInt + 1 := by rw [ex_101]; exact i32_add rfl (by decide) (by omega) (by omega)
            refine hx_puti hx hb hts hC_10 hown hW hT (hx_S.rf (M := [(10, 8)])) (gx.S hM) tt_10 8 (by decide) rfl kw_1151 ⟨rfl, rfl, rfl⟩ rfl (x := x_101) ⟨by omega, by omega⟩ rfl rfl rfl (List.mem_singleton.mpr rfl) dX10_compare_150 (fun H locs h_102 eh_102 hW hT hs => ?_)
            replace f_x_14 := (hs.o (gx.S hM) trivial rfl).1.trans f_x_14
            replace f_x_11 := (hs.o (gx.S hM) trivial rfl).1.trans f_x_11
            replace f_x_9 := (hs.o (gx.S hM) trivial rfl).1.trans f_x_9
            replace f_11 := (hs.o (gx.S hM) trivial rfl).1.trans f_11
            replace af_qs : h_102.2.1 qs = sf := (funext fun j => (hs.a (gqs.S hM) rfl j).1).trans af_qs
            replace ex_94 := ex_94.trans (hs.a (gqt.S hM) rfl _).1.symm
            replace hM := hM.tr (hs.mono (by decide))
            have f_103 : h_102.2.1 x 8 = x_101 := by rw [eh_102]; exact hx_pi_at _ _ _ _
            refine lv_iload_n hx hb dX10_compare_153 rfl (lv_at hl 1 rfl) ?_
            refine lv_bipush (v := 60) hx hb dX10_compare_154 (by decide) ?_
            refine hb_icmp_ne (zx := r_19.toInt) (zy := 60) (tgt := 171) hx hb rfl (by decide) dX10_compare_156 (by decide) (fun c_104 => by exfalso; omega) (fun c_104 => ?_)
            refine lv_iload_n hx hb dX10_compare_159 rfl (lv_at hl 0 rfl) ?_
            refine hb_if_eq (zx := 1) (tgt := 167) hx hb (by decide) dX10_compare_160 (by decide) (fun c_105 => absurd c_105 (by decide)) (fun c_105 => ?_)
            refine lv_iconst (v := 1) hx hb dX10_compare_163 (by decide) ?_
            refine lv_goto (tgt := 190) hx hb dX10_compare_164 (by decide) ?_
            refine lv_istore (lv' := [(4, .int (1 : Int32)), (3, .int (1 : Int32)), (2, .int r_19), (0, .ref x), (1, .int i1)]) hx hb dX10_compare_190 hl (by decide) rfl (fun ls hl => ?_)
            have zk_1 : (1 : Int32).toInt = 1 := by decide
            exact join192 (1 : Int32) x_101 _ _ L_17 h_102 (by decide) (by decide) (by omega) (by omega) (by have hsq : hv_sk tf tp0.toInt.toNat (hv_we tf tp0.toInt.toNat nx0.toInt.toNat) = w_22.toInt.toNat := (by rw [← ha1]; exact ek_23.symm); rw [hsq, show hv_sg tf tp0.toInt.toNat w_22.toInt.toNat = (1, 2) from hv_sg_3 (by have h8 := hv_SE_y (k := 60) hr_21S (by decide) (by decide) (by omega); exact h8) ⟨by omega, (by show (tf x_86.toNatClampNeg).toInt = 61; rw [← ax_94]; omega)⟩ (by omega) (by omega)]; refine ⟨by decide, by decide, ?_⟩; show _ = w_22.toInt.toNat + 2; omega) (by omega) (by omega) ls hW hT hM f_103 f_x_14 f_x_11 f_x_9 f_11 af_qs (lv_sub hl [0, 2, 3, 4] rfl)
      · skip
        refine lv_iload_n hx hb dX10_compare_70 rfl (lv_at hl 0 rfl) ?_
        refine lv_bipush (v := 61) hx hb dX10_compare_71 (by decide) ?_
        refine hb_icmp_eq (zx := r_19.toInt) (zy := 61) (tgt := 92) hx hb rfl (by decide) dX10_compare_73 (by decide) (fun c_106 => ?_) (fun c_106 => ?_)
        · skip
          refine lv_aload_n hx hb dX10_compare_92 rfl (lv_at hl 1 rfl) ?_
          refine lv_dup hx hb dX10_compare_93 rfl ?_
          refine hk_geti hx hb hts hC_10 hown hW (gx.S hM) tt_10 8 (by decide) rfl kw_1151 ⟨rfl, rfl, rfl⟩ fw_22 dX10_compare_94 ?_
          refine lv_iconst (v := 1) hx hb dX10_compare_97 (by decide) ?_
          refine lv_iadd hx hb dX10_compare_98 ?_
          have rg_107 := i32_r w_22
          refine lv_topi (fun x_108 ex_108 => ?_)
          have zx_108 : x_108.toInt = w_22.toInt + 1 := by rw [ex_108]; exact i32_add rfl (by decide) (by omega) (by omega)
          refine hx_puti hx hb hts hC_10 hown hW hT (hx_S.rf (M := [(10, 8)])) (gx.S hM) tt_10 8 (by decide) rfl kw_1151 ⟨rfl, rfl, rfl⟩ rfl (x := x_108) ⟨by omega, by omega⟩ rfl rfl rfl (List.mem_singleton.mpr rfl) dX10_compare_99 (fun H locs h_109 eh_109 hW hT hs => ?_)
          replace f_x_14 := (hs.o (gx.S hM) trivial rfl).1.trans f_x_14
          replace f_x_11 := (hs.o (gx.S hM) trivial rfl).1.trans f_x_11
          replace f_x_9 := (hs.o (gx.S hM) trivial rfl).1.trans f_x_9
          replace f_11 := (hs.o (gx.S hM) trivial rfl).1.trans f_11
          replace af_qs : h_109.2.1 qs = sf := (funext fun j => (hs.a (gqs.S hM) rfl j).1).trans af_qs
          replace hM := hM.tr (hs.mono (by decide))
          have f_110 : h_109.2.1 x 8 = x_108 := by rw [eh_109]; exact hx_pi_at _ _ _ _
          have hse9 := hv_SE_s hr_21S (by omega)
          refine lv_iload_n hx hb dX10_compare_102 rfl (lv_at hl 0 rfl) ?_
          refine lv_bipush (v := 61) hx hb dX10_compare_103 (by decide) ?_
          refine hb_icmp_eq (zx := r_19.toInt) (zy := 61) (tgt := 137) hx hb rfl (by decide) dX10_compare_105 (by decide) (fun c_111 => ?_) (fun c_111 => by exfalso; omega)
          refine lv_iconst (v := 0) hx hb dX10_compare_137 (by decide) ?_
          refine lv_istore_n (lv' := [(3, .int (0 : Int32)), (2, .int r_19), (0, .ref x), (1, .int i1)]) hx hb dX10_compare_138 rfl hl (by decide) rfl (fun ls hl => ?_)
          refine lv_iload_n hx hb dX10_compare_139 rfl (lv_at hl 0 rfl) ?_
          refine hb_if_eq (zx := 0) (tgt := 153) hx hb (by decide) dX10_compare_140 (by decide) (fun c_112 => ?_) (fun c_112 => absurd c_112 (by decide))
          refine lv_iload_n hx hb dX10_compare_153 rfl (lv_at hl 1 rfl) ?_
          refine lv_bipush (v := 60) hx hb dX10_compare_154 (by decide) ?_
          refine hb_icmp_ne (zx := r_19.toInt) (zy := 60) (tgt := 171) hx hb rfl (by decide) dX10_compare_156 (by decide) (fun c_113 => ?_) (fun c_113 => by exfalso; omega)
          refine lv_iload_n hx hb dX10_compare_171 rfl (lv_at hl 1 rfl) ?_
          refine lv_bipush (v := 61) hx hb dX10_compare_172 (by decide) ?_
          refine hb_icmp_ne (zx := r_19.toInt) (zy := 61) (tgt := 181) hx hb rfl (by decide) dX10_compare_174 (by decide) (fun c_114 => by exfalso; omega) (fun c_114 => ?_)
          refine lv_iconst (v := 2) hx hb dX10_compare_177 (by decide) ?_
          refine lv_goto (tgt := 190) hx hb dX10_compare_178 (by decide) ?_
          refine lv_istore (lv' := [(4, .int (2 : Int32)), (3, .int (0 : Int32)), (2, .int r_19), (0, .ref x), (1, .int i1)]) hx hb dX10_compare_190 hl (by decide) rfl (fun ls hl => ?_)
          have zk_2 : (2 : Int32).toInt = 2 := by decide
          exact join192 (2 : Int32) x_108 _ _ L_17 h_109 (by decide) (by decide) (by omega) (by omega) (by have hsq : hv_sk tf tp0.toInt.toNat (hv_we tf tp0.toInt.toNat nx0.toInt.toNat) = w_22.toInt.toNat := (by rw [← ha1]; exact ek_23.symm); rw [hsq, show hv_sg tf tp0.toInt.toNat w_22.toInt.toNat = (2, 1) from hv_sg_2 (by have h8 := hv_SE_y (k := 61) hr_21S (by decide) (by decide) (by omega); exact h8) (by omega)]; refine ⟨by decide, by decide, ?_⟩; show _ = w_22.toInt.toNat + 1; omega) (by omega) (by omega) ls hW hT hM f_110 f_x_14 f_x_11 f_x_9 f_11 af_qs (lv_sub hl [0, 2, 3, 4] rfl)
        · skip
          refine lv_iload_n hx hb dX10_compare_76 rfl (lv_at hl 0 rfl) ?_
          refine lv_bipush (v := 62) hx hb dX10_compare_77 (by decide) ?_
          refine hb_icmp_eq (zx := r_19.toInt) (zy := 62) (tgt := 92) hx hb rfl (by decide) dX10_compare_79 (by decide) (fun c_115 => ?_) (fun c_115 => ?_)
          · skip
            refine lv_aload_n hx hb dX10_compare_92 rfl (lv_at hl 1 rfl) ?_
            refine lv_dup hx hb dX10_compare_93 rfl ?_
            refine hk_geti hx hb hts hC_10 hown hW (gx.S hM) tt_10 8 (by decide) rfl kw_1151 ⟨rfl, rfl, rfl⟩ fw_22 dX10_compare_94 ?_
            refine lv_iconst (v := 1) hx hb dX10_compare_97 (by decide) ?_
            refine lv_iadd hx hb dX10_compare_98 ?_
            have rg_116 := i32_r w_22
            refine lv_topi (fun x_117 ex_117 => ?_)
            have zx_117 : x_117.toInt = w_22.toInt + 1 := by rw [ex_117]; exact i32_add rfl (by decide) (by omega) (by omega)
            refine hx_puti hx hb hts hC_10 hown hW hT (hx_S.rf (M := [(10, 8)])) (gx.S hM) tt_10 8 (by decide) rfl kw_1151 ⟨rfl, rfl, rfl⟩ rfl (x := x_117) ⟨by omega, by omega⟩ rfl rfl rfl (List.mem_singleton.mpr rfl) dX10_compare_99 (fun H locs h_118 eh_118 hW hT hs => ?_)
            replace f_x_14 := (hs.o (gx.S hM) trivial rfl).1.trans f_x_14
            replace f_x_11 := (hs.o (gx.S hM) trivial rfl).1.trans f_x_11
            replace f_x_9 := (hs.o (gx.S hM) trivial rfl).1.trans f_x_9
            replace f_11 := (hs.o (gx.S hM) trivial rfl).1.trans f_11
            replace af_qs : h_118.2.1 qs = sf := (funext fun j => (hs.a (gqs.S hM) rfl j).1).trans af_qs
            replace hM := hM.tr (hs.mono (by decide))
            have f_119 : h_118.2.1 x 8 = x_117 := by rw [eh_118]; exact hx_pi_at _ _ _ _
            have hse9 := hv_SE_s hr_21S (by omega)
            refine lv_iload_n hx hb dX10_compare_102 rfl (lv_at hl 0 rfl) ?_
            refine lv_bipush (v := 61) hx hb dX10_compare_103 (by decide) ?_
            refine hb_icmp_eq (zx := r_19.toInt) (zy := 61) (tgt := 137) hx hb rfl (by decide) dX10_compare_105 (by decide) (fun c_120 => by exfalso; omega) (fun c_120 => ?_)
            refine lv_aload_n hx hb dX10_compare_108 rfl (lv_at hl 1 rfl) ?_
            refine hk_geti hx hb hts hC_10 hown hW (gx.S hM) tt_10 8 (by decide) rfl kw_1151 ⟨rfl, rfl, rfl⟩ f_119 dX10_compare_109 ?_
            refine lv_aload_n hx hb dX10_compare_112 rfl (lv_at hl 1 rfl) ?_
            refine hk_geti hx hb hts hC_10 hown hW (gx.S hM) tt_10 7 (by decide) rfl kw_1150 ⟨rfl, rfl, rfl⟩ ((hM.o gx trivial rfl).1.trans f_x_7) dX10_compare_113 ?_
            refine hb_icmp_ge (zx := x_117.toInt) (zy := tp0.toInt) (tgt := 137) hx hb rfl rfl dX10_compare_116 (by decide) (fun c_121 => ?_) (fun c_121 => ?_)
            · skip
              refine lv_iconst (v := 0) hx hb dX10_compare_137 (by decide) ?_
              refine lv_istore_n (lv' := [(3, .int (0 : Int32)), (2, .int r_19), (0, .ref x), (1, .int i1)]) hx hb dX10_compare_138 rfl hl (by decide) rfl (fun ls hl => ?_)
              refine lv_iload_n hx hb dX10_compare_139 rfl (lv_at hl 0 rfl) ?_
              refine hb_if_eq (zx := 0) (tgt := 153) hx hb (by decide) dX10_compare_140 (by decide) (fun c_122 => ?_) (fun c_122 => absurd c_122 (by decide))
              refine lv_iload_n hx hb dX10_compare_153 rfl (lv_at hl 1 rfl) ?_
              refine lv_bipush (v := 60) hx hb dX10_compare_154 (by decide) ?_
              refine hb_icmp_ne (zx := r_19.toInt) (zy := 60) (tgt := 171) hx hb rfl (by decide) dX10_compare_156 (by decide) (fun c_123 => ?_) (fun c_123 => by exfalso; omega)
              refine lv_iload_n hx hb dX10_compare_171 rfl (lv_at hl 1 rfl) ?_
              refine lv_bipush (v := 61) hx hb dX10_compare_172 (by decide) ?_
              refine hb_icmp_ne (zx := r_19.toInt) (zy := 61) (tgt := 181) hx hb rfl (by decide) dX10_compare_174 (by decide) (fun c_124 => ?_) (fun c_124 => by exfalso; omega)
              refine lv_iload_n hx hb dX10_compare_181 rfl (lv_at hl 0 rfl) ?_
              refine hb_if_eq (zx := 0) (tgt := 189) hx hb (by decide) dX10_compare_182 (by decide) (fun c_125 => ?_) (fun c_125 => absurd c_125 (by decide))
              refine lv_iconst (v := 4) hx hb dX10_compare_189 (by decide) ?_
              refine lv_istore (lv' := [(4, .int (4 : Int32)), (3, .int (0 : Int32)), (2, .int r_19), (0, .ref x), (1, .int i1)]) hx hb dX10_compare_190 hl (by decide) rfl (fun ls hl => ?_)
              have zk_4 : (4 : Int32).toInt = 4 := by decide
              exact join192 (4 : Int32) x_117 _ _ L_17 h_118 (by decide) (by decide) (by omega) (by omega) (by have hsq : hv_sk tf tp0.toInt.toNat (hv_we tf tp0.toInt.toNat nx0.toInt.toNat) = w_22.toInt.toNat := (by rw [← ha1]; exact ek_23.symm); rw [hsq, show hv_sg tf tp0.toInt.toNat w_22.toInt.toNat = (4, 1) from hv_sg_4 (by have h8 := hv_SE_y (k := 62) hr_21S (by decide) (by decide) (by omega); exact h8) (fun z9 => by have h8 : (tf x_117.toNatClampNeg).toInt = 61 := z9.2; omega) (by omega) (by omega)]; refine ⟨by decide, by decide, ?_⟩; show _ = w_22.toInt.toNat + 1; omega) (by omega) (by omega) ls hW hT hM f_119 f_x_14 f_x_11 f_x_9 f_11 af_qs (lv_sub hl [0, 2, 3, 4] rfl)
            · skip
              refine lv_aload_n hx hb dX10_compare_119 rfl (lv_at hl 1 rfl) ?_
              refine hk_getr hx hb hts hC_10 hown hW (gx.S hM) tt_10 6 (by decide) rfl kw_1149 ⟨rfl, rfl, rfl⟩ ((hM.o gx trivial rfl).2.trans f_x_6) dX10_compare_120 ?_
              refine lv_aload_n hx hb dX10_compare_123 rfl (lv_at hl 1 rfl) ?_
              refine hk_geti hx hb hts hC_10 hown hW (gx.S hM) tt_10 8 (by decide) rfl kw_1151 ⟨rfl, rfl, rfl⟩ f_119 dX10_compare_124 ?_
              refine hx_bald hx hb hW hT (gqt.S hM) tt_53 rfl ⟨by omega, by omega⟩ dX10_compare_127 (fun x_126 ex_126 lx_126 ux_126 => ?_)
              have ax_126 : x_126 = tf x_117.toNatClampNeg := ex_126.trans (congrFun (hx_afS hM gqt rfl af_qt) _)
              refine lv_bipush (v := 61) hx hb dX10_compare_128 (by decide) ?_
              refine hb_icmp_ne (zx := x_126.toInt) (zy := 61) (tgt := 137) hx hb rfl (by decide) dX10_compare_130 (by decide) (fun c_127 => ?_) (fun c_127 => ?_)
              · skip
                refine lv_iconst (v := 0) hx hb dX10_compare_137 (by decide) ?_
                refine lv_istore_n (lv' := [(3, .int (0 : Int32)), (2, .int r_19), (0, .ref x), (1, .int i1)]) hx hb dX10_compare_138 rfl hl (by decide) rfl (fun ls hl => ?_)
                refine lv_iload_n hx hb dX10_compare_139 rfl (lv_at hl 0 rfl) ?_
                refine hb_if_eq (zx := 0) (tgt := 153) hx hb (by decide) dX10_compare_140 (by decide) (fun c_128 => ?_) (fun c_128 => absurd c_128 (by decide))
                refine lv_iload_n hx hb dX10_compare_153 rfl (lv_at hl 1 rfl) ?_
                refine lv_bipush (v := 60) hx hb dX10_compare_154 (by decide) ?_
                refine hb_icmp_ne (zx := r_19.toInt) (zy := 60) (tgt := 171) hx hb rfl (by decide) dX10_compare_156 (by decide) (fun c_129 => ?_) (fun c_129 => by exfalso; omega)
                refine lv_iload_n hx hb dX10_compare_171 rfl (lv_at hl 1 rfl) ?_
                refine lv_bipush (v := 61) hx hb dX10_compare_172 (by decide) ?_
                refine hb_icmp_ne (zx := r_19.toInt) (zy := 61) (tgt := 181) hx hb rfl (by decide) dX10_compare_174 (by decide) (fun c_130 => ?_) (fun c_130 => by exfalso; omega)
                refine lv_iload_n hx hb dX10_compare_181 rfl (lv_at hl 0 rfl) ?_
                refine hb_if_eq (zx := 0) (tgt := 189) hx hb (by decide) dX10_compare_182 (by decide) (fun c_131 => ?_) (fun c_131 => absurd c_131 (by decide))
                refine lv_iconst (v := 4) hx hb dX10_compare_189 (by decide) ?_
                refine lv_istore (lv' := [(4, .int (4 : Int32)), (3, .int (0 : Int32)), (2, .int r_19), (0, .ref x), (1, .int i1)]) hx hb dX10_compare_190 hl (by decide) rfl (fun ls hl => ?_)
                have zk_4 : (4 : Int32).toInt = 4 := by decide
                exact join192 (4 : Int32) x_117 _ _ L_17 h_118 (by decide) (by decide) (by omega) (by omega) (by have hsq : hv_sk tf tp0.toInt.toNat (hv_we tf tp0.toInt.toNat nx0.toInt.toNat) = w_22.toInt.toNat := (by rw [← ha1]; exact ek_23.symm); rw [hsq, show hv_sg tf tp0.toInt.toNat w_22.toInt.toNat = (4, 1) from hv_sg_4 (by have h8 := hv_SE_y (k := 62) hr_21S (by decide) (by decide) (by omega); exact h8) (fun z9 => by have h8 : (tf x_117.toNatClampNeg).toInt = 61 := z9.2; rw [← ax_126] at h8; omega) (by omega) (by omega)]; refine ⟨by decide, by decide, ?_⟩; show _ = w_22.toInt.toNat + 1; omega) (by omega) (by omega) ls hW hT hM f_119 f_x_14 f_x_11 f_x_9 f_11 af_qs (lv_sub hl [0, 2, 3, 4] rfl)
              · skip
                refine lv_iconst (v := 1) hx hb dX10_compare_133 (by decide) ?_
                refine lv_goto (tgt := 138) hx hb dX10_compare_134 (by decide) ?_
                refine lv_istore_n (lv' := [(3, .int (1 : Int32)), (2, .int r_19), (0, .ref x), (1, .int i1)]) hx hb dX10_compare_138 rfl hl (by decide) rfl (fun ls hl => ?_)
                refine lv_iload_n hx hb dX10_compare_139 rfl (lv_at hl 0 rfl) ?_
                refine hb_if_eq (zx := 1) (tgt := 153) hx hb (by decide) dX10_compare_140 (by decide) (fun c_132 => absurd c_132 (by decide)) (fun c_132 => ?_)
                refine lv_aload_n hx hb dX10_compare_143 rfl (lv_at hl 2 rfl) ?_
                refine lv_dup hx hb dX10_compare_144 rfl ?_
                refine hk_geti hx hb hts hC_10 hown hW (gx.S hM) tt_10 8 (by decide) rfl kw_1151 ⟨rfl, rfl, rfl⟩ f_119 dX10_compare_145 ?_
                refine lv_iconst (v := 1) hx hb dX10_compare_148 (by decide) ?_
                refine lv_iadd hx hb dX10_compare_149 ?_
                have rg_133 := i32_r x_117
                refine lv_topi (fun x_134 ex_134 => ?_)
                have zx_134 : x_134.toInt = x_117.toInt + 1 := by rw [ex_134]; exact i32_add rfl (by decide) (by omega) (by omega)
                refine hx_puti hx hb hts hC_10 hown hW hT (hx_S.rf (M := [(10, 8)])) (gx.S hM) tt_10 8 (by decide) rfl kw_1151 ⟨rfl, rfl, rfl⟩ rfl (x := x_134) ⟨by omega, by omega⟩ rfl rfl rfl (List.mem_singleton.mpr rfl) dX10_compare_150 (fun H locs h_135 eh_135 hW hT hs => ?_)
                replace f_x_14 := (hs.o (gx.S hM) trivial rfl).1.trans f_x_14
                replace f_x_11 := (hs.o (gx.S hM) trivial rfl).1.trans f_x_11
                replace f_x_9 := (hs.o (gx.S hM) trivial rfl).1.trans f_x_9
                replace f_11 := (hs.o (gx.S hM) trivial rfl).1.trans f_11
                replace af_qs : h_135.2.1 qs = sf := (funext fun j => (hs.a (gqs.S hM) rfl j).1).trans af_qs
                replace ex_126 := ex_126.trans (hs.a (gqt.S hM) rfl _).1.symm
                replace hM := hM.tr (hs.mono (by decide))
                have f_136 : h_135.2.1 x 8 = x_134 := by rw [eh_135]; exact hx_pi_at _ _ _ _
                refine lv_iload_n hx hb dX10_compare_153 rfl (lv_at hl 1 rfl) ?_
                refine lv_bipush (v := 60) hx hb dX10_compare_154 (by decide) ?_
                refine hb_icmp_ne (zx := r_19.toInt) (zy := 60) (tgt := 171) hx hb rfl (by decide) dX10_compare_156 (by decide) (fun c_137 => ?_) (fun c_137 => by exfalso; omega)
                refine lv_iload_n hx hb dX10_compare_171 rfl (lv_at hl 1 rfl) ?_
                refine lv_bipush (v := 61) hx hb dX10_compare_172 (by decide) ?_
                refine hb_icmp_ne (zx := r_19.toInt) (zy := 61) (tgt := 181) hx hb rfl (by decide) dX10_compare_174 (by decide) (fun c_138 => ?_) (fun c_138 => by exfalso; omega)
                refine lv_iload_n hx hb dX10_compare_181 rfl (lv_at hl 0 rfl) ?_
                refine hb_if_eq (zx := 1) (tgt := 189) hx hb (by decide) dX10_compare_182 (by decide) (fun c_139 => absurd c_139 (by decide)) (fun c_139 => ?_)
                refine lv_iconst (v := 3) hx hb dX10_compare_185 (by decide) ?_
                refine lv_goto (tgt := 190) hx hb dX10_compare_186 (by decide) ?_
                refine lv_istore (lv' := [(4, .int (3 : Int32)), (3, .int (1 : Int32)), (2, .int r_19), (0, .ref x), (1, .int i1)]) hx hb dX10_compare_190 hl (by decide) rfl (fun ls hl => ?_)
                have zk_3 : (3 : Int32).toInt = 3 := by decide
                exact join192 (3 : Int32) x_134 _ _ L_17 h_135 (by decide) (by decide) (by omega) (by omega) (by have hsq : hv_sk tf tp0.toInt.toNat (hv_we tf tp0.toInt.toNat nx0.toInt.toNat) = w_22.toInt.toNat := (by rw [← ha1]; exact ek_23.symm); rw [hsq, show hv_sg tf tp0.toInt.toNat w_22.toInt.toNat = (3, 2) from hv_sg_6 (by have h8 := hv_SE_y (k := 62) hr_21S (by decide) (by decide) (by omega); exact h8) ⟨by omega, (by show (tf x_117.toNatClampNeg).toInt = 61; rw [← ax_126]; omega)⟩ (by omega) (by omega)]; refine ⟨by decide, by decide, ?_⟩; show _ = w_22.toInt.toNat + 2; omega) (by omega) (by omega) ls hW hT hM f_136 f_x_14 f_x_11 f_x_9 f_11 af_qs (lv_sub hl [0, 2, 3, 4] rfl)
          · skip
            refine lv_aload_n hx hb dX10_compare_82 rfl (lv_at hl 1 rfl) ?_
            refine lv_iconst (v := 0) hx hb dX10_compare_83 (by decide) ?_
            refine lv_aload_n hx hb dX10_compare_84 rfl (lv_at hl 1 rfl) ?_
            refine hk_geti hx hb hts hC_10 hown hW (gx.S hM) tt_10 8 (by decide) rfl kw_1151 ⟨rfl, rfl, rfl⟩ fw_22 dX10_compare_85 ?_
            have zc_0 : (0 : Int32).toInt = 0 := by decide
            refine hx_goi (hx_runV (As := [.int (0 : Int32), .int w_22]) (rest := []) ⟨hx, hb, hml, hown, hts⟩ hW (gx.S hM) tt_10 (T := TX10) (N := 98) rfl (t_X10_fails_v l dC dI dA L_17 h_18 H.size x (0 : Int32) w_22 hT (gx.S hM) ft0 f_x_9 (by omega) (by decide) ⟨by omega, by omega⟩) (cwV 2 hts (hx_gV kw_1480 kw_1477 kw_1479 kw_56 kw_103) rfl rfl rfl (by decide +kernel) ⟨Nat.le_of_ble_eq_true rfl, Nat.le_of_ble_eq_true rfl⟩) rfl hl.1 rfl (Nat.le_of_ble_eq_true rfl) dX10_compare_88 ⟨Nat.le_of_ble_eq_true rfl, Nat.le_of_ble_eq_true rfl⟩) hW (fun r_142 L_140 h_141 H locs p_143 hW => ?_)
            obtain ⟨⟨w_145, fw_145, hr_144⟩, hT, hs⟩ := p_143
            replace hT : hx_T T_tb L_140 h_141 := hT
            replace hs : hx_S T_tb [(10, 9)] L_17 h_18 L_140 h_141 := hs
            replace f_x_14 := (hs.o (gx.S hM) trivial rfl).1.trans f_x_14
            replace f_x_11 := (hs.o (gx.S hM) trivial rfl).1.trans f_x_11
            replace f_11 := (hs.o (gx.S hM) trivial rfl).1.trans f_11
            replace fw_22 := (hs.o (gx.S hM) trivial rfl).1.trans fw_22
            replace af_qs : h_141.2.1 qs = sf := (funext fun j => (hs.a (gqs.S hM) rfl j).1).trans af_qs
            replace hM := hM.tr (hs.mono (by decide))
            have fw_145 : h_141.2.1 x 9 = w_145 := fw_145
            have bw_145 := hT.gi (gx.S hM) tt_10 (k := 9) rfl
            rw [fw_145] at bw_145
            have bw_145 : -2147483648 ≤ w_145.toInt ∧ w_145.toInt ≤ 2147483647 := bw_145
            exact hx_retz hx hb hr (hx_nar01 (by omega)) hlk hW ⟨⟨x_9, w_22, st0, w_145, sf, f_11, fw_22, f_x_14, fw_145, af_qs, ⟨by omega, by omega, (fun z9 => by exfalso; omega), (hv_K_f (x := 1 + 8 * w_22.toInt.toNat) (by omega) (by omega) (by omega) (((hv_term_3 (by omega) (by omega) (by rw [← ha1, ← ek_23, hv_sg_0 (fun z9 => hv_SE_n (k := 60) hr_21S (by omega) ⟨z9.1, z9.2, by decide⟩) (fun z9 => hv_SE_n (k := 62) hr_21S (by omega) ⟨z9.1, z9.2, by decide⟩) (fun z9 => hv_SE_n (k := 61) hr_21S (by omega) ⟨z9.1, z9.2, by decide⟩) (by omega)])).trans (by rw [← ha1, ← ek_23])))), (fun z9 => by exfalso; omega)⟩⟩, hT, hM⟩ dX10_compare_91
    · skip
      refine lv_aload_n hx hb dX10_compare_26 rfl (lv_at hl 0 rfl) ?_
      refine lv_iconst (v := 4) hx hb dX10_compare_27 (by decide) ?_
      refine lv_aload_n hx hb dX10_compare_28 rfl (lv_at hl 0 rfl) ?_
      refine hk_geti hx hb hts hC_10 hown hW (gx.S hM) tt_10 8 (by decide) rfl kw_1151 ⟨rfl, rfl, rfl⟩ f_x_8 dX10_compare_29 ?_
      have zc_4 : (4 : Int32).toInt = 4 := by decide
      refine hx_goi (hx_runV (As := [.int (4 : Int32), .int nx0]) (rest := []) ⟨hx, hb, hml, hown, hts⟩ hW (gx.S hM) tt_10 (T := TX10) (N := 98) rfl (t_X10_fails_v l dC dI dA L_1 h_2 H.size x (4 : Int32) nx0 hT (gx.S hM) ft0 f_x_9 (by omega) (by decide) ⟨by omega, by omega⟩) (cwV 2 hts (hx_gV kw_1480 kw_1477 kw_1479 kw_56 kw_103) rfl rfl rfl (by decide +kernel) ⟨Nat.le_of_ble_eq_true rfl, Nat.le_of_ble_eq_true rfl⟩) rfl hl.1 rfl (Nat.le_of_ble_eq_true rfl) dX10_compare_32 ⟨Nat.le_of_ble_eq_true rfl, Nat.le_of_ble_eq_true rfl⟩) hW (fun r_148 L_146 h_147 H locs p_149 hW => ?_)
      obtain ⟨⟨w_151, fw_151, hr_150⟩, hT, hs⟩ := p_149
      replace hT : hx_T T_tb L_146 h_147 := hT
      replace hs : hx_S T_tb [(10, 9)] L_1 h_2 L_146 h_147 := hs
      replace f_x_16 := (hs.o (gx.S hM) trivial rfl).1.trans f_x_16
      replace f_x_8 := (hs.o (gx.S hM) trivial rfl).1.trans f_x_8
      replace f_x_14 := (hs.o (gx.S hM) trivial rfl).1.trans f_x_14
      replace f_x_11 := (hs.o (gx.S hM) trivial rfl).1.trans f_x_11
      replace af_qs : h_147.2.1 qs = sf := (funext fun j => (hs.a (gqs.S hM) rfl j).1).trans af_qs
      replace hM := hM.tr (hs.mono (by decide))
      have fw_151 : h_147.2.1 x 9 = w_151 := fw_151
      have bw_151 := hT.gi (gx.S hM) tt_10 (k := 9) rfl
      rw [fw_151] at bw_151
      have bw_151 : -2147483648 ≤ w_151.toInt ∧ w_151.toInt ≤ 2147483647 := bw_151
      exact hx_retz hx hb hr (hx_nar01 (by omega)) hlk hW ⟨⟨cp0, nx0, st0, w_151, sf, f_x_16, f_x_8, f_x_14, fw_151, af_qs, ⟨by omega, by omega, (fun z9 => by exfalso; omega), (hv_K_f (x := 5 + 8 * nx0.toInt.toNat) (by omega) (by omega) (by omega) (hv_term_2 (by omega) (by omega))), (fun z9 => by exfalso; omega)⟩⟩, hT, hM⟩ dX10_compare_35
  · skip
    replace hr_5 := hr_5.resolve_right (fun z9 => absurd (c_6.symm.trans z9.1) (by decide))
    replace hr_5 := hr_5.2
    refine lv_aload_n hx hb dX10_compare_7 rfl (lv_at hl 0 rfl) ?_
    refine lv_iconst (v := 0) hx hb dX10_compare_8 (by decide) ?_
    refine lv_aload_n hx hb dX10_compare_9 rfl (lv_at hl 0 rfl) ?_
    refine hk_geti hx hb hts hC_10 hown hW (gx.S hM) tt_10 8 (by decide) rfl kw_1151 ⟨rfl, rfl, rfl⟩ f_x_8 dX10_compare_10 ?_
    have zc_0 : (0 : Int32).toInt = 0 := by decide
    refine hx_goi (hx_runV (As := [.int (0 : Int32), .int nx0]) (rest := []) ⟨hx, hb, hml, hown, hts⟩ hW (gx.S hM) tt_10 (T := TX10) (N := 98) rfl (t_X10_fails_v l dC dI dA L_1 h_2 H.size x (0 : Int32) nx0 hT (gx.S hM) ft0 f_x_9 (by omega) (by decide) ⟨by omega, by omega⟩) (cwV 2 hts (hx_gV kw_1480 kw_1477 kw_1479 kw_56 kw_103) rfl rfl rfl (by decide +kernel) ⟨Nat.le_of_ble_eq_true rfl, Nat.le_of_ble_eq_true rfl⟩) rfl hl.1 rfl (Nat.le_of_ble_eq_true rfl) dX10_compare_13 ⟨Nat.le_of_ble_eq_true rfl, Nat.le_of_ble_eq_true rfl⟩) hW (fun r_154 L_152 h_153 H locs p_155 hW => ?_)
    obtain ⟨⟨w_157, fw_157, hr_156⟩, hT, hs⟩ := p_155
    replace hT : hx_T T_tb L_152 h_153 := hT
    replace hs : hx_S T_tb [(10, 9)] L_1 h_2 L_152 h_153 := hs
    replace f_x_16 := (hs.o (gx.S hM) trivial rfl).1.trans f_x_16
    replace f_x_8 := (hs.o (gx.S hM) trivial rfl).1.trans f_x_8
    replace f_x_14 := (hs.o (gx.S hM) trivial rfl).1.trans f_x_14
    replace f_x_11 := (hs.o (gx.S hM) trivial rfl).1.trans f_x_11
    replace af_qs : h_153.2.1 qs = sf := (funext fun j => (hs.a (gqs.S hM) rfl j).1).trans af_qs
    replace hM := hM.tr (hs.mono (by decide))
    have fw_157 : h_153.2.1 x 9 = w_157 := fw_157
    have bw_157 := hT.gi (gx.S hM) tt_10 (k := 9) rfl
    rw [fw_157] at bw_157
    have bw_157 : -2147483648 ≤ w_157.toInt ∧ w_157.toInt ≤ 2147483647 := bw_157
    exact hx_retz hx hb hr (hx_nar01 (by omega)) hlk hW ⟨⟨cp0, nx0, st0, w_157, sf, f_x_16, f_x_8, f_x_14, fw_157, af_qs, ⟨by omega, by omega, (fun z9 => by exfalso; omega), (hv_K_f (x := 1 + 8 * nx0.toInt.toNat) (by omega) (by omega) (by omega) (hv_term_1 (by omega))), (fun z9 => by exfalso; omega)⟩⟩, hT, hM⟩ dX10_compare_16


set_option maxHeartbeats 4000000 in
set_option maxRecDepth 100000 in
theorem t_X10_begins_v (l : Launch) (dC : Nat → ClassId) (dI : Nat → Nat → Nat) (dA : Nat → ClassId) (L : List Nat) (h : hx_h) (sz : Nat) (x : Nat) (hT : hx_T T_tb L h) (gx : hx_g L h x 10) (qs : Nat) (gqs : hx_g L h qs 55) (f_x_15 : h.2.2 x 15 = some qs) (qo : Nat) (gqo : hx_g L h qo 56) (f_x_17 : h.2.2 x 17 = some qo) (qt : Nat) (gqt : hx_g L h qt 53) (f_x_6 : h.2.2 x 6 = some qt) (qw : Nat) (gqw : hx_g L h qw 57) (f_x_19 : h.2.2 x 19 = some qw) (sf : Nat → Int32) (af_qs : h.2.1 qs = sf) (of : Nat → Int32) (af_qo : h.2.1 qo = of) (tf : Nat → Int32) (af_qt : h.2.1 qt = tf) (wf : Nat → Int32) (af_qw : h.2.1 qw = wf) (cp0 : Int32) (f_x_16 : h.2.1 x 16 = cp0) (nx0 : Int32) (f_x_8 : h.2.1 x 8 = nx0) (st0 : Int32) (f_x_14 : h.2.1 x 14 = st0) (op0 : Int32) (f_x_18 : h.2.1 x 18 = op0) (tp0 : Int32) (f_x_7 : h.2.1 x 7 = tp0) (ft0 : Int32) (f_x_9 : h.2.1 x 9 = ft0) (hQ : hx_QQ 0 cp0.toInt nx0.toInt st0.toInt op0.toInt sf of) (hwd : hx_wd wf) (o : List hv_tok) (hO : hv_ls sf st0.toInt.toNat = o.map hv_rc) (hF : ft0.toInt = 0) (hA : nx0.toInt ≤ tp0.toInt) : Met l yX10_begins (Cond.code yX10_begins cX10_begins 3 (some .boolean) :: hx_all) ({ frames := 3, cells := 0, slots := 0, locals := 73 }) (va_Pc [.ref x] (hx_B T_tb (P_ty dA) (dC, dI) vwCl L h sz)) (va_Qi (fun (r : Int32) (u : List Nat × hx_h) => (∃ (cp1 : Int32) (nx1 : Int32) (st1 : Int32) (op1 : Int32) (ft1 : Int32) (sf1 : Nat → Int32) (of1 : Nat → Int32), u.2.2.1 x 16 = cp1 ∧ u.2.2.1 x 8 = nx1 ∧ u.2.2.1 x 14 = st1 ∧ u.2.2.1 x 18 = op1 ∧ u.2.2.1 x 9 = ft1 ∧ u.2.2.1 qs = sf1 ∧ u.2.2.1 qo = of1 ∧ ((r.toInt = 0 ∨ r.toInt = 1) ∧ nx0.toInt ≤ nx1.toInt ∧ (r.toInt = 1 → hx_QQ 1 cp1.toInt nx1.toInt st1.toInt op1.toInt sf1 of1) ∧ hv_BG (hv_RN tf tp0.toInt.toNat true nx0.toInt.toNat cp0.toInt.toNat o (hv_ls of op0.toInt.toNat)) tf tp0.toInt.toNat r.toInt ft1.toInt nx1.toInt cp1.toInt (hv_ls sf1 st1.toInt.toNat) (hv_ls of1 op1.toInt.toNat) ∧ (r.toInt = 1 → nx0.toInt < nx1.toInt ∧ nx1.toInt ≤ tp0.toInt))) ∧ hx_T T_tb u.1 u.2 ∧ hx_S T_tb [(10, 8), (10, 9), (10, 10), (10, 11), (10, 14), (10, 16), (10, 18), (55, 0), (56, 0)] L h u.1 u.2) (hx_E T_tb (P_ty dA) (dC, dI) vwCl (hx_A L sz)) (hx_A L sz)) 0 0 (hx_A L sz) := by
  refine hx_met (lv := [(0, .ref x)]) (by decide +kernel) rfl (Nat.le_of_ble_eq_true rfl) rfl ?_
  intro p e s m below meth c hx hb hml hr hlk hts0 hown hin hsz hW ls hl
  have hts : ∀ w ∈ hx_all, w.before _ s = true := fun w hw => hts0 w (List.mem_cons_of_mem _ hw)
  have hown : s.vm.findClass "SmallCourtModel" = some m.cls := hown
  have hM : hx_S T_tb [(10, 8), (10, 9), (10, 10), (10, 11), (10, 14), (10, 16), (10, 18), (55, 0), (56, 0)] L h L h := hx_S.rf
  have b_cp0 := hT.gi gx tt_10 (k := 16) rfl
  rw [f_x_16] at b_cp0
  have b_cp0 : 0 ≤ cp0.toInt ∧ cp0.toInt ≤ 20 := b_cp0
  have b_nx0 := hT.gi gx tt_10 (k := 8) rfl
  rw [f_x_8] at b_nx0
  have b_nx0 : 0 ≤ nx0.toInt ∧ nx0.toInt ≤ 402 := b_nx0
  have b_st0 := hT.gi gx tt_10 (k := 14) rfl
  rw [f_x_14] at b_st0
  have b_st0 : 0 ≤ st0.toInt ∧ st0.toInt ≤ 128 := b_st0
  have b_op0 := hT.gi gx tt_10 (k := 18) rfl
  rw [f_x_18] at b_op0
  have b_op0 : 0 ≤ op0.toInt ∧ op0.toInt ≤ 128 := b_op0
  have b_tp0 := hT.gi gx tt_10 (k := 7) rfl
  rw [f_x_7] at b_tp0
  have b_tp0 : 0 ≤ tp0.toInt ∧ tp0.toInt ≤ 400 := b_tp0
  have b_ft0 := hT.gi gx tt_10 (k := 9) rfl
  rw [f_x_9] at b_ft0
  have b_ft0 : -2147483648 ≤ ft0.toInt ∧ ft0.toInt ≤ 2147483647 := b_ft0
  have loop0 : ∀ (n0 : Nat) (fw0_x_18 fw0_x_8 : Int32) (ia0_qo : Nat → Int32) (H : Heap) (locs : List Loc) (hL1 : List Nat) (hl1 : hx_h), 0 ≤ fw0_x_18.toInt → fw0_x_18.toInt ≤ 128 → 0 ≤ fw0_x_8.toInt → fw0_x_8.toInt ≤ 402 → (nx0.toInt ≤ fw0_x_8.toInt) → (hx_QQ 0 cp0.toInt fw0_x_8.toInt st0.toInt fw0_x_18.toInt sf ia0_qo) → (hv_RN tf tp0.toInt.toNat true nx0.toInt.toNat cp0.toInt.toNat o (hv_ls of op0.toInt.toNat) = hv_RN tf tp0.toInt.toNat true (fw0_x_8.toInt).toNat cp0.toInt.toNat o (hv_ls ia0_qo (fw0_x_18.toInt).toNat)) → (fw0_x_8.toInt ≤ tp0.toInt) → ∀ (ls : Array Slot), 402 - fw0_x_8.toInt < (n0 : Int) → hx_W T_tb (P_ty dA) (dC, dI) vwCl (hx_A L sz) s.heap hL1 hl1 s H locs → hx_T T_tb hL1 hl1 → hx_S T_tb [(10, 8), (10, 9), (10, 10), (10, 11), (10, 14), (10, 16), (10, 18), (55, 0), (56, 0)] L h hL1 hl1 → hl1.2.1 x 18 = fw0_x_18 → hl1.2.1 x 8 = fw0_x_8 → hl1.2.1 x 16 = cp0 → hl1.2.1 x 14 = st0 → hl1.2.1 x 9 = ft0 → hl1.2.1 qo = ia0_qo → hl1.2.1 qs = sf → lv_has ls 3 [(0, .ref x)] → W p l e ({ frames := 3, cells := 0, slots := 0, locals := 73 }) s m ([.ref x] : List Value).toArray below meth c H locs 0 0 (MQ below (va_Qi (fun (r : Int32) (u : List Nat × hx_h) => (∃ (cp1 : Int32) (nx1 : Int32) (st1 : Int32) (op1 : Int32) (ft1 : Int32) (sf1 : Nat → Int32) (of1 : Nat → Int32), u.2.2.1 x 16 = cp1 ∧ u.2.2.1 x 8 = nx1 ∧ u.2.2.1 x 14 = st1 ∧ u.2.2.1 x 18 = op1 ∧ u.2.2.1 x 9 = ft1 ∧ u.2.2.1 qs = sf1 ∧ u.2.2.1 qo = of1 ∧ ((r.toInt = 0 ∨ r.toInt = 1) ∧ nx0.toInt ≤ nx1.toInt ∧ (r.toInt = 1 → hx_QQ 1 cp1.toInt nx1.toInt st1.toInt op1.toInt sf1 of1) ∧ hv_BG (hv_RN tf tp0.toInt.toNat true nx0.toInt.toNat cp0.toInt.toNat o (hv_ls of op0.toInt.toNat)) tf tp0.toInt.toNat r.toInt ft1.toInt nx1.toInt cp1.toInt (hv_ls sf1 st1.toInt.toNat) (hv_ls of1 op1.toInt.toNat) ∧ (r.toInt = 1 → nx0.toInt < nx1.toInt ∧ nx1.toInt ≤ tp0.toInt))) ∧ hx_T T_tb u.1 u.2 ∧ hx_S T_tb [(10, 8), (10, 9), (10, 10), (10, 11), (10, 14), (10, 16), (10, 18), (55, 0), (56, 0)] L h u.1 u.2) (hx_E T_tb (P_ty dA) (dC, dI) vwCl (hx_A L sz)) (hx_A L sz)) ([.ref x] : List Value).toArray s 0 0 (hx_A L sz)) (F0 m 0 ls []) := by
    intro n0
    induction n0 with
    | zero => intro fw0_x_18 fw0_x_8 ia0_qo H locs hL1 hl1 blfw0_x_18 bufw0_x_18 blfw0_x_8 bufw0_x_8 vi0_0 vi0_1 vi0_2 vi0_3 ls hn0; exfalso; omega
    | succ n0 ih0 =>
      intro fw0_x_18 fw0_x_8 ia0_qo H locs hL1 hl1 blfw0_x_18 bufw0_x_18 blfw0_x_8 bufw0_x_8 vi0_0 vi0_1 vi0_2 vi0_3 ls hn0 hW hT hM ffw0_x_18 ffw0_x_8 f_x_16 f_x_14 f_x_9 nia0_qo af_qs hl
      have hqb := hx_QQ_b vi0_1
      refine lv_aload_n hx hb dX10_begins_0 rfl (lv_at hl 0 rfl) ?_
      refine hx_goi (hx_runV (As := []) (rest := []) ⟨hx, hb, hml, hown, hts⟩ hW (gx.S hM) tt_10 (T := TX10) (N := 98) rfl (t_X10_see_v l dC dI dA hL1 hl1 H.size x hT (gx.S hM) qt (gqt.S hM) ((hM.o gx trivial rfl).2.trans f_x_6) tf (hx_afS hM gqt rfl af_qt) fw0_x_8 ffw0_x_8 tp0 ((hM.o gx trivial rfl).1.trans f_x_7) (by omega)) (cwV 0 hts (hx_gV kw_1468 kw_1465 kw_1467 kw_53 kw_103) rfl rfl rfl (by decide +kernel) ⟨Nat.le_of_ble_eq_true rfl, Nat.le_of_ble_eq_true rfl⟩) rfl hl.1 rfl (Nat.le_of_ble_eq_true rfl) dX10_begins_1 ⟨Nat.le_of_ble_eq_true rfl, Nat.le_of_ble_eq_true rfl⟩) hW (fun r_3 L_1 h_2 H locs p_4 hW => ?_)
      obtain ⟨⟨w_6, fw_6, hr_5⟩, hT, hs⟩ := p_4
      replace hT : hx_T T_tb L_1 h_2 := hT
      replace hs : hx_S T_tb [(10, 8)] hL1 hl1 L_1 h_2 := hs
      replace f_x_16 := (hs.o (gx.S hM) trivial rfl).1.trans f_x_16
      replace f_x_14 := (hs.o (gx.S hM) trivial rfl).1.trans f_x_14
      replace f_x_9 := (hs.o (gx.S hM) trivial rfl).1.trans f_x_9
      replace ffw0_x_18 := (hs.o (gx.S hM) trivial rfl).1.trans ffw0_x_18
      replace af_qs : h_2.2.1 qs = sf := (funext fun j => (hs.a (gqs.S hM) rfl j).1).trans af_qs
      replace nia0_qo : h_2.2.1 qo = ia0_qo := (funext fun j => (hs.a (gqo.S hM) rfl j).1).trans nia0_qo
      replace hM := hM.tr (hs.mono (by decide))
      have fw_6 : h_2.2.1 x 8 = w_6 := fw_6
      have bw_6 := hT.gi (gx.S hM) tt_10 (k := 8) rfl
      rw [fw_6] at bw_6
      have bw_6 : 0 ≤ w_6.toInt ∧ w_6.toInt ≤ 402 := bw_6
      have ek_7 : w_6.toInt.toNat = hv_sk tf tp0.toInt.toNat fw0_x_8.toInt.toNat := by omega
      have hr_5S := hr_5.2.2.2.1
      refine lv_istore_n (lv' := [(1, .int r_3), (0, .ref x)]) hx hb dX10_begins_4 rfl hl (by decide) rfl (fun ls hl => ?_)
      refine lv_aload_n hx hb dX10_begins_5 rfl (lv_at hl 1 rfl) ?_
      refine hx_goi (hx_runV (As := []) (rest := []) ⟨hx, hb, hml, hown, hts⟩ hW (gx.S hM) tt_10 (T := TX10) (N := 98) rfl (t_X10_wordHere_v l dC dI dA L_1 h_2 H.size x hT (gx.S hM) qt (gqt.S hM) ((hM.o gx trivial rfl).2.trans f_x_6) qw (gqw.S hM) ((hM.o gx trivial rfl).2.trans f_x_19) tf (hx_afS hM gqt rfl af_qt) wf (hx_afS hM gqw rfl af_qw) w_6 fw_6 tp0 ((hM.o gx trivial rfl).1.trans f_x_7) hwd (by omega)) (cwV 0 hts (hx_gV kw_1476 kw_1473 kw_1475 kw_55 kw_103) rfl rfl rfl (by decide +kernel) ⟨Nat.le_of_ble_eq_true rfl, Nat.le_of_ble_eq_true rfl⟩) rfl hl.1 rfl (Nat.le_of_ble_eq_true rfl) dX10_begins_6 ⟨Nat.le_of_ble_eq_true rfl, Nat.le_of_ble_eq_true rfl⟩) hW (fun r_10 L_8 h_9 H locs p_11 hW => ?_)
      obtain ⟨⟨w_13, w_14, fw_13, fw_14, hr_12⟩, hT, hs⟩ := p_11
      replace hT : hx_T T_tb L_8 h_9 := hT
      replace hs : hx_S T_tb [(10, 8), (10, 11)] L_1 h_2 L_8 h_9 := hs
      replace f_x_16 := (hs.o (gx.S hM) trivial rfl).1.trans f_x_16
      replace f_x_14 := (hs.o (gx.S hM) trivial rfl).1.trans f_x_14
      replace f_x_9 := (hs.o (gx.S hM) trivial rfl).1.trans f_x_9
      replace ffw0_x_18 := (hs.o (gx.S hM) trivial rfl).1.trans ffw0_x_18
      replace af_qs : h_9.2.1 qs = sf := (funext fun j => (hs.a (gqs.S hM) rfl j).1).trans af_qs
      replace nia0_qo : h_9.2.1 qo = ia0_qo := (funext fun j => (hs.a (gqo.S hM) rfl j).1).trans nia0_qo
      replace hM := hM.tr (hs.mono (by decide))
      have fw_13 : h_9.2.1 x 8 = w_13 := fw_13
      have bw_13 := hT.gi (gx.S hM) tt_10 (k := 8) rfl
      rw [fw_13] at bw_13
      have bw_13 : 0 ≤ w_13.toInt ∧ w_13.toInt ≤ 402 := bw_13
      have fw_14 : h_9.2.1 x 11 = w_14 := fw_14
      have bw_14 := hT.gi (gx.S hM) tt_10 (k := 11) rfl
      rw [fw_14] at bw_14
      have bw_14 : 0 ≤ w_14.toInt ∧ w_14.toInt ≤ 400 := bw_14
      have ek_15 : w_13.toInt.toNat = hv_sk tf tp0.toInt.toNat w_6.toInt.toNat := by omega
      have hr_12W : r_10.toInt = hv_wd tf tp0.toInt.toNat w_13.toInt.toNat := by rw [ek_15]; exact hr_12.2.2.2.2.1
      have hr_12E : ((hv_we tf tp0.toInt.toNat w_13.toInt.toNat : Nat) : Int) = w_13.toInt + w_14.toInt := by rw [ek_15]; exact hr_12.2.2.2.1.symm
      refine lv_istore_n (lv' := [(2, .int r_10), (1, .int r_3), (0, .ref x)]) hx hb dX10_begins_9 rfl hl (by decide) rfl (fun ls hl => ?_)
      have e12 : w_13.toInt.toNat = w_6.toInt.toNat := by rw [ek_15, ek_7]; exact hv_sk_id
      have eks : w_13.toInt.toNat = hv_sk tf tp0.toInt.toNat fw0_x_8.toInt.toNat := by rw [e12, ek_7]
      refine lv_iload_n hx hb dX10_begins_10 rfl (lv_at hl 1 rfl) ?_
      refine lv_bipush (v := 40) hx hb dX10_begins_11 (by decide) ?_
      refine hb_icmp_eq (zx := r_3.toInt) (zy := 40) (tgt := 27) hx hb rfl (by decide) dX10_begins_13 (by decide) (fun c_16 => ?_) (fun c_16 => ?_)
      · skip
        have h40 : w_13.toInt.toNat < tp0.toInt.toNat ∧ (tf w_13.toInt.toNat).toInt = 40 := by rw [e12]; have h8 := hv_SE_y (k := 40) hr_5S (by decide) (by decide) (by omega); exact ⟨by omega, h8.2⟩
        have hn2 : hv_wd tf tp0.toInt.toNat w_13.toInt.toNat ≠ 2 := by rw [hv_wd_40 h40.2]; decide
        refine lv_aload_n hx hb dX10_begins_27 rfl (lv_at hl 2 rfl) ?_
        refine hx_goi (hx_runV (As := []) (rest := []) ⟨hx, hb, hml, hown, hts⟩ hW (gx.S hM) tt_10 (T := TX10) (N := 98) rfl (t_X10_deep_2 l dC dI dA L_8 h_9 H.size x hT (gx.S hM) qo (gqo.S hM) ((hM.o gx trivial rfl).2.trans f_x_17) ia0_qo nia0_qo fw0_x_18 ffw0_x_18) (cwV 0 hts (hx_gV kw_1507 kw_1504 kw_1506 kw_62 kw_103) rfl rfl rfl (by decide +kernel) ⟨Nat.le_of_ble_eq_true rfl, Nat.le_of_ble_eq_true rfl⟩) rfl hl.1 rfl (Nat.le_of_ble_eq_true rfl) dX10_begins_28 ⟨Nat.le_of_ble_eq_true rfl, Nat.le_of_ble_eq_true rfl⟩) hW (fun r_19 L_17 h_18 H locs p_20 hW => ?_)
        obtain ⟨hr_21, hT, hs⟩ := p_20
        replace hT : hx_T T_tb L_17 h_18 := hT
        replace hs : hx_S T_tb [] L_8 h_9 L_17 h_18 := hs
        replace f_x_16 := (hs.o (gx.S hM) trivial rfl).1.trans f_x_16
        replace f_x_14 := (hs.o (gx.S hM) trivial rfl).1.trans f_x_14
        replace f_x_9 := (hs.o (gx.S hM) trivial rfl).1.trans f_x_9
        replace ffw0_x_18 := (hs.o (gx.S hM) trivial rfl).1.trans ffw0_x_18
        replace fw_13 := (hs.o (gx.S hM) trivial rfl).1.trans fw_13
        replace fw_14 := (hs.o (gx.S hM) trivial rfl).1.trans fw_14
        replace af_qs : h_18.2.1 qs = sf := (funext fun j => (hs.a (gqs.S hM) rfl j).1).trans af_qs
        replace nia0_qo : h_18.2.1 qo = ia0_qo := (funext fun j => (hs.a (gqo.S hM) rfl j).1).trans nia0_qo
        replace hM := hM.tr (hs.mono (by decide))
        refine lv_bipush (v := 8) hx hb dX10_begins_31 (by decide) ?_
        refine hb_icmp_ne (zx := r_19.toInt) (zy := 8) (tgt := 46) hx hb rfl (by decide) dX10_begins_33 (by decide) (fun c_22 => ?_) (fun c_22 => ?_)
        · skip
          have hdp : hv_dp (hv_ls ia0_qo fw0_x_18.toInt.toNat) ≠ 8 := by rw [hv_dp_ls]; omega
          refine lv_aload_n hx hb dX10_begins_46 rfl (lv_at hl 2 rfl) ?_
          refine hk_getr hx hb hts hC_10 hown hW (gx.S hM) tt_10 17 (by decide) rfl kw_1160 ⟨rfl, rfl, rfl⟩ ((hM.o gx trivial rfl).2.trans f_x_17) dX10_begins_47 ?_
          refine lv_aload_n hx hb dX10_begins_50 rfl (lv_at hl 2 rfl) ?_
          refine hk_geti hx hb hts hC_10 hown hW (gx.S hM) tt_10 18 (by decide) rfl kw_1161 ⟨rfl, rfl, rfl⟩ ffw0_x_18 dX10_begins_51 ?_
          refine lv_iload_n hx hb dX10_begins_54 rfl (lv_at hl 1 rfl) ?_
          refine lv_bipush (v := 40) hx hb dX10_begins_55 (by decide) ?_
          refine hb_icmp_ne (zx := r_3.toInt) (zy := 40) (tgt := 65) hx hb rfl (by decide) dX10_begins_57 (by decide) (fun c_23 => by exfalso; omega) (fun c_23 => ?_)
          refine lv_bipush (v := 100) hx hb dX10_begins_60 (by decide) ?_
          refine lv_goto (tgt := 66) hx hb dX10_begins_62 (by decide) ?_
          have nia0_qoO := nia0_qo
          refine hx_iast hx hb hW hT (hx_S.rf (M := [(56, 0)])) (gqo.S hM) tt_56 rfl ⟨by omega, by omega⟩ rfl (by decide) (List.mem_singleton.mpr rfl) dX10_begins_66 (fun H locs h_24 eh_24 hW hT hs => ?_)
          replace f_x_16 := (hs.o (gx.S hM) trivial rfl).1.trans f_x_16
          replace f_x_14 := (hs.o (gx.S hM) trivial rfl).1.trans f_x_14
          replace f_x_9 := (hs.o (gx.S hM) trivial rfl).1.trans f_x_9
          replace ffw0_x_18 := (hs.o (gx.S hM) trivial rfl).1.trans ffw0_x_18
          replace fw_13 := (hs.o (gx.S hM) trivial rfl).1.trans fw_13
          replace fw_14 := (hs.o (gx.S hM) trivial rfl).1.trans fw_14
          replace af_qs : h_24.2.1 qs = sf := (funext fun j => (hs.a (gqs.S hM) rfl j).1).trans af_qs
          replace hM := hM.tr (hs.mono (by decide))
          obtain ⟨fa_25, dfa_25⟩ : ∃ g : Nat → Int32, g = hx_up ia0_qo fw0_x_18.toNatClampNeg (100 : Int32) := ⟨_, rfl⟩
          have nfa_25 : h_24.2.1 qo = fa_25 := by rw [eh_24, dfa_25, ← nia0_qoO]; exact hx_pi_fun _ _ _ _
          refine lv_aload_n hx hb dX10_begins_67 rfl (lv_at hl 2 rfl) ?_
          refine lv_dup hx hb dX10_begins_68 rfl ?_
          refine hk_geti hx hb hts hC_10 hown hW (gx.S hM) tt_10 18 (by decide) rfl kw_1161 ⟨rfl, rfl, rfl⟩ ffw0_x_18 dX10_begins_69 ?_
          refine lv_iconst (v := 1) hx hb dX10_begins_72 (by decide) ?_
          refine lv_iadd hx hb dX10_begins_73 ?_
          have rg_26 := i32_r fw0_x_18
          refine lv_topi (fun x_27 ex_27 => ?_)
          have zx_27 : x_27.toInt = fw0_x_18.toInt + 1 := by rw [ex_27]; exact i32_add rfl (by decide) (by omega) (by omega)
          refine hx_puti hx hb hts hC_10 hown hW hT (hx_S.rf (M := [(10, 18)])) (gx.S hM) tt_10 18 (by decide) rfl kw_1161 ⟨rfl, rfl, rfl⟩ rfl (x := x_27) ⟨by omega, by omega⟩ rfl rfl rfl (List.mem_singleton.mpr rfl) dX10_begins_74 (fun H locs h_28 eh_28 hW hT hs => ?_)
          replace f_x_16 := (hs.o (gx.S hM) trivial rfl).1.trans f_x_16
          replace f_x_14 := (hs.o (gx.S hM) trivial rfl).1.trans f_x_14
          replace f_x_9 := (hs.o (gx.S hM) trivial rfl).1.trans f_x_9
          replace fw_13 := (hs.o (gx.S hM) trivial rfl).1.trans fw_13
          replace fw_14 := (hs.o (gx.S hM) trivial rfl).1.trans fw_14
          replace af_qs : h_28.2.1 qs = sf := (funext fun j => (hs.a (gqs.S hM) rfl j).1).trans af_qs
          replace nfa_25 : h_28.2.1 qo = fa_25 := (funext fun j => (hs.a (gqo.S hM) rfl j).1).trans nfa_25
          replace hM := hM.tr (hs.mono (by decide))
          have f_29 : h_28.2.1 x 18 = x_27 := by rw [eh_28]; exact hx_pi_at _ _ _ _
          refine lv_aload_n hx hb dX10_begins_77 rfl (lv_at hl 2 rfl) ?_
          refine lv_dup hx hb dX10_begins_78 rfl ?_
          refine hk_geti hx hb hts hC_10 hown hW (gx.S hM) tt_10 8 (by decide) rfl kw_1151 ⟨rfl, rfl, rfl⟩ fw_13 dX10_begins_79 ?_
          refine lv_iload_n hx hb dX10_begins_82 rfl (lv_at hl 1 rfl) ?_
          refine lv_bipush (v := 40) hx hb dX10_begins_83 (by decide) ?_
          refine hb_icmp_ne (zx := r_3.toInt) (zy := 40) (tgt := 92) hx hb rfl (by decide) dX10_begins_85 (by decide) (fun c_30 => by exfalso; omega) (fun c_30 => ?_)
          refine lv_iconst (v := 1) hx hb dX10_begins_88 (by decide) ?_
          refine lv_goto (tgt := 93) hx hb dX10_begins_89 (by decide) ?_
          refine lv_iadd hx hb dX10_begins_93 ?_
          have rg_31 := i32_r w_13
          refine lv_topi (fun x_32 ex_32 => ?_)
          have zx_32 : x_32.toInt = w_13.toInt + 1 := by rw [ex_32]; exact i32_add rfl (by decide) (by omega) (by omega)
          refine hx_puti hx hb hts hC_10 hown hW hT (hx_S.rf (M := [(10, 8)])) (gx.S hM) tt_10 8 (by decide) rfl kw_1151 ⟨rfl, rfl, rfl⟩ rfl (x := x_32) ⟨by omega, by omega⟩ rfl rfl rfl (List.mem_singleton.mpr rfl) dX10_begins_94 (fun H locs h_33 eh_33 hW hT hs => ?_)
          replace f_x_16 := (hs.o (gx.S hM) trivial rfl).1.trans f_x_16
          replace f_x_14 := (hs.o (gx.S hM) trivial rfl).1.trans f_x_14
          replace f_x_9 := (hs.o (gx.S hM) trivial rfl).1.trans f_x_9
          replace fw_14 := (hs.o (gx.S hM) trivial rfl).1.trans fw_14
          replace f_29 := (hs.o (gx.S hM) trivial rfl).1.trans f_29
          replace af_qs : h_33.2.1 qs = sf := (funext fun j => (hs.a (gqs.S hM) rfl j).1).trans af_qs
          replace nfa_25 : h_33.2.1 qo = fa_25 := (funext fun j => (hs.a (gqo.S hM) rfl j).1).trans nfa_25
          replace hM := hM.tr (hs.mono (by decide))
          have f_34 : h_33.2.1 x 8 = x_32 := by rw [eh_33]; exact hx_pi_at _ _ _ _
          refine lv_goto (tgt := 0) hx hb dX10_begins_97 (by decide) ?_
          exact ih0 x_27 x_32 fa_25 _ _ L_17 h_33 (by omega) (by omega) (by omega) (by omega) (by omega) (hx_QQ_open vi0_1 (by have q := hx_QQ_dp vi0_1; omega) (by have z1 : (100 : Int32).toInt = 100 := (by decide); have z2 : (2 : Int32).toInt = 2 := (by decide); omega) (hx_cl (by omega)) (by omega) dfa_25) (vi0_2.trans ((hv_RN_p (by rw [← eks]; exact hn2) (by rw [← eks]; exact h40) hdp).trans (by rw [← eks, show w_13.toInt.toNat + 1 = x_32.toInt.toNat by omega, hv_ls_p (n := fw0_x_18.toInt.toNat) (z := 100) rfl (by omega) (by first | decide | omega) dfa_25]))) (by omega) ls (by omega) hW hT hM f_29 f_34 f_x_16 f_x_14 f_x_9 nfa_25 af_qs (lv_sub hl [2] rfl)
        · skip
          refine lv_aload_n hx hb dX10_begins_36 rfl (lv_at hl 2 rfl) ?_
          refine lv_iconst (v := 3) hx hb dX10_begins_37 (by decide) ?_
          refine lv_aload_n hx hb dX10_begins_38 rfl (lv_at hl 2 rfl) ?_
          refine hk_geti hx hb hts hC_10 hown hW (gx.S hM) tt_10 8 (by decide) rfl kw_1151 ⟨rfl, rfl, rfl⟩ fw_13 dX10_begins_39 ?_
          have zc_3 : (3 : Int32).toInt = 3 := by decide
          refine hx_goi (hx_runV (As := [.int (3 : Int32), .int w_13]) (rest := []) ⟨hx, hb, hml, hown, hts⟩ hW (gx.S hM) tt_10 (T := TX10) (N := 98) rfl (t_X10_fails_v l dC dI dA L_17 h_18 H.size x (3 : Int32) w_13 hT (gx.S hM) ft0 f_x_9 (by omega) (by decide) ⟨by omega, by omega⟩) (cwV 2 hts (hx_gV kw_1480 kw_1477 kw_1479 kw_56 kw_103) rfl rfl rfl (by decide +kernel) ⟨Nat.le_of_ble_eq_true rfl, Nat.le_of_ble_eq_true rfl⟩) rfl hl.1 rfl (Nat.le_of_ble_eq_true rfl) dX10_begins_42 ⟨Nat.le_of_ble_eq_true rfl, Nat.le_of_ble_eq_true rfl⟩) hW (fun r_37 L_35 h_36 H locs p_38 hW => ?_)
          obtain ⟨⟨w_40, fw_40, hr_39⟩, hT, hs⟩ := p_38
          replace hT : hx_T T_tb L_35 h_36 := hT
          replace hs : hx_S T_tb [(10, 9)] L_17 h_18 L_35 h_36 := hs
          replace f_x_16 := (hs.o (gx.S hM) trivial rfl).1.trans f_x_16
          replace f_x_14 := (hs.o (gx.S hM) trivial rfl).1.trans f_x_14
          replace ffw0_x_18 := (hs.o (gx.S hM) trivial rfl).1.trans ffw0_x_18
          replace fw_13 := (hs.o (gx.S hM) trivial rfl).1.trans fw_13
          replace fw_14 := (hs.o (gx.S hM) trivial rfl).1.trans fw_14
          replace af_qs : h_36.2.1 qs = sf := (funext fun j => (hs.a (gqs.S hM) rfl j).1).trans af_qs
          replace nia0_qo : h_36.2.1 qo = ia0_qo := (funext fun j => (hs.a (gqo.S hM) rfl j).1).trans nia0_qo
          replace hM := hM.tr (hs.mono (by decide))
          have fw_40 : h_36.2.1 x 9 = w_40 := fw_40
          have bw_40 := hT.gi (gx.S hM) tt_10 (k := 9) rfl
          rw [fw_40] at bw_40
          have bw_40 : -2147483648 ≤ w_40.toInt ∧ w_40.toInt ≤ 2147483647 := bw_40
          exact hx_retz hx hb hr (hx_nar01 (by omega)) hlk hW ⟨⟨cp0, w_13, st0, fw0_x_18, w_40, sf, ia0_qo, f_x_16, fw_13, f_x_14, ffw0_x_18, fw_40, af_qs, nia0_qo, ⟨by omega, by omega, (fun z => by exfalso; omega), (hv_BG_f (x := 4 + 8 * w_13.toInt.toNat) (by omega) (by omega) (by omega) (vi0_2.trans ((hv_RN_d (Or.inr (by rw [← eks]; exact h40)) (by rw [hv_dp_ls]; omega)).trans (by rw [← eks])))), (fun z9 => by exfalso; omega)⟩⟩, hT, hM⟩ dX10_begins_45
      · skip
        refine lv_iload_n hx hb dX10_begins_16 rfl (lv_at hl 0 rfl) ?_
        refine lv_iconst (v := 2) hx hb dX10_begins_17 (by decide) ?_
        refine hb_icmp_eq (zx := r_10.toInt) (zy := 2) (tgt := 27) hx hb rfl (by decide) dX10_begins_18 (by decide) (fun c_41 => ?_) (fun c_41 => ?_)
        · skip
          have hw2 : hv_wd tf tp0.toInt.toNat w_13.toInt.toNat = 2 := by omega
          have hl2 := hv_wd_2 hw2
          refine lv_aload_n hx hb dX10_begins_27 rfl (lv_at hl 2 rfl) ?_
          refine hx_goi (hx_runV (As := []) (rest := []) ⟨hx, hb, hml, hown, hts⟩ hW (gx.S hM) tt_10 (T := TX10) (N := 98) rfl (t_X10_deep_2 l dC dI dA L_8 h_9 H.size x hT (gx.S hM) qo (gqo.S hM) ((hM.o gx trivial rfl).2.trans f_x_17) ia0_qo nia0_qo fw0_x_18 ffw0_x_18) (cwV 0 hts (hx_gV kw_1507 kw_1504 kw_1506 kw_62 kw_103) rfl rfl rfl (by decide +kernel) ⟨Nat.le_of_ble_eq_true rfl, Nat.le_of_ble_eq_true rfl⟩) rfl hl.1 rfl (Nat.le_of_ble_eq_true rfl) dX10_begins_28 ⟨Nat.le_of_ble_eq_true rfl, Nat.le_of_ble_eq_true rfl⟩) hW (fun r_44 L_42 h_43 H locs p_45 hW => ?_)
          obtain ⟨hr_46, hT, hs⟩ := p_45
          replace hT : hx_T T_tb L_42 h_43 := hT
          replace hs : hx_S T_tb [] L_8 h_9 L_42 h_43 := hs
          replace f_x_16 := (hs.o (gx.S hM) trivial rfl).1.trans f_x_16
          replace f_x_14 := (hs.o (gx.S hM) trivial rfl).1.trans f_x_14
          replace f_x_9 := (hs.o (gx.S hM) trivial rfl).1.trans f_x_9
          replace ffw0_x_18 := (hs.o (gx.S hM) trivial rfl).1.trans ffw0_x_18
          replace fw_13 := (hs.o (gx.S hM) trivial rfl).1.trans fw_13
          replace fw_14 := (hs.o (gx.S hM) trivial rfl).1.trans fw_14
          replace af_qs : h_43.2.1 qs = sf := (funext fun j => (hs.a (gqs.S hM) rfl j).1).trans af_qs
          replace nia0_qo : h_43.2.1 qo = ia0_qo := (funext fun j => (hs.a (gqo.S hM) rfl j).1).trans nia0_qo
          replace hM := hM.tr (hs.mono (by decide))
          refine lv_bipush (v := 8) hx hb dX10_begins_31 (by decide) ?_
          refine hb_icmp_ne (zx := r_44.toInt) (zy := 8) (tgt := 46) hx hb rfl (by decide) dX10_begins_33 (by decide) (fun c_47 => ?_) (fun c_47 => ?_)
          · skip
            have hdp : hv_dp (hv_ls ia0_qo fw0_x_18.toInt.toNat) ≠ 8 := by rw [hv_dp_ls]; omega
            refine lv_aload_n hx hb dX10_begins_46 rfl (lv_at hl 2 rfl) ?_
            refine hk_getr hx hb hts hC_10 hown hW (gx.S hM) tt_10 17 (by decide) rfl kw_1160 ⟨rfl, rfl, rfl⟩ ((hM.o gx trivial rfl).2.trans f_x_17) dX10_begins_47 ?_
            refine lv_aload_n hx hb dX10_begins_50 rfl (lv_at hl 2 rfl) ?_
            refine hk_geti hx hb hts hC_10 hown hW (gx.S hM) tt_10 18 (by decide) rfl kw_1161 ⟨rfl, rfl, rfl⟩ ffw0_x_18 dX10_begins_51 ?_
            refine lv_iload_n hx hb dX10_begins_54 rfl (lv_at hl 1 rfl) ?_
            refine lv_bipush (v := 40) hx hb dX10_begins_55 (by decide) ?_
            refine hb_icmp_ne (zx := r_3.toInt) (zy := 40) (tgt := 65) hx hb rfl (by decide) dX10_begins_57 (by decide) (fun c_48 => ?_) (fun c_48 => ?_)
            · skip
              refine lv_iconst (v := 2) hx hb dX10_begins_65 (by decide) ?_
              have nia0_qoO := nia0_qo
              refine hx_iast hx hb hW hT (hx_S.rf (M := [(56, 0)])) (gqo.S hM) tt_56 rfl ⟨by omega, by omega⟩ rfl (by decide) (List.mem_singleton.mpr rfl) dX10_begins_66 (fun H locs h_49 eh_49 hW hT hs => ?_)
              replace f_x_16 := (hs.o (gx.S hM) trivial rfl).1.trans f_x_16
              replace f_x_14 := (hs.o (gx.S hM) trivial rfl).1.trans f_x_14
              replace f_x_9 := (hs.o (gx.S hM) trivial rfl).1.trans f_x_9
              replace ffw0_x_18 := (hs.o (gx.S hM) trivial rfl).1.trans ffw0_x_18
              replace fw_13 := (hs.o (gx.S hM) trivial rfl).1.trans fw_13
              replace fw_14 := (hs.o (gx.S hM) trivial rfl).1.trans fw_14
              replace af_qs : h_49.2.1 qs = sf := (funext fun j => (hs.a (gqs.S hM) rfl j).1).trans af_qs
              replace hM := hM.tr (hs.mono (by decide))
              obtain ⟨fa_50, dfa_50⟩ : ∃ g : Nat → Int32, g = hx_up ia0_qo fw0_x_18.toNatClampNeg (2 : Int32) := ⟨_, rfl⟩
              have nfa_50 : h_49.2.1 qo = fa_50 := by rw [eh_49, dfa_50, ← nia0_qoO]; exact hx_pi_fun _ _ _ _
              refine lv_aload_n hx hb dX10_begins_67 rfl (lv_at hl 2 rfl) ?_
              refine lv_dup hx hb dX10_begins_68 rfl ?_
              refine hk_geti hx hb hts hC_10 hown hW (gx.S hM) tt_10 18 (by decide) rfl kw_1161 ⟨rfl, rfl, rfl⟩ ffw0_x_18 dX10_begins_69 ?_
              refine lv_iconst (v := 1) hx hb dX10_begins_72 (by decide) ?_
              refine lv_iadd hx hb dX10_begins_73 ?_
              have rg_51 := i32_r fw0_x_18
              refine lv_topi (fun x_52 ex_52 => ?_)
              have zx_52 : x_52.toInt = fw0_x_18.toInt + 1 := by rw [ex_52]; exact i32_add rfl (by decide) (by omega) (by omega)
              refine hx_puti hx hb hts hC_10 hown hW hT (hx_S.rf (M := [(10, 18)])) (gx.S hM) tt_10 18 (by decide) rfl kw_1161 ⟨rfl, rfl, rfl⟩ rfl (x := x_52) ⟨by omega, by omega⟩ rfl rfl rfl (List.mem_singleton.mpr rfl) dX10_begins_74 (fun H locs h_53 eh_53 hW hT hs => ?_)
              replace f_x_16 := (hs.o (gx.S hM) trivial rfl).1.trans f_x_16
              replace f_x_14 := (hs.o (gx.S hM) trivial rfl).1.trans f_x_14
              replace f_x_9 := (hs.o (gx.S hM) trivial rfl).1.trans f_x_9
              replace fw_13 := (hs.o (gx.S hM) trivial rfl).1.trans fw_13
              replace fw_14 := (hs.o (gx.S hM) trivial rfl).1.trans fw_14
              replace af_qs : h_53.2.1 qs = sf := (funext fun j => (hs.a (gqs.S hM) rfl j).1).trans af_qs
              replace nfa_50 : h_53.2.1 qo = fa_50 := (funext fun j => (hs.a (gqo.S hM) rfl j).1).trans nfa_50
              replace hM := hM.tr (hs.mono (by decide))
              have f_54 : h_53.2.1 x 18 = x_52 := by rw [eh_53]; exact hx_pi_at _ _ _ _
              refine lv_aload_n hx hb dX10_begins_77 rfl (lv_at hl 2 rfl) ?_
              refine lv_dup hx hb dX10_begins_78 rfl ?_
              refine hk_geti hx hb hts hC_10 hown hW (gx.S hM) tt_10 8 (by decide) rfl kw_1151 ⟨rfl, rfl, rfl⟩ fw_13 dX10_begins_79 ?_
              refine lv_iload_n hx hb dX10_begins_82 rfl (lv_at hl 1 rfl) ?_
              refine lv_bipush (v := 40) hx hb dX10_begins_83 (by decide) ?_
              refine hb_icmp_ne (zx := r_3.toInt) (zy := 40) (tgt := 92) hx hb rfl (by decide) dX10_begins_85 (by decide) (fun c_55 => ?_) (fun c_55 => ?_)
              · skip
                refine lv_iconst (v := 3) hx hb dX10_begins_92 (by decide) ?_
                refine lv_iadd hx hb dX10_begins_93 ?_
                have rg_56 := i32_r w_13
                refine lv_topi (fun x_57 ex_57 => ?_)
                have zx_57 : x_57.toInt = w_13.toInt + 3 := by rw [ex_57]; exact i32_add rfl (by decide) (by omega) (by omega)
                refine hx_puti hx hb hts hC_10 hown hW hT (hx_S.rf (M := [(10, 8)])) (gx.S hM) tt_10 8 (by decide) rfl kw_1151 ⟨rfl, rfl, rfl⟩ rfl (x := x_57) ⟨by omega, by omega⟩ rfl rfl rfl (List.mem_singleton.mpr rfl) dX10_begins_94 (fun H locs h_58 eh_58 hW hT hs => ?_)
                replace f_x_16 := (hs.o (gx.S hM) trivial rfl).1.trans f_x_16
                replace f_x_14 := (hs.o (gx.S hM) trivial rfl).1.trans f_x_14
                replace f_x_9 := (hs.o (gx.S hM) trivial rfl).1.trans f_x_9
                replace fw_14 := (hs.o (gx.S hM) trivial rfl).1.trans fw_14
                replace f_54 := (hs.o (gx.S hM) trivial rfl).1.trans f_54
                replace af_qs : h_58.2.1 qs = sf := (funext fun j => (hs.a (gqs.S hM) rfl j).1).trans af_qs
                replace nfa_50 : h_58.2.1 qo = fa_50 := (funext fun j => (hs.a (gqo.S hM) rfl j).1).trans nfa_50
                replace hM := hM.tr (hs.mono (by decide))
                have f_59 : h_58.2.1 x 8 = x_57 := by rw [eh_58]; exact hx_pi_at _ _ _ _
                refine lv_goto (tgt := 0) hx hb dX10_begins_97 (by decide) ?_
                exact ih0 x_52 x_57 fa_50 _ _ L_42 h_58 (by omega) (by omega) (by omega) (by omega) (by omega) (hx_QQ_open vi0_1 (by have q := hx_QQ_dp vi0_1; omega) (by have z1 : (100 : Int32).toInt = 100 := (by decide); have z2 : (2 : Int32).toInt = 2 := (by decide); omega) (hx_cl (by omega)) (by omega) dfa_50) (vi0_2.trans ((hv_RN_n (by rw [← eks]; exact hw2) hdp).trans (by rw [← eks, show w_13.toInt.toNat + 3 = x_57.toInt.toNat by omega, hv_ls_p (n := fw0_x_18.toInt.toNat) (z := 2) rfl (by omega) (by first | decide | omega) dfa_50]))) (by omega) ls (by omega) hW hT hM f_54 f_59 f_x_16 f_x_14 f_x_9 nfa_50 af_qs (lv_sub hl [2] rfl)
              · skip
                refine lv_iconst (v := 1) hx hb dX10_begins_88 (by decide) ?_
                refine lv_goto (tgt := 93) hx hb dX10_begins_89 (by decide) ?_
                refine lv_iadd hx hb dX10_begins_93 ?_
                have rg_60 := i32_r w_13
                refine lv_topi (fun x_61 ex_61 => ?_)
                have zx_61 : x_61.toInt = w_13.toInt + 1 := by rw [ex_61]; exact i32_add rfl (by decide) (by omega) (by omega)
                refine hx_puti hx hb hts hC_10 hown hW hT (hx_S.rf (M := [(10, 8)])) (gx.S hM) tt_10 8 (by decide) rfl kw_1151 ⟨rfl, rfl, rfl⟩ rfl (x := x_61) ⟨by omega, by omega⟩ rfl rfl rfl (List.mem_singleton.mpr rfl) dX10_begins_94 (fun H locs h_62 eh_62 hW hT hs => ?_)
                replace f_x_16 := (hs.o (gx.S hM) trivial rfl).1.trans f_x_16
                replace f_x_14 := (hs.o (gx.S hM) trivial rfl).1.trans f_x_14
                replace f_x_9 := (hs.o (gx.S hM) trivial rfl).1.trans f_x_9
                replace fw_14 := (hs.o (gx.S hM) trivial rfl).1.trans fw_14
                replace f_54 := (hs.o (gx.S hM) trivial rfl).1.trans f_54
                replace af_qs : h_62.2.1 qs = sf := (funext fun j => (hs.a (gqs.S hM) rfl j).1).trans af_qs
                replace nfa_50 : h_62.2.1 qo = fa_50 := (funext fun j => (hs.a (gqo.S hM) rfl j).1).trans nfa_50
                replace hM := hM.tr (hs.mono (by decide))
                have f_63 : h_62.2.1 x 8 = x_61 := by rw [eh_62]; exact hx_pi_at _ _ _ _
                refine lv_goto (tgt := 0) hx hb dX10_begins_97 (by decide) ?_
                exact ih0 x_52 x_61 fa_50 _ _ L_42 h_62 (by omega) (by omega) (by omega) (by omega) (by omega) (hx_QQ_open vi0_1 (by have q := hx_QQ_dp vi0_1; omega) (by have z1 : (100 : Int32).toInt = 100 := (by decide); have z2 : (2 : Int32).toInt = 2 := (by decide); omega) (hx_cl (by omega)) (by omega) dfa_50) (vi0_2.trans ((hv_RN_n (by rw [← eks]; exact hw2) hdp).trans (by rw [← eks, show w_13.toInt.toNat + 3 = x_61.toInt.toNat by omega, hv_ls_p (n := fw0_x_18.toInt.toNat) (z := 2) rfl (by omega) (by first | decide | omega) dfa_50]))) (by omega) ls (by omega) hW hT hM f_54 f_63 f_x_16 f_x_14 f_x_9 nfa_50 af_qs (lv_sub hl [2] rfl)
            · skip
              refine lv_bipush (v := 100) hx hb dX10_begins_60 (by decide) ?_
              refine lv_goto (tgt := 66) hx hb dX10_begins_62 (by decide) ?_
              have nia0_qoO := nia0_qo
              refine hx_iast hx hb hW hT (hx_S.rf (M := [(56, 0)])) (gqo.S hM) tt_56 rfl ⟨by omega, by omega⟩ rfl (by decide) (List.mem_singleton.mpr rfl) dX10_begins_66 (fun H locs h_64 eh_64 hW hT hs => ?_)
              replace f_x_16 := (hs.o (gx.S hM) trivial rfl).1.trans f_x_16
              replace f_x_14 := (hs.o (gx.S hM) trivial rfl).1.trans f_x_14
              replace f_x_9 := (hs.o (gx.S hM) trivial rfl).1.trans f_x_9
              replace ffw0_x_18 := (hs.o (gx.S hM) trivial rfl).1.trans ffw0_x_18
              replace fw_13 := (hs.o (gx.S hM) trivial rfl).1.trans fw_13
              replace fw_14 := (hs.o (gx.S hM) trivial rfl).1.trans fw_14
              replace af_qs : h_64.2.1 qs = sf := (funext fun j => (hs.a (gqs.S hM) rfl j).1).trans af_qs
              replace hM := hM.tr (hs.mono (by decide))
              obtain ⟨fa_65, dfa_65⟩ : ∃ g : Nat → Int32, g = hx_up ia0_qo fw0_x_18.toNatClampNeg (100 : Int32) := ⟨_, rfl⟩
              have nfa_65 : h_64.2.1 qo = fa_65 := by rw [eh_64, dfa_65, ← nia0_qoO]; exact hx_pi_fun _ _ _ _
              refine lv_aload_n hx hb dX10_begins_67 rfl (lv_at hl 2 rfl) ?_
              refine lv_dup hx hb dX10_begins_68 rfl ?_
              refine hk_geti hx hb hts hC_10 hown hW (gx.S hM) tt_10 18 (by decide) rfl kw_1161 ⟨rfl, rfl, rfl⟩ ffw0_x_18 dX10_begins_69 ?_
              refine lv_iconst (v := 1) hx hb dX10_begins_72 (by decide) ?_
              refine lv_iadd hx hb dX10_begins_73 ?_
              have rg_66 := i32_r fw0_x_18
              refine lv_topi (fun x_67 ex_67 => ?_)
              have zx_67 : x_67.toInt = fw0_x_18.toInt + 1 := by rw [ex_67]; exact i32_add rfl (by decide) (by omega) (by omega)
              refine hx_puti hx hb hts hC_10 hown hW hT (hx_S.rf (M := [(10, 18)])) (gx.S hM) tt_10 18 (by decide) rfl kw_1161 ⟨rfl, rfl, rfl⟩ rfl (x := x_67) ⟨by omega, by omega⟩ rfl rfl rfl (List.mem_singleton.mpr rfl) dX10_begins_74 (fun H locs h_68 eh_68 hW hT hs => ?_)
              replace f_x_16 := (hs.o (gx.S hM) trivial rfl).1.trans f_x_16
              replace f_x_14 := (hs.o (gx.S hM) trivial rfl).1.trans f_x_14
              replace f_x_9 := (hs.o (gx.S hM) trivial rfl).1.trans f_x_9
              replace fw_13 := (hs.o (gx.S hM) trivial rfl).1.trans fw_13
              replace fw_14 := (hs.o (gx.S hM) trivial rfl).1.trans fw_14
              replace af_qs : h_68.2.1 qs = sf := (funext fun j => (hs.a (gqs.S hM) rfl j).1).trans af_qs
              replace nfa_65 : h_68.2.1 qo = fa_65 := (funext fun j => (hs.a (gqo.S hM) rfl j).1).trans nfa_65
              replace hM := hM.tr (hs.mono (by decide))
              have f_69 : h_68.2.1 x 18 = x_67 := by rw [eh_68]; exact hx_pi_at _ _ _ _
              refine lv_aload_n hx hb dX10_begins_77 rfl (lv_at hl 2 rfl) ?_
              refine lv_dup hx hb dX10_begins_78 rfl ?_
              refine hk_geti hx hb hts hC_10 hown hW (gx.S hM) tt_10 8 (by decide) rfl kw_1151 ⟨rfl, rfl, rfl⟩ fw_13 dX10_begins_79 ?_
              refine lv_iload_n hx hb dX10_begins_82 rfl (lv_at hl 1 rfl) ?_
              refine lv_bipush (v := 40) hx hb dX10_begins_83 (by decide) ?_
              refine hb_icmp_ne (zx := r_3.toInt) (zy := 40) (tgt := 92) hx hb rfl (by decide) dX10_begins_85 (by decide) (fun c_70 => by exfalso; omega) (fun c_70 => ?_)
              refine lv_iconst (v := 1) hx hb dX10_begins_88 (by decide) ?_
              refine lv_goto (tgt := 93) hx hb dX10_begins_89 (by decide) ?_
              refine lv_iadd hx hb dX10_begins_93 ?_
              have rg_71 := i32_r w_13
              refine lv_topi (fun x_72 ex_72 => ?_)
              have zx_72 : x_72.toInt = w_13.toInt + 1 := by rw [ex_72]; exact i32_add rfl (by decide) (by omega) (by omega)
              refine hx_puti hx hb hts hC_10 hown hW hT (hx_S.rf (M := [(10, 8)])) (gx.S hM) tt_10 8 (by decide) rfl kw_1151 ⟨rfl, rfl, rfl⟩ rfl (x := x_72) ⟨by omega, by omega⟩ rfl rfl rfl (List.mem_singleton.mpr rfl) dX10_begins_94 (fun H locs h_73 eh_73 hW hT hs => ?_)
              replace f_x_16 := (hs.o (gx.S hM) trivial rfl).1.trans f_x_16
              replace f_x_14 := (hs.o (gx.S hM) trivial rfl).1.trans f_x_14
              replace f_x_9 := (hs.o (gx.S hM) trivial rfl).1.trans f_x_9
              replace fw_14 := (hs.o (gx.S hM) trivial rfl).1.trans fw_14
              replace f_69 := (hs.o (gx.S hM) trivial rfl).1.trans f_69
              replace af_qs : h_73.2.1 qs = sf := (funext fun j => (hs.a (gqs.S hM) rfl j).1).trans af_qs
              replace nfa_65 : h_73.2.1 qo = fa_65 := (funext fun j => (hs.a (gqo.S hM) rfl j).1).trans nfa_65
              replace hM := hM.tr (hs.mono (by decide))
              have f_74 : h_73.2.1 x 8 = x_72 := by rw [eh_73]; exact hx_pi_at _ _ _ _
              refine lv_goto (tgt := 0) hx hb dX10_begins_97 (by decide) ?_
              exact ih0 x_67 x_72 fa_65 _ _ L_42 h_73 (by omega) (by omega) (by omega) (by omega) (by omega) (hx_QQ_open vi0_1 (by have q := hx_QQ_dp vi0_1; omega) (by have z1 : (100 : Int32).toInt = 100 := (by decide); have z2 : (2 : Int32).toInt = 2 := (by decide); omega) (hx_cl (by omega)) (by omega) dfa_65) (vi0_2.trans ((hv_RN_n (by rw [← eks]; exact hw2) hdp).trans (by rw [← eks, show w_13.toInt.toNat + 3 = x_72.toInt.toNat by omega, hv_ls_p (n := fw0_x_18.toInt.toNat) (z := 2) rfl (by omega) (by first | decide | omega) dfa_65]))) (by omega) ls (by omega) hW hT hM f_69 f_74 f_x_16 f_x_14 f_x_9 nfa_65 af_qs (lv_sub hl [2] rfl)
          · skip
            refine lv_aload_n hx hb dX10_begins_36 rfl (lv_at hl 2 rfl) ?_
            refine lv_iconst (v := 3) hx hb dX10_begins_37 (by decide) ?_
            refine lv_aload_n hx hb dX10_begins_38 rfl (lv_at hl 2 rfl) ?_
            refine hk_geti hx hb hts hC_10 hown hW (gx.S hM) tt_10 8 (by decide) rfl kw_1151 ⟨rfl, rfl, rfl⟩ fw_13 dX10_begins_39 ?_
            have zc_3 : (3 : Int32).toInt = 3 := by decide
            refine hx_goi (hx_runV (As := [.int (3 : Int32), .int w_13]) (rest := []) ⟨hx, hb, hml, hown, hts⟩ hW (gx.S hM) tt_10 (T := TX10) (N := 98) rfl (t_X10_fails_v l dC dI dA L_42 h_43 H.size x (3 : Int32) w_13 hT (gx.S hM) ft0 f_x_9 (by omega) (by decide) ⟨by omega, by omega⟩) (cwV 2 hts (hx_gV kw_1480 kw_1477 kw_1479 kw_56 kw_103) rfl rfl rfl (by decide +kernel) ⟨Nat.le_of_ble_eq_true rfl, Nat.le_of_ble_eq_true rfl⟩) rfl hl.1 rfl (Nat.le_of_ble_eq_true rfl) dX10_begins_42 ⟨Nat.le_of_ble_eq_true rfl, Nat.le_of_ble_eq_true rfl⟩) hW (fun r_77 L_75 h_76 H locs p_78 hW => ?_)
            obtain ⟨⟨w_80, fw_80, hr_79⟩, hT, hs⟩ := p_78
            replace hT : hx_T T_tb L_75 h_76 := hT
            replace hs : hx_S T_tb [(10, 9)] L_42 h_43 L_75 h_76 := hs
            replace f_x_16 := (hs.o (gx.S hM) trivial rfl).1.trans f_x_16
            replace f_x_14 := (hs.o (gx.S hM) trivial rfl).1.trans f_x_14
            replace ffw0_x_18 := (hs.o (gx.S hM) trivial rfl).1.trans ffw0_x_18
            replace fw_13 := (hs.o (gx.S hM) trivial rfl).1.trans fw_13
            replace fw_14 := (hs.o (gx.S hM) trivial rfl).1.trans fw_14
            replace af_qs : h_76.2.1 qs = sf := (funext fun j => (hs.a (gqs.S hM) rfl j).1).trans af_qs
            replace nia0_qo : h_76.2.1 qo = ia0_qo := (funext fun j => (hs.a (gqo.S hM) rfl j).1).trans nia0_qo
            replace hM := hM.tr (hs.mono (by decide))
            have fw_80 : h_76.2.1 x 9 = w_80 := fw_80
            have bw_80 := hT.gi (gx.S hM) tt_10 (k := 9) rfl
            rw [fw_80] at bw_80
            have bw_80 : -2147483648 ≤ w_80.toInt ∧ w_80.toInt ≤ 2147483647 := bw_80
            exact hx_retz hx hb hr (hx_nar01 (by omega)) hlk hW ⟨⟨cp0, w_13, st0, fw0_x_18, w_80, sf, ia0_qo, f_x_16, fw_13, f_x_14, ffw0_x_18, fw_80, af_qs, nia0_qo, ⟨by omega, by omega, (fun z => by exfalso; omega), (hv_BG_f (x := 4 + 8 * w_13.toInt.toNat) (by omega) (by omega) (by omega) (vi0_2.trans ((hv_RN_d (Or.inl (by rw [← eks]; exact hw2)) (by rw [hv_dp_ls]; omega)).trans (by rw [← eks])))), (fun z9 => by exfalso; omega)⟩⟩, hT, hM⟩ dX10_begins_45
        · skip
          have hb40 : ¬ (w_13.toInt.toNat < tp0.toInt.toNat ∧ (tf w_13.toInt.toNat).toInt = 40) := by rw [e12]; exact fun z9 => hv_SE_n (k := 40) hr_5S (by omega) ⟨by omega, z9.2, by decide⟩
          have hb2 : hv_wd tf tp0.toInt.toNat w_13.toInt.toNat ≠ 2 := by omega
          refine lv_aload_n hx hb dX10_begins_21 rfl (lv_at hl 2 rfl) ?_
          refine lv_iload_n hx hb dX10_begins_22 rfl (lv_at hl 0 rfl) ?_
          refine hx_goi (hx_runV (As := [.int r_10]) (rest := []) ⟨hx, hb, hml, hown, hts⟩ hW (gx.S hM) tt_10 (T := TX10) (N := 98) rfl (t_X10_compare_v l dC dI dA L_8 h_9 H.size x r_10 hT (gx.S hM) qs (gqs.S hM) ((hM.o gx trivial rfl).2.trans f_x_15) qo (gqo.S hM) ((hM.o gx trivial rfl).2.trans f_x_17) qt (gqt.S hM) ((hM.o gx trivial rfl).2.trans f_x_6) qw (gqw.S hM) ((hM.o gx trivial rfl).2.trans f_x_19) sf af_qs ia0_qo nia0_qo tf (hx_afS hM gqt rfl af_qt) wf (hx_afS hM gqw rfl af_qw) cp0 f_x_16 w_13 fw_13 st0 f_x_14 fw0_x_18 ffw0_x_18 tp0 ((hM.o gx trivial rfl).1.trans f_x_7) w_14 fw_14 ft0 f_x_9 (hx_QQ_next vi0_1 (by omega)) hwd o hO (by omega) (by omega) hr_12W hr_12E) (cwV 1 hts (hx_gV kw_1496 kw_1493 kw_1495 kw_60 kw_103) rfl rfl rfl (by decide +kernel) ⟨Nat.le_of_ble_eq_true rfl, Nat.le_of_ble_eq_true rfl⟩) rfl hl.1 rfl (Nat.le_of_ble_eq_true rfl) dX10_begins_23 ⟨Nat.le_of_ble_eq_true rfl, Nat.le_of_ble_eq_true rfl⟩) hW (fun r_83 L_81 h_82 H locs p_84 hW => ?_)
          obtain ⟨⟨w_86, w_87, w_88, w_89, w_90, fw_86, fw_87, fw_88, fw_89, fw_90, hr_85⟩, hT, hs⟩ := p_84
          replace hT : hx_T T_tb L_81 h_82 := hT
          replace hs : hx_S T_tb [(10, 8), (10, 9), (10, 10), (10, 11), (10, 14), (10, 16), (55, 0)] L_8 h_9 L_81 h_82 := hs
          replace ffw0_x_18 := (hs.o (gx.S hM) trivial rfl).1.trans ffw0_x_18
          replace nia0_qo : h_82.2.1 qo = ia0_qo := (funext fun j => (hs.a (gqo.S hM) rfl j).1).trans nia0_qo
          replace hM := hM.tr (hs.mono (by decide))
          have fw_86 : h_82.2.1 x 16 = w_86 := fw_86
          have bw_86 := hT.gi (gx.S hM) tt_10 (k := 16) rfl
          rw [fw_86] at bw_86
          have bw_86 : 0 ≤ w_86.toInt ∧ w_86.toInt ≤ 20 := bw_86
          have fw_87 : h_82.2.1 x 8 = w_87 := fw_87
          have bw_87 := hT.gi (gx.S hM) tt_10 (k := 8) rfl
          rw [fw_87] at bw_87
          have bw_87 : 0 ≤ w_87.toInt ∧ w_87.toInt ≤ 402 := bw_87
          have fw_88 : h_82.2.1 x 14 = w_88 := fw_88
          have bw_88 := hT.gi (gx.S hM) tt_10 (k := 14) rfl
          rw [fw_88] at bw_88
          have bw_88 : 0 ≤ w_88.toInt ∧ w_88.toInt ≤ 128 := bw_88
          have fw_89 : h_82.2.1 x 9 = w_89 := fw_89
          have bw_89 := hT.gi (gx.S hM) tt_10 (k := 9) rfl
          rw [fw_89] at bw_89
          have bw_89 : -2147483648 ≤ w_89.toInt ∧ w_89.toInt ≤ 2147483647 := bw_89
          have fw_90 : h_82.2.1 qs = w_90 := fw_90
          exact hx_retz hx hb hr (hx_nar01 (by omega)) hlk hW ⟨⟨w_86, w_87, w_88, fw0_x_18, w_89, w_90, ia0_qo, fw_86, fw_87, fw_88, ffw0_x_18, fw_89, fw_90, nia0_qo, ⟨by omega, by omega, hr_85.2.2.1, (hv_BG_K hr_85.2.2.2.1 (fun x h9 => vi0_2.trans (hv_RN_t0 (by rw [← eks]; exact hb2) (by rw [← eks]; exact hb40) (by rw [← eks]; exact h9))) (fun p1 t1 o1 h9 => vi0_2.trans (hv_RN_t1 (by rw [← eks]; exact hb2) (by rw [← eks]; exact hb40) (by rw [← eks]; exact h9)))), (fun z9 => by have h8 := hr_85.2.2.2.2 z9; exact ⟨by omega, by omega⟩)⟩⟩, hT, hM⟩ dX10_begins_26
  exact loop0 403 op0 nx0 of _ _ L h (by omega) (by omega) (by omega) (by omega) (by omega) hQ rfl (by omega) ls (by omega) hW hT hM f_x_18 f_x_8 f_x_16 f_x_14 f_x_9 af_qo af_qs hl
end
