/-! THE REFERENCE'S CLAUSES -/
theorem hv_rx_b {k : Nat} (h : k < 14) : hv_rx k ≤ 20 := by unfold hv_rx; split <;> omega
theorem hv_rx_i {i : Int32} (h0 : 0 ≤ i.toInt) (h1 : i.toInt ≤ 12) : i.toInt = ((hv_rx i.toInt.toNat : Nat) : Int) := by
  unfold hv_rx; rw [if_neg (by omega)]; omega
theorem hv_sR_a {x i : Int32} {k : Nat} (hk : k < 14) (hi : i.toInt = ((hv_rx k : Nat) : Int)) : hv_sR x k = x.toBitVec.getLsbD i.toInt.toNat := by
  show (if k < 14 then x.toBitVec.getLsbD (hv_rx k) else false) = _
  rw [if_pos hk, hi, Int.toNat_natCast]
/-- a number of a clause, told once -/
def hv_IN (r ft ft0 i : Int) (k : Nat) (sn sn1 : Nat → Bool) : Prop := (r = 1 ∧ ft = ft0 ∧ sn k = false ∧ sn1 = hv_ub sn k) ∨ (r = 0 ∧ sn k = true ∧ ft = 3 + 8 * i)
section HVIN
variable {r ft ft0 i : Int} {k : Nat} {sn sn1 : Nat → Bool}
theorem hv_IN_1 (h : hv_IN r ft ft0 i k sn sn1) (z : 1 ≤ r) : ft = ft0 ∧ sn k = false ∧ sn1 = hv_ub sn k := by
  rcases h with ⟨_, w⟩ | ⟨a, _⟩
  · exact w
  · exfalso; omega
theorem hv_IN_0 (h : hv_IN r ft ft0 i k sn sn1) (z : r ≤ 0) : sn k = true ∧ ft = 3 + 8 * i := by
  rcases h with ⟨a, _⟩ | ⟨_, w⟩
  · exfalso; omega
  · exact w
theorem hv_IN_b (h : hv_IN r ft ft0 i k sn sn1) : r = 0 ∨ r = 1 := by
  rcases h with ⟨a, _⟩ | ⟨a, _⟩
  · exact Or.inr a
  · exact Or.inl a
end HVIN
theorem hv_lo_e {i r n : Int} (e : r = n) (h0 : 0 ≤ i) (h : ((i = 1 ∨ i = 3 ∨ 8 ≤ i) ∧ n = 0) ∨ (¬ (i = 1 ∨ i = 3 ∨ 8 ≤ i) ∧ n = 1)) : r = hv_lo i.toNat := by
  unfold hv_lo; split <;> omega
theorem hv_hi_e {i r n : Int} (e : r = n) (h : (i = 0 ∧ n = 9999) ∨ (i = 1 ∧ n = 365) ∨ (i = 2 ∧ n = 999) ∨ (i = 3 ∧ n = 999) ∨ (i = 4 ∧ n = 20) ∨ (i = 5 ∧ n = 20) ∨ (i = 6 ∧ n = 30) ∨ (i = 7 ∧ n = 400) ∨ (i = 8 ∧ n = 40) ∨ (9 ≤ i ∧ n = 999)) : r = hv_hi i.toNat := by
  rw [e]
  rcases h with ⟨a, b⟩ | ⟨a, b⟩ | ⟨a, b⟩ | ⟨a, b⟩ | ⟨a, b⟩ | ⟨a, b⟩ | ⟨a, b⟩ | ⟨a, b⟩ | ⟨a, b⟩ | ⟨a, b⟩
  all_goals first | (rw [a, b]; rfl) | (rw [b, hv_hi9 (by omega)])
/-- what stands where nothing is told -/
def hv_W0 : Nat → Int := fun k => if k < 13 then (P_wo (k + 1)).toInt else 0
def hv_o0 : List hv_tok := [(0, 1, 0), (2, 2, 0), (1, 2, 1)]
theorem hv_W0_e {i r n : Int} (e : r = n) (h : (i = 0 ∧ n = 480) ∨ (i = 1 ∧ n = 30) ∨ (i = 2 ∧ n = 12) ∨ (i = 3 ∧ n = 60) ∨ (i = 4 ∧ n = 2) ∨ (i = 5 ∧ n = 4) ∨ (i = 6 ∧ n = 1) ∨ (i = 7 ∧ n = 40) ∨ (i = 8 ∧ n = 21) ∨ (9 ≤ i ∧ i ≤ 12 ∧ n = 0)) : r = hv_W0 i.toNat := by
  rw [e]
  rcases h with ⟨a, b⟩ | ⟨a, b⟩ | ⟨a, b⟩ | ⟨a, b⟩ | ⟨a, b⟩ | ⟨a, b⟩ | ⟨a, b⟩ | ⟨a, b⟩ | ⟨a, b⟩ | ⟨a, a2, b⟩
  all_goals try (rw [a, b]; first | decide | rfl)
  rw [b]
  rcases (show i = 9 ∨ i = 10 ∨ i = 11 ∨ i = 12 by omega) with z | z | z | z <;> rw [z] <;> decide
theorem hv_rC_0 {f : Nat → Int32} (h : ∀ j, j < 14 → f j = P_wo j) : hv_rC f = hv_W0 := by
  funext k
  show (if k < 13 then (f (k + 1)).toInt else 0) = (if k < 13 then (P_wo (k + 1)).toInt else 0)
  by_cases z : k < 13
  · rw [if_pos z, if_pos z, h _ (by omega)]
  · rw [if_neg z, if_neg z]
def hv_WI (f : Nat → Int32) (n : Int) : Prop := ∀ k : Nat, (k : Int) < n → (f k).toInt = hv_W0 k
theorem hv_WI_0 {f : Nat → Int32} {n : Int} (h : n ≤ 0) : hv_WI f n := fun k hk => by exfalso; omega
theorem hv_WI_s {f f1 : Nat → Int32} {i v : Int32} {j : Int} (h : hv_WI f i.toInt) (e : f1 = hx_up f i.toNatClampNeg v) (h0 : 0 ≤ i.toInt) (hv : v.toInt = hv_W0 i.toInt.toNat) (hj : j = i.toInt + 1) : hv_WI f1 j := fun k hk => by
  by_cases z : k = i.toInt.toNat
  · rw [e, z]; exact (congrArg Int32.toInt (hx_up_at (f := f) (k := i.toNatClampNeg) (v := v))).trans hv
  · rw [e, hx_up_ne (by unfold Int32.toNatClampNeg; omega)]; exact h k (by omega)
theorem hv_WI_e {f : Nat → Int32} {n : Int} (h : hv_WI f n) (hn : 13 ≤ n) : hv_rR f = hv_W0 := by
  funext k
  show (if k < 13 then (f k).toInt else 0) = _
  by_cases z : k < 13
  · rw [if_pos z, h k (by omega)]
  · rw [if_neg z]; show _ = (if k < 13 then (P_wo (k + 1)).toInt else 0); rw [if_neg z]
section HVCM
variable {T : Nat → Int32} {n p : Nat} {e : hv_tok → Int} {sp : Nat ⊕ hv_st} {sn : Nat → Bool} {rd : Nat → Int} {o : List hv_tok}
theorem hv_cl_p (h : hv_wd T n (hv_sk T n p) = 20) (hs : sn 13 = false) : hv_cl T n p sn rd o = hv_bd (hv_LE T n 8 false false (hv_we T n (hv_sk T n p)) 0 []) (fun q => .inr (q.1, hv_ub sn 13, rd, q.2.2)) := by
  unfold hv_cl; rw [if_pos (by omega), if_pos h, if_neg (by rw [hs]; decide)]
/-- what the reference answers of a CLAUSE: a ) too many is told here, or behind it -/
def hv_CM (T : Nat → Int32) (n : Nat) (e : hv_tok → Int) (sp : Nat ⊕ hv_st) (r ft p : Int) (sn : Nat → Bool) (rd : Nat → Int) (ls : List Int) : Prop :=
  (r = 1 ∧ ft = 0 ∧ 0 ≤ p ∧ ∃ o, ls = o.map e ∧ sp = .inr (p.toNat, sn, rd, o)) ∨ (r = 0 ∧ 1 ≤ ft ∧ ∀ s : hv_st, hv_cl T n s.1 s.2.1 s.2.2.1 s.2.2.2 = sp → hv_AL T n s = .inl ft.toNat)
variable {r ft q : Int} {ls : List Int}
theorem hv_CM_1 (h : hv_CM T n e sp r ft q sn rd ls) (z : 1 ≤ r) : ft = 0 ∧ 0 ≤ q ∧ ∃ o, ls = o.map e ∧ sp = .inr (q.toNat, sn, rd, o) := by
  rcases h with ⟨_, w⟩ | ⟨a, _⟩
  · exact w
  · exfalso; omega
theorem hv_CM_0 (h : hv_CM T n e sp r ft q sn rd ls) (z : r ≤ 0) : 1 ≤ ft ∧ ∀ s : hv_st, hv_cl T n s.1 s.2.1 s.2.2.1 s.2.2.2 = sp → hv_AL T n s = .inl ft.toNat := by
  rcases h with ⟨a, _⟩ | ⟨_, w⟩
  · exfalso; omega
  · exact w
theorem hv_CM_b (h : hv_CM T n e sp r ft q sn rd ls) : r = 0 ∨ r = 1 := by
  rcases h with ⟨a, _⟩ | ⟨a, _⟩
  · exact Or.inr a
  · exact Or.inl a
theorem hv_CM_f {x : Nat} (hr : r = 0) (hf : ft = (x : Int)) (hx : 1 ≤ x) (h : sp = .inl x) : hv_CM T n e sp r ft q sn rd ls := Or.inr ⟨hr, by omega, fun s hs => by rw [hv_AL_1 (hs.trans h), hf, Int.toNat_natCast]⟩
theorem hv_CM_t {x : Nat} {sn' : Nat → Bool} {rd' : Nat → Int} {o : List hv_tok} (hr : r = 1) (hf : ft = 0) (hp : q = (x : Int)) (hs : sn = sn') (hd : rd = rd') (hl : ls = o.map e) (h : sp = .inr (x, sn', rd', o)) : hv_CM T n e sp r ft q sn rd ls := Or.inl ⟨hr, hf, by omega, o, hl, by rw [h, hp, hs, hd, Int.toNat_natCast]⟩
theorem hv_CM_p {u : Nat} {t : Int} (h : hv_K e (hv_RN T n true u 0 [] []) r ft q t ls) (hs : sp = hv_bd (hv_LE T n 8 false false u 0 []) (fun q => .inr (q.1, sn, rd, q.2.2))) : hv_CM T n e sp r ft q sn rd ls := by
  rw [hv_top] at h
  cases hL : hv_LE T n 8 false false u 0 [] with
  | inl x =>
    rw [hL, hv_bd_l] at h hs
    rcases h with ⟨_, _, _, _, o, _, h9⟩ | ⟨a, b, c⟩
    · cases h9
    · have c' : x = ft.toNat := Sum.inl.inj c
      exact hv_CM_f (x := x) a (by omega) (by omega) hs
  | inr w =>
    rw [hL, hv_bd_r] at h hs
    by_cases z : w.1 < n ∧ (T w.1).toInt = 41
    · rw [if_pos z] at h
      rcases h with ⟨_, _, _, _, o, _, h9⟩ | ⟨a, b, c⟩
      · cases h9
      · have c' : 1 + 8 * w.1 = ft.toNat := Sum.inl.inj c
        refine Or.inr ⟨a, b, fun s hc => ?_⟩
        have hk : hv_sk T n w.1 = w.1 := hv_sn_e (fun _ => by unfold hv_bl; rw [z.2]; decide)
        have h3 := hv_AL_3 (s := s) (hc.trans hs) (show hv_sk T n w.1 < n by rw [hk]; exact z.1) (show (T (hv_sk T n w.1)).toInt ≠ 59 by rw [hk, z.2]; decide)
        exact h3.trans (by show (Sum.inl (1 + 8 * hv_sk T n w.1) : Nat ⊕ hv_st) = _; rw [hk, c'])
    · rw [if_neg z] at h
      rcases h with ⟨a, b, c, d, o, f, h9⟩ | ⟨_, _, h9⟩
      · have h8 : w = (q.toNat, t.toNat, o) := Sum.inr.inj h9
        exact Or.inl ⟨a, b, c, o, f, by rw [hs, h8]⟩
      · cases h9
end HVCM
/-- what stands at the head of the reference's loop over clauses -/
def hv_MI (T : Nat → Int32) (n : Nat) (sp : Nat ⊕ hv_st) (g m ft p : Int) (sn : Nat → Bool) (rd : Nat → Int) (ls : List Int) : Prop :=
  (g = 1 ∧ m = 1 ∧ ft = 0 ∧ 0 ≤ p ∧ p ≤ n ∧ ∃ o, ls = o.map hv_rc ∧ sp = hv_AL T n (p.toNat, sn, rd, o)) ∨ (g = 1 ∧ m = 0 ∧ ∃ x sn' o, ls = o.map hv_rc ∧ sp = .inr (x, sn', rd, o)) ∨ (g = 0 ∧ 1 ≤ ft ∧ sp = .inl ft.toNat)
section HVMI
variable {T : Nat → Int32} {n : Nat} {sp : Nat ⊕ hv_st} {g m ft p : Int} {sn : Nat → Bool} {rd : Nat → Int} {ls : List Int}
theorem hv_MI_1 (h : hv_MI T n sp g m ft p sn rd ls) (z : 1 ≤ g) (y : 1 ≤ m) : ft = 0 ∧ 0 ≤ p ∧ p ≤ n ∧ ∃ o, ls = o.map hv_rc ∧ sp = hv_AL T n (p.toNat, sn, rd, o) := by
  obtain ⟨_, _, w⟩ | ⟨_, w, _⟩ | ⟨w, _⟩ := h
  · exact w
  · exfalso; omega
  · exfalso; omega
theorem hv_MI_2 (h : hv_MI T n sp g m ft p sn rd ls) (z : 1 ≤ g) (y : m ≤ 0) : ∃ x sn' o, ls = o.map hv_rc ∧ sp = .inr (x, sn', rd, o) := by
  obtain ⟨_, w, _⟩ | ⟨_, _, w⟩ | ⟨w, _⟩ := h
  · exfalso; omega
  · exact w
  · exfalso; omega
theorem hv_MI_0 (h : hv_MI T n sp g m ft p sn rd ls) (z : g ≤ 0) : 1 ≤ ft ∧ sp = .inl ft.toNat := by
  obtain ⟨w, _⟩ | ⟨w, _⟩ | ⟨_, w⟩ := h
  · exfalso; omega
  · exfalso; omega
  · exact w
theorem hv_MI_t {x : Nat} {o : List hv_tok} (hg : g = 1) (hm : m = 1) (hf : ft = 0) (hp : p = (x : Int)) (hn : p ≤ n) (hl : ls = o.map hv_rc) (h : sp = hv_AL T n (x, sn, rd, o)) : hv_MI T n sp g m ft p sn rd ls := Or.inl ⟨hg, hm, hf, by omega, hn, o, hl, by rw [h, hp, Int.toNat_natCast]⟩
theorem hv_MI_f {x : Nat} (hg : g = 0) (hf : ft = (x : Int)) (hx : 1 ≤ x) (h : sp = .inl x) : hv_MI T n sp g m ft p sn rd ls := Or.inr (Or.inr ⟨hg, by omega, by rw [h, hf, Int.toNat_natCast]⟩)
end HVMI
theorem hv_ACT_1 {T : Nat → Int32} {n : Nat} {rd : Nat → Int} {o : List hv_tok} (h : hv_sk T n 0 < n) : hv_ACT T n rd o = hv_AL T n (hv_sk T n 0, (fun _ => false), rd, o) := if_pos h
theorem hv_ACT_0 {T : Nat → Int32} {n : Nat} {rd : Nat → Int} {o : List hv_tok} (h : ¬ hv_sk T n 0 < n) : hv_ACT T n rd o = .inr (hv_sk T n 0, (fun _ => false), rd, o) := if_neg h
/-- what is answered of a text to be kept: refused, at fault, kept -/
def hv_AN (full : Prop) (sp : Nat ⊕ hv_st) (r : Int32) (a0 a1 t0 t1 : Int) : Prop :=
  (full ∧ r = -1 ∧ a1 = a0 ∧ t1 = t0) ∨ (¬ full ∧ t1 = 0 ∧ a1 = a0 ∧ ∃ x : Int32, 1 ≤ x.toInt ∧ sp = .inl x.toInt.toNat ∧ r = -2 - x) ∨ (¬ full ∧ t1 = 0 ∧ a1 = a0 + 1 ∧ (∃ q, sp = .inr q) ∧ r.toInt = a0)
theorem hv_AN_eq {f f' : Prop} {sp sp' : Nat ⊕ hv_st} {r r' : Int32} {a0 a1 t0 t1 a0' a1' t0' t1' : Int} (h : hv_AN f sp r a0 a1 t0 t1) (h' : hv_AN f' sp' r' a0' a1' t0' t1') (hf : f ↔ f') (hs : sp = sp') (ha : a0 = a0') (ht : t0 = t0') : r = r' ∧ a1 = a1' ∧ t1 = t1' := by
  subst hs
  obtain ⟨a, b, c, d⟩ | ⟨a, b, c, x, d, e, g⟩ | ⟨a, b, c, ⟨q, d⟩, e⟩ := h <;> obtain ⟨a', b', c', d'⟩ | ⟨a', b', c', x', d', e', g'⟩ | ⟨a', b', c', ⟨q', d'⟩, e'⟩ := h'
  · exact ⟨b.trans b'.symm, by omega, by omega⟩
  · exact absurd (hf.mp a) a'
  · exact absurd (hf.mp a) a'
  · exact absurd (hf.mpr a') a
  · have hx : x.toInt.toNat = x'.toInt.toNat := by rw [e] at e'; exact Sum.inl.inj e'
    have hy : x = x' := Int32.toInt_inj.mp (by omega)
    exact ⟨by rw [g, g', hy], by omega, by omega⟩
  · rw [e] at d'; cases d'
  · exact absurd (hf.mpr a') a
  · rw [e'] at d; cases d
  · exact ⟨Int32.toInt_inj.mp (by omega), by omega, by omega⟩
