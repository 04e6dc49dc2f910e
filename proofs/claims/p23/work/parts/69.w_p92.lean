/-! THE ACTS, A ROW EACH: row 0 is what holds without one -/
abbrev hv_act : Type := Int × (Nat → Int) × List hv_tok
def hv_A0 : hv_act := (-1, hv_W0, hv_o0)
/-- what an act's object holds -/
def hv_AQ (h : hx_h) (q : Nat) (m : Int) (a : hv_act) : Prop := (h.2.1 q 0).toInt = m ∧ (h.2.1 q 1).toInt = a.1 ∧ (∀ t, h.2.2 q 2 = some t → hv_rC (h.2.1 t) = a.2.1) ∧ (∀ p, h.2.2 q 3 = some p → hv_ls (h.2.1 p) (h.2.1 q 4).toInt.toNat = a.2.2.map hv_cc)
def hv_RA (h : hx_h) (qa w : Nat) (n : Int) (A : Nat → hv_act) : Prop := hv_AQ h w (-1) (A 0) ∧ ∀ j : Nat, (j : Int) < n → ∀ q, h.2.2 qa j = some q → hv_AQ h q (j : Int) (A (j + 1))
theorem hv_AQ_c {h h1 : hx_h} {q : Nat} {m : Int} {a : hv_act} (H : hv_AQ h q m a) (e0 : h1.2.1 q 0 = h.2.1 q 0) (e1 : h1.2.1 q 1 = h.2.1 q 1) (e4 : h1.2.1 q 4 = h.2.1 q 4) (r2 : h1.2.2 q 2 = h.2.2 q 2) (r3 : h1.2.2 q 3 = h.2.2 q 3) (et : ∀ t, h.2.2 q 2 = some t → h1.2.1 t = h.2.1 t) (ep : ∀ p, h.2.2 q 3 = some p → h1.2.1 p = h.2.1 p) : hv_AQ h1 q m a := by
  obtain ⟨a1, a2, a3, a4⟩ := H
  refine ⟨by rw [e0]; exact a1, by rw [e1]; exact a2, fun t ht => ?_, fun p hp => ?_⟩
  · rw [r2] at ht; rw [et t ht]; exact a3 t ht
  · rw [r3] at hp; rw [ep p hp, e4]; exact a4 p hp
section HVRA
variable {tb : List hx_d} {M : hx_m} {L L1 : List Nat} {h h1 : hx_h} {qa w ta tt tp ci t0 x t9 : Nat} {nn b2 b3 : Bool} {fs : List hx_f} {dt dp : Nat × Nat × hx_f} {n : Int} {A : Nat → hv_act}
theorem hv_RA_S (hs : hx_S tb M L h L1 h1) (hT : hx_T tb L h) (ga : hx_g L h qa ta) (gw : hx_g L h w 0) (hd : tb[ta]? = some (.inr (t0, 8, .inr (nn, [0])))) (h0 : tb[0]? = some (.inl (ci, fs))) (f2 : fs[2]? = some (.inr (b2, [tt]))) (f3 : fs[3]? = some (.inr (b3, [tp]))) (ma : M.any (fun q => q.1 == ta) = false) (m0 : M.any (fun q => q.1 == 0) = false) (mt : M.any (fun q => q.1 == tt) = false) (mp : M.any (fun q => q.1 == tp) = false) (hn : n ≤ 8) (H : hv_RA h qa w n A) : hv_RA h1 qa w n A := by
  have key : ∀ (q : Nat) (m : Int) (a : hv_act), hx_g L h q 0 → hv_AQ h q m a → hv_AQ h1 q m a := by
    intro q m a g H
    have e := fun j => hs.all g m0 j
    refine hv_AQ_c H (e 0).1 (e 1).1 (e 4).1 (e 2).2 (e 3).2 (fun t ht => ?_) (fun p hp => ?_)
    · obtain ⟨a1, a2⟩ := (hT.gr g h0 f2).2 t ht
      have gt : hx_g L h t tt := ⟨a1, by simpa using a2⟩
      exact funext fun j => (hs.all gt mt j).1
    · obtain ⟨a1, a2⟩ := (hT.gr g h0 f3).2 p hp
      have gt : hx_g L h p tp := ⟨a1, by simpa using a2⟩
      exact funext fun j => (hs.all gt mp j).1
  refine ⟨key w _ _ gw H.1, fun j hj q hq => ?_⟩
  rw [(hs.all ga ma j).2] at hq
  obtain ⟨c1, c2⟩ := (hT.er ga hd (k := j) (by omega)).2 q hq
  exact key q _ _ ⟨c1, by simpa using c2⟩ (H.2 j hj q hq)
theorem hv_RA_X (hs : hx_S tb M (hx_X L x) h L1 h1) (hT : hx_T tb L h) (ga : hx_g (hx_X L x) h qa ta) (gw : hx_g (hx_X L x) h w 0) (gx : hx_g L h x t9) (hd : tb[ta]? = some (.inr (t0, 8, .inr (nn, [0])))) (h0 : tb[0]? = some (.inl (ci, fs))) (f2 : fs[2]? = some (.inr (b2, [tt]))) (f3 : fs[3]? = some (.inr (b3, [tp]))) (ma : M.any (fun q => q.1 == ta) = false) (m0 : M.any (fun q => q.1 == 0) = false) (mt : M.any (fun q => q.1 == tt) = false) (mp : M.any (fun q => q.1 == tp) = false) (ne : ((0 : Nat) ≠ t9 ∧ tt ≠ t9) ∧ tp ≠ t9) (hn : n ≤ 8) (H : hv_RA h qa w n A) : hv_RA h1 qa w n A := by
  have key : ∀ (q : Nat) (m : Int) (a : hv_act), hx_g (hx_X L x) h q 0 → hv_AQ h q m a → hv_AQ h1 q m a := by
    intro q m a g H
    have e := fun j => hs.all g m0 j
    have g' : hx_g L h q 0 := ⟨(hx_X_m.mp g.1).1, g.2⟩
    refine hv_AQ_c H (e 0).1 (e 1).1 (e 4).1 (e 2).2 (e 3).2 (fun t ht => ?_) (fun p hp => ?_)
    · obtain ⟨a1, a2⟩ := (hT.gr g' h0 f2).2 t ht
      have a3 : h.1 t = tt := by simpa using a2
      have gt : hx_g (hx_X L x) h t tt := ⟨hx_X_m.mpr ⟨a1, fun z => ne.1.2 (by rw [← a3, z, gx.2])⟩, a3⟩
      exact funext fun j => (hs.all gt mt j).1
    · obtain ⟨a1, a2⟩ := (hT.gr g' h0 f3).2 p hp
      have a3 : h.1 p = tp := by simpa using a2
      have gt : hx_g (hx_X L x) h p tp := ⟨hx_X_m.mpr ⟨a1, fun z => ne.2 (by rw [← a3, z, gx.2])⟩, a3⟩
      exact funext fun j => (hs.all gt mp j).1
  refine ⟨key w _ _ gw H.1, fun j hj q hq => ?_⟩
  rw [(hs.all ga ma j).2] at hq
  obtain ⟨c1, c2⟩ := (hT.er ⟨(hx_X_m.mp ga.1).1, ga.2⟩ hd (k := j) (by omega)).2 q hq
  have c3 : h.1 q = 0 := by simpa using c2
  exact key q _ _ ⟨hx_X_m.mpr ⟨c1, fun z => ne.1.1 (by rw [← c3, z, gx.2])⟩, c3⟩ (H.2 j hj q hq)
/-- one more act -/
theorem hv_RA_p {q : Nat} {i : Int32} {a : hv_act} (H : hv_RA h qa w n A) (hT : hx_T tb L h) (ga : hx_g L h qa ta) (gw : hx_g L h w 0) (gq : hx_g L h q 0) (hd : tb[ta]? = some (.inr (t0, 8, .inr (nn, [0])))) (ne : (0 : Nat) ≠ ta) (hq : hv_AQ h q n a) (eh : h1 = hx_pr h qa i.toNatClampNeg (some q)) (hi : i.toInt = n) (h0 : 0 ≤ n) (hn : n ≤ 7) : hv_RA h1 qa w (n + 1) (fun k => if k = n.toNat + 1 then a else A k) := by
  have ei : i.toNatClampNeg = n.toNat := by unfold Int32.toNatClampNeg; omega
  subst eh
  have key2 : ∀ (q1 : Nat) (m : Int) (a1 : hv_act), hx_g L h q1 0 → hv_AQ h q1 m a1 → hv_AQ (hx_pr h qa i.toNatClampNeg (some q)) q1 m a1 := by
    intro q1 m a1 g H
    have nq : q1 ≠ qa := fun z => ne (by rw [← g.2, z, ga.2])
    exact hv_AQ_c H rfl rfl rfl (hx_pr_ne h (some q) (fun z => nq z.1)) (hx_pr_ne h (some q) (fun z => nq z.1)) (fun _ _ => rfl) (fun _ _ => rfl)
  refine ⟨?_, fun j hj q1 hq1 => ?_⟩
  · show hv_AQ _ w (-1) (if 0 = n.toNat + 1 then a else A 0)
    rw [if_neg (by omega)]
    exact key2 w _ _ gw H.1
  · show hv_AQ _ q1 j (if j + 1 = n.toNat + 1 then a else A (j + 1))
    by_cases z : j = n.toNat
    · rw [if_pos (by omega)]
      have e1 : (hx_pr h qa i.toNatClampNeg (some q)).2.2 qa j = some q := by
        rw [z, ← ei]; exact hx_pr_at _ _ _ _
      rw [e1] at hq1
      cases hq1
      rw [show ((j : Nat) : Int) = n by omega]
      exact key2 q _ _ gq hq
    · rw [if_neg (by omega)]
      rw [hx_pr_ne h (a := qa) (k := i.toNatClampNeg) (b := qa) (j := j) (some q) (fun y => z (by have := y.2; omega))] at hq1
      obtain ⟨c1, c2⟩ := (hT.er ga hd (k := j) (by omega)).2 q1 hq1
      exact key2 q1 _ _ ⟨c1, by simpa using c2⟩ (H.2 j (by omega) q1 hq1)
end HVRA
/-- the reference's rows -/
def hv_CR (adf rf psf prf : Nat → Int32) (j : Nat) (a : hv_act) : Prop := ((psf j).toInt ≤ 128 ∧ (1 ≤ j → (adf j).toInt = a.1 ∧ 0 ≤ a.1)) ∧ hv_rR (fun k => rf (13 * j + k)) = a.2.1 ∧ hv_ls (fun i => prf (128 * j + i)) (psf j).toInt.toNat = a.2.2.map hv_rc
def hv_CA (adf rf psf prf : Nat → Int32) (n : Int) (A : Nat → hv_act) : Prop := (A 0).1 = -1 ∧ ∀ j : Nat, (j : Int) ≤ n → hv_CR adf rf psf prf j (A j)
def hv_RL (rf0 rf1 rd : Nat → Int32) (a k : Int) : Prop := (∀ p : Nat, (p : Int) < 13 * a → rf1 p = rf0 p) ∧ ∀ j : Nat, (j : Int) < k → rf1 (13 * a.toNat + j) = rd j
theorem hv_RL_0 {rf rd : Nat → Int32} {a k : Int} (h : k ≤ 0) : hv_RL rf rf rd a k := ⟨fun _ _ => rfl, fun j hj => by exfalso; omega⟩
theorem hv_RL_s {rf0 rf rf1 rd : Nat → Int32} {a k k1 : Int} {i v l : Int32} (h : hv_RL rf0 rf rd a k) (ha : 0 ≤ a) (hk : 0 ≤ k) (hi : i.toInt = 13 * a + k) (hv : v = rd l.toNatClampNeg) (hl : l.toInt = k) (e : rf1 = hx_up rf i.toNatClampNeg v) (e1 : k1 = k + 1) : hv_RL rf0 rf1 rd a k1 := by
  have ei : ((i.toNatClampNeg : Nat) : Int) = i.toInt := by unfold Int32.toNatClampNeg; omega
  have el : ((l.toNatClampNeg : Nat) : Int) = l.toInt := by unfold Int32.toNatClampNeg; omega
  subst e
  refine ⟨fun p hp => ?_, fun j hj => ?_⟩
  · rw [hx_up_ne (by omega)]; exact h.1 p hp
  · by_cases z : j = k.toNat
    · rw [show 13 * a.toNat + j = i.toNatClampNeg by omega, hx_up_at, hv, show l.toNatClampNeg = j by omega]
    · rw [hx_up_ne (by omega)]; exact h.2 j (by omega)
theorem hv_ls_c2 {f g : Nat → Int32} {n m : Nat} (hn : n = m) (h : ∀ j, j < n → f j = g j) : hv_ls f n = hv_ls g m := by
  subst hn; exact hv_ls_c n h
theorem hv_rR_c {f g : Nat → Int32} (h : ∀ j, j < 13 → f j = g j) : hv_rR f = hv_rR g := by
  funext k
  show (if k < 13 then (f k).toInt else 0) = (if k < 13 then (g k).toInt else 0)
  by_cases z : k < 13
  · rw [if_pos z, if_pos z, h k z]
  · rw [if_neg z, if_neg z]
/-- one more row -/
theorem hv_CA_p {adf adf1 rf rf1 psf psf1 prf prf1 rd sf : Nat → Int32} {n m : Int} {A : Nat → hv_act} {a : hv_act} {i st d : Int32} (H : hv_CA adf rf psf prf n A) (h0 : 0 ≤ n) (hm : m = n + 1) (hi : i.toInt = m) (e1 : adf1 = hx_up adf i.toNatClampNeg d) (hd : d.toInt = a.1) (hd0 : 0 ≤ d.toInt) (e2 : hv_RL rf rf1 rd m 13) (hr : hv_rR rd = a.2.1) (e3 : psf1 = hx_up psf i.toNatClampNeg st) (e4 : hx_kp sf prf prf1 m st.toInt) (hs : st.toInt ≤ 128) (hl : hv_ls sf st.toInt.toNat = a.2.2.map hv_rc) : hv_CA adf1 rf1 psf1 prf1 m (fun k => if k = n.toNat + 1 then a else A k) := by
  have ei : ((i.toNatClampNeg : Nat) : Int) = m := by unfold Int32.toNatClampNeg; omega
  subst e1; subst e3
  refine ⟨by show (if 0 = n.toNat + 1 then a else A 0).1 = -1; rw [if_neg (by omega)]; exact H.1, fun j hj => ?_⟩
  show hv_CR _ _ _ _ j (if j = n.toNat + 1 then a else A j)
  by_cases z : j = n.toNat + 1
  · rw [if_pos z]
    refine ⟨⟨?_, fun _ => ?_⟩, ?_, ?_⟩
    · rw [show j = i.toNatClampNeg by omega, hx_up_at]; exact hs
    · rw [show j = i.toNatClampNeg by omega, hx_up_at]; exact ⟨hd, by omega⟩
    · rw [← hr]; exact hv_rR_c (fun k hk => by have := e2.2 k (by omega); rw [← this]; congr 1; omega)
    · rw [show j = i.toNatClampNeg by omega, hx_up_at, ← hl]
      exact hv_ls_c2 rfl (fun k hk => by have := e4.1 k (by omega); rw [← this]; congr 1; omega)
  · rw [if_neg z]
    obtain ⟨⟨a0, a1⟩, a2, a3⟩ := H.2 j (by omega)
    refine ⟨⟨?_, fun h1 => ?_⟩, ?_, ?_⟩
    · rw [hx_up_ne (by omega)]; exact a0
    · rw [hx_up_ne (by omega)]; exact a1 h1
    · rw [← a2]; exact hv_rR_c (fun k hk => e2.1 _ (by omega))
    · rw [← a3, hx_up_ne (by omega)]
      exact hv_ls_c2 rfl (fun k hk => e4.2 _ (Or.inl (by omega)))
/-- which row holds on a day -/
def hv_IF (A : Nat → hv_act) (d : Int) : Nat → Nat
  | 0 => 0
  | k + 1 => if (A (k + 1)).1 ≤ d ∧ (A (hv_IF A d k)).1 ≤ (A (k + 1)).1 then k + 1 else hv_IF A d k
theorem hv_IF_b {A : Nat → hv_act} {d : Int} : ∀ k, hv_IF A d k ≤ k
  | 0 => Nat.le_refl _
  | k + 1 => by
    have h := hv_IF_b (A := A) (d := d) k
    have e : hv_IF A d (k + 1) = (if (A (k + 1)).1 ≤ d ∧ (A (hv_IF A d k)).1 ≤ (A (k + 1)).1 then k + 1 else hv_IF A d k) := rfl
    rw [e]; split
    · exact Nat.le_refl _
    · exact Nat.le_trans h (Nat.le_succ k)
theorem hv_IF_y {A : Nat → hv_act} {d l l1 : Int} (h : (A (l.toNat + 1)).1 ≤ d ∧ (A (hv_IF A d l.toNat)).1 ≤ (A (l.toNat + 1)).1) (h0 : 0 ≤ l) (e : l1 = l + 1) : hv_IF A d l1.toNat = l.toNat + 1 := by
  rw [show l1.toNat = l.toNat + 1 by omega]; exact if_pos h
theorem hv_IF_n {A : Nat → hv_act} {d l l1 : Int} (h : ¬ ((A (l.toNat + 1)).1 ≤ d ∧ (A (hv_IF A d l.toNat)).1 ≤ (A (l.toNat + 1)).1)) (h0 : 0 ≤ l) (e : l1 = l + 1) : hv_IF A d l1.toNat = hv_IF A d l.toNat := by
  rw [show l1.toNat = l.toNat + 1 by omega]; exact if_neg h
/-- what force answers -/
def hv_FO (A : Nat → hv_act) (d i n r : Int) : Prop := ((d < 0 ∨ 7999 < d ∨ i < 0 ∨ 13 < i) ∧ r = -1) ∨ (¬ (d < 0 ∨ 7999 < d ∨ i < 0 ∨ 13 < i) ∧ ((i = 0 ∧ r = (hv_IF A d n.toNat : Int) - 1) ∨ (1 ≤ i ∧ r = (A (hv_IF A d n.toNat)).2.1 (i - 1).toNat)))
theorem hv_FO_eq {A : Nat → hv_act} {d i n r r' : Int} (h : hv_FO A d i n r) (h' : hv_FO A d i n r') : r = r' := by
  obtain ⟨_, h1⟩ | ⟨z, ⟨_, h1⟩ | ⟨_, h1⟩⟩ := h <;> obtain ⟨_, h2⟩ | ⟨z', ⟨_, h2⟩ | ⟨_, h2⟩⟩ := h' <;> first | exact h1.trans h2.symm | (exfalso; omega)
/-- the rows behind an act -/
def hv_AU (A : Nat → hv_act) (a0 a1 d : Int) (sp : Nat ⊕ hv_st) (A1 : Nat → hv_act) : Prop := (a1 = a0 ∧ A1 = A) ∨ (a1 = a0 + 1 ∧ ∃ x sn rd o, sp = .inr (x, sn, rd, o) ∧ A1 = (fun k => if k = a0.toNat + 1 then (d, rd, o) else A k))
theorem hv_AU_eq {A A1 A2 : Nat → hv_act} {a0 a1 d : Int} {sp : Nat ⊕ hv_st} (h : hv_AU A a0 a1 d sp A1) (h' : hv_AU A a0 a1 d sp A2) : A1 = A2 := by
  obtain ⟨z, h1⟩ | ⟨z, x, sn, rd, o, h1, h2⟩ := h <;> obtain ⟨z', h1'⟩ | ⟨z', x', sn', rd', o', h1', h2'⟩ := h'
  · exact h1.trans h1'.symm
  · exfalso; omega
  · exfalso; omega
  · rw [h1] at h1'
    have e := Sum.inr.inj h1'
    simp only [Prod.mk.injEq] at e
    rw [h2, h2', e.2.2.1, e.2.2.2]
theorem hv_AR_2 {e : hv_tok → Int} {sp : Nat ⊕ hv_st} {r : Int} {rd : Nat → Int} {ls : List Int} (h : hv_AR e sp r rd ls) (z : r ≤ 0) : ∃ x sn o, ls = o.map e ∧ sp = .inr (x, sn, rd, o) := by
  obtain ⟨_, w⟩ | ⟨a, _⟩ := h
  · exact w
  · exfalso; omega
theorem hv_CA_0 {adf rf psf psf1 prf prf1 sf : Nat → Int32} {i st : Int32} (hi : i.toInt = 0) (hr : hv_rR rf = hv_W0) (e3 : psf1 = hx_up psf i.toNatClampNeg st) (e4 : hx_kp sf prf prf1 i.toInt st.toInt) (hs : st.toInt ≤ 128) (hl : hv_ls sf st.toInt.toNat = hv_o0.map hv_rc) : hv_CA adf rf psf1 prf1 0 (fun _ => hv_A0) := by
  refine ⟨rfl, fun j hj => ?_⟩
  have hj0 : j = 0 := by omega
  subst hj0; subst e3
  have ei : i.toNatClampNeg = 0 := by unfold Int32.toNatClampNeg; omega
  refine ⟨⟨?_, fun h => absurd h (by omega)⟩, ?_, ?_⟩
  · rw [ei, hx_up_at]; exact hs
  · show hv_rR (fun k => rf (13 * 0 + k)) = hv_W0
    rw [← hr]; exact hv_rR_c (fun k hk => by congr 1; omega)
  · rw [ei, hx_up_at]
    show _ = hv_o0.map hv_rc
    rw [← hl]
    exact hv_ls_c2 rfl (fun k hk => by
      have h8 := e4.1 k (by omega)
      rw [hi] at h8
      rw [show 128 * 0 + k = 128 * (0 : Int).toNat + k by simp]; exact h8)
