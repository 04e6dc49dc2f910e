section
/-! NEW ROWS: what is stored into them is nobody else's -/
theorem hx_S_pn {tb : List hx_d} {M : hx_m} {L L1 : List Nat} {h h1 h2 : hx_h} {q k : Nat} {x : Int32} (hM : hx_S tb M L h L1 h1) (nq : ∀ a ∈ L, a ≠ q) (e : h2 = hx_pi h1 q k x) : hx_S tb M L h L1 h2 := by
  subst e
  refine ⟨fun a ha => hM.1 a ha, fun a ha j hj => ?_⟩
  obtain ⟨y1, y2⟩ := hM.2 a ha j hj
  exact ⟨by rw [hx_pi_ne _ _ (fun z => nq a ha z.1)]; exact y1, y2⟩
theorem hv_bn3 {f f1 f2 f3 : Nat → Int32} {v : Int32} (d1 : f1 = hx_up f (0 : Int32).toNatClampNeg v) (d2 : f2 = hx_up f1 (1 : Int32).toNatClampNeg v) (d3 : f3 = hx_up f2 (2 : Int32).toNatClampNeg v) : f3 0 = v ∧ f3 1 = v ∧ f3 2 = v := by
  have k0 : (0 : Int32).toNatClampNeg = 0 := by decide
  have k1 : (1 : Int32).toNatClampNeg = 1 := by decide
  have k2 : (2 : Int32).toNatClampNeg = 2 := by decide
  rw [k0] at d1; rw [k1] at d2; rw [k2] at d3
  subst d1; subst d2; subst d3
  refine ⟨?_, ?_, ?_⟩
  · rw [hx_up_ne (by omega), hx_up_ne (by omega), hx_up_at]
  · rw [hx_up_ne (by omega), hx_up_at]
  · rw [hx_up_at]
/-! HEARD: both sides alike -/
theorem hv_HC_e {ff ff' hf df df' agf : Nat → Int32} {n i d len len' : Int} (e1 : hx_eqN 100 ff ff') (e2 : hx_eqN 40 df df') (ha : ∀ k, k < 100 → 0 ≤ (agf k).toInt ∧ (agf k).toInt ≤ 39) (hn : n ≤ 100) (el : len = len') : hv_HC ff hf df agf n i d len ↔ hv_HC ff' hf df' agf n i d len' := by
  by_cases hi : 0 ≤ i ∧ i < n
  · have k1 := e1 i.toNat (by omega)
    have b := ha i.toNat (by omega)
    have k2 := e2 (agf i.toNat).toInt.toNat (by omega)
    unfold hv_HC
    rw [k1, k2, el]
  · exact ⟨fun h => absurd h.1 hi, fun h => absurd h.1 hi⟩
theorem hv_fs_e {jf jf' df df' kf : Nat → Int32} {p q : Nat} (ej : hx_eqN 40 jf jf') (ed : hx_eqN 40 df df') : ∀ n, n ≤ 40 → hv_fs jf df kf p q n = hv_fs jf' df' kf p q n
  | 0, _ => rfl
  | n + 1, h => by
    have ih := hv_fs_e (kf := kf) (p := p) (q := q) ej ed n (by omega)
    have ef : hv_ft jf df kf p q n = hv_ft jf' df' kf p q n := by
      unfold hv_ft
      rw [ej n (by omega), ed n (by omega)]
    show (if hv_ft jf df kf p q n = true then hv_fs jf df kf p q n ++ [n] else hv_fs jf df kf p q n) = (if hv_ft jf' df' kf p q n = true then hv_fs jf' df' kf p q n ++ [n] else hv_fs jf' df' kf p q n)
    rw [ef, ih]
theorem hv_HS_2 {C C' : Prop} {i nw m0 m1 r m1' r' : Int32} {J J' : Int} {hf hf1 uf uf1 hof hof1 hf1' uf1' hof1' : Nat → Int32} (h : hv_HS C i nw m0 m1 r J hf hf1 uf uf1 hof hof1) (h' : hv_HS C' i nw m0 m1' r' J' hf hf1' uf uf1' hof hof1') (hC : C ↔ C') (e : C → r.toInt ≠ -1 → r'.toInt ≠ -1 → J = J') : r = r' ∧ m1 = m1' ∧ hf1 = hf1' ∧ uf1 = uf1' ∧ hof1 = hof1' := by
  rcases h with ⟨a1, a2, a3, a4, a5, a6⟩ | ⟨a1, a2, a0, a3, a4, a5, a6⟩ <;> rcases h' with ⟨b1, b2, b3, b4, b5, b6⟩ | ⟨b1, b2, b0, b3, b4, b5, b6⟩
  · exact ⟨Int32.toInt_inj.mp (a1.trans b1.symm), a3.trans b3.symm, a4.trans b4.symm, a5.trans b5.symm, a6.trans b6.symm⟩
  · exact absurd (hC.mpr b1) a2
  · exact absurd (hC.mp a1) b2
  · have er : r = r' := Int32.toInt_inj.mp (a2.trans ((e a1 (by omega) (by omega)).trans b2.symm))
    subst er
    exact ⟨rfl, Int32.toInt_inj.mp (a3.trans b3.symm), a4.trans b4.symm, a5.trans b5.symm, a6.trans b6.symm⟩
theorem hv_FR_h {cF cF1 rf rf1 nf wf sf hf hf1 : Nat → Int32} {n : Int} {c : Nat} {a0 a1 a4 a5 v : Int32} {a6 : Int} (H : hv_FR cF rf nf wf sf hf n) (hc : (c : Int) < n) (hh : (hf c).toInt = -1) (cu : hv_CU cF cF1 c a0 a1 a4 a5 a6) (cv : hv_CV rf rf1 c a0 a1 (nf c) (wf c) a4 a5 a6 (sf c)) (e : hf1 = hx_up hf c v) (hv : v.toInt ≠ -1) : hv_FR cF1 rf1 nf wf sf hf1 n ∧ ∀ k, k < 8 → cF1 (k + 8 * c) = rf1 (k + 8 * c) := by
  obtain ⟨u, u0, u1, u2, u3, u4, u5, u6, u7⟩ := cu
  obtain ⟨w, w0, w1, w2, w3, w4, w5, w6, w7⟩ := cv
  obtain ⟨t2, t3, t7⟩ := (H c hc).2 hh
  have key : ∀ k, k < 8 → cF1 (k + 8 * c) = rf1 (k + 8 * c) := by
    intro k hk
    rcases (show k = 0 ∨ k = 1 ∨ k = 2 ∨ k = 3 ∨ k = 4 ∨ k = 5 ∨ k = 6 ∨ k = 7 by omega) with z | z | z | z | z | z | z | z <;> subst z
    · exact u0.trans w0.symm
    · exact u1.trans w1.symm
    · exact (u2.trans t2).trans w2.symm
    · exact (u3.trans t3).trans w3.symm
    · exact u4.trans w4.symm
    · exact u5.trans w5.symm
    · exact Int32.toInt_inj.mp (u6.trans w6.symm)
    · exact (u7.trans t7).trans w7.symm
  refine ⟨fun d hd => ?_, key⟩
  subst e
  by_cases z : d = c
  · rw [z, hx_up_at]
    exact ⟨fun _ => key, fun q => absurd q hv⟩
  · rw [hx_up_ne z]
    obtain ⟨x1, x2⟩ := H d hd
    refine ⟨fun q k hk => ?_, fun q => ?_⟩
    · rw [u d k hk z, w d k hk z]; exact x1 q k hk
    · rw [u d 2 (by omega) z, u d 3 (by omega) z, u d 7 (by omega) z]; exact x2 q
theorem hv_HR {C C' P P' Q Q' : Prop} {i nw m0 m1 m1' r r' a0 a1 a4 a5 : Int32} {a6 n fr bo su sp : Int} {R : Nat → Int} {o : List hv_tok} {cF cF1 rf rf1 nf wf sf hf hf1 hf1' uf uf1 uf1' hof hof1 hof1' : Nat → Int32} (H : hv_FR cF rf nf wf sf hf n) (hnw : 0 ≤ nw.toInt) (h : hv_HS C i nw m0 m1 r (hv_jg (hv_F0 cF1 (8 * i.toNatClampNeg)) R o fr bo su sp) hf hf1 uf uf1 hof hof1) (h' : hv_HS C' i nw m0 m1' r' (hv_jg (hv_F0 rf1 (8 * i.toNatClampNeg)) R o fr bo su sp) hf hf1' uf uf1' hof hof1') (hC : C ↔ C') (hO : hv_OK o) (hc : C → (i.toNatClampNeg : Int) < n ∧ (hf i.toNatClampNeg).toInt = -1) (c : (r.toInt = -1 ∧ cF1 = cF ∧ P) ∨ (r.toInt ≠ -1 ∧ hv_CU cF cF1 i.toNatClampNeg a0 a1 a4 a5 a6 ∧ Q)) (c' : (r'.toInt = -1 ∧ rf1 = rf ∧ P') ∨ (r'.toInt ≠ -1 ∧ hv_CV rf rf1 i.toNatClampNeg a0 a1 (nf i.toNatClampNeg) (wf i.toNatClampNeg) a4 a5 a6 (sf i.toNatClampNeg) ∧ Q')) : (r = r' ∧ m1 = m1' ∧ hf1 = hf1' ∧ uf1 = uf1' ∧ hof1 = hof1') ∧ hv_FR cF1 rf1 nf wf sf hf1' n := by
  have hE : r = r' ∧ m1 = m1' ∧ hf1 = hf1' ∧ uf1 = uf1' ∧ hof1 = hof1' := by
    refine hv_HS_2 h h' hC (fun z1 z2 z3 => ?_)
    obtain ⟨y1, y2⟩ := hc z1
    rcases c with ⟨w, _⟩ | ⟨_, cu, _⟩
    · exact absurd w z2
    rcases c' with ⟨w, _⟩ | ⟨_, cv, _⟩
    · exact absurd w z3
    have hv : nw.toInt ≠ -1 := by omega
    have key := (hv_FR_h (hf1 := hx_up hf i.toNatClampNeg nw) H y1 y2 cu cv rfl hv).2
    exact hv_jg_e hO (fun k hk => congrArg Int32.toInt (key k hk))
  refine ⟨hE, ?_⟩
  rcases c with ⟨w, e1, _⟩ | ⟨w, cu, _⟩
  · rcases c' with ⟨w', e1', _⟩ | ⟨w', _⟩
    · rw [e1, e1']
      rcases h' with ⟨_, _, _, e4, _⟩ | ⟨_, b2, b0, _⟩
      · rw [e4]; exact H
      · exfalso; omega
    · exfalso; rw [hE.1] at w; exact w' w
  · rcases c' with ⟨w', _⟩ | ⟨w', cv, _⟩
    · exfalso; rw [hE.1] at w; exact w w'
    · rcases h' with ⟨b1, _⟩ | ⟨b1, _, _, _, e4, _⟩
      · exact absurd b1 w'
      · obtain ⟨y1, y2⟩ := hc (hC.mpr b1)
        exact (hv_FR_h H y1 y2 cu cv e4 (by omega)).1
theorem hv_BB {Y Y' X X' : Prop} {l l' : List Nat} {r r' : Int32} {p p' : Int} {k : Nat} {bF bF1 bf1 : Nat → Int32} (er : r = r') (el : l = l') (ep : p = p') (h : (r.toInt = -1 ∧ X ∧ bF1 = bF) ∨ (r.toInt ≠ -1 ∧ Y ∧ ∃ b0 b1 b2 : Int32, hv_BN l p b0 b1 b2 ∧ bF1 = hx_up (hx_up (hx_up bF (0 + 3 * k) b0) (1 + 3 * k) b1) (2 + 3 * k) b2)) (h' : (r'.toInt = -1 ∧ X' ∧ bf1 = bF) ∨ (r'.toInt ≠ -1 ∧ Y' ∧ ∃ b0 b1 b2 : Int32, hv_BN l' p' b0 b1 b2 ∧ bf1 = hx_up (hx_up (hx_up bF (3 * k) b0) (3 * k + 1) b1) (3 * k + 2) b2)) : bF1 = bf1 := by
  subst er; subst el; subst ep
  rcases h with ⟨z, _, e⟩ | ⟨z, _, b0, b1, b2, hb, e⟩ <;> rcases h' with ⟨z', _, e'⟩ | ⟨z', _, c0, c1, c2, hc, e'⟩
  · exact e.trans e'.symm
  · exact absurd z z'
  · exact absurd z' z
  · obtain ⟨q0, q1, q2⟩ := hv_BN_u hb hc
    rw [e, e', q0, q1, q2, show 0 + 3 * k = 3 * k by omega, show 1 + 3 * k = 3 * k + 1 by omega, show 2 + 3 * k = 3 * k + 2 by omega]
theorem hv_HS_hc {ff hf hf1 uf uf1 hof hof1 df agf : Nat → Int32} {c i nw m0 m1 r : Int32} {d len J : Int} (h : hv_HS (hv_HC ff hf df agf c.toInt i.toInt d len) i nw m0 m1 r J hf hf1 uf uf1 hof hof1) (hn : 0 ≤ nw.toInt) (hHC : m0.toInt = hx_hc hf c.toInt.toNat) : m1.toInt = hx_hc hf1 c.toInt.toNat ∧ (hf1 = hf ∨ ∃ (j : Nat) (v : Int32), hf1 = hx_up hf j v ∧ (ff j).toInt ≠ -1) := by
  rcases h with ⟨_, _, e1, e2, _, _⟩ | ⟨⟨⟨a, b⟩, f, g, _⟩, _, _, e1, e2, _, _⟩
  · rw [e1, e2]; exact ⟨hHC, Or.inl rfl⟩
  · exact ⟨hx_hear hHC a b rfl g (by omega) e2 e1, Or.inr ⟨_, _, e2, f⟩⟩
/-- whose number stands in the row of those heard was heard -/
def hv_HO (hof hf : Nat → Int32) (m n : Int) : Prop := ∀ j : Nat, (j : Int) < m → 0 ≤ (hof j).toInt ∧ (hof j).toInt < n ∧ (hf (hof j).toInt.toNat).toInt ≠ -1
theorem hv_HO_0 {hof hf : Nat → Int32} {m n : Int} (h : m = 0) : hv_HO hof hf m n := fun j hj => by exfalso; omega
theorem hv_HO_c {hof hf hf1 : Nat → Int32} {m n n1 : Int} (H : hv_HO hof hf m n) (n0 : 0 ≤ n) (p : (n1 = n ∧ hf1 = hf) ∨ (n1 = n + 1 ∧ hf1 = hx_up hf n.toNat (-1))) : hv_HO hof hf1 m n1 := by
  intro j hj
  obtain ⟨a, b, c⟩ := H j hj
  rcases p with ⟨e1, e2⟩ | ⟨e1, e2⟩
  · rw [e1, e2]; exact ⟨a, b, c⟩
  · rw [e1, e2]
    refine ⟨a, by omega, ?_⟩
    rw [hx_up_ne (by omega)]; exact c
theorem hv_HO_h {ff hf hf1 uf uf1 hof hof1 df agf : Nat → Int32} {i nw m0 m1 r : Int32} {n d len J : Int} (H : hv_HO hof hf m0.toInt n) (h : hv_HS (hv_HC ff hf df agf n i.toInt d len) i nw m0 m1 r J hf hf1 uf uf1 hof hof1) (hnw : 0 ≤ nw.toInt) (m0p : 0 ≤ m0.toInt) : hv_HO hof1 hf1 m1.toInt n := by
  rcases h with ⟨_, _, e1, e2, _, e3⟩ | ⟨⟨⟨a, b⟩, f, g, _⟩, _, _, e1, e2, _, e3⟩
  · rw [e1, e2, e3]; exact H
  · rw [e1, e2, e3]
    intro j hj
    have ei : i.toNatClampNeg = i.toInt.toNat := rfl
    by_cases z : j = m0.toInt.toNat
    · rw [z, hx_up_at]
      refine ⟨a, b, ?_⟩
      rw [← ei, hx_up_at]; omega
    · rw [hx_up_ne z]
      obtain ⟨x, y, w⟩ := H j (by omega)
      refine ⟨x, y, ?_⟩
      by_cases q : (hof j).toInt.toNat = i.toNatClampNeg
      · rw [q, hx_up_at]; omega
      · rw [hx_up_ne q]; exact w
/-! FILED: both sides alike -/
theorem hv_cdf {n r r2 : Int} {v : Int32} {d d1 g1 : Nat → Int32} (hr : r = r2) (p : hx_CD n r v d d1) (q : hx_CD n r2 v d g1) : d1 = g1 := by
  rcases p with ⟨a1, a2⟩ | ⟨a1, a2, a3⟩ <;> rcases q with ⟨b1, b2⟩ | ⟨b1, b2, b3⟩
  · exact a2.trans b2.symm
  · exfalso; omega
  · exfalso; omega
  · exact a3.trans b3.symm
theorem hv_cdfz {n r : Int} {d d1 : Nat → Int32} (p : hx_CD n r 0 d d1) (z : d n.toNat = 0) : d1 = d := by
  rcases p with ⟨_, a⟩ | ⟨_, _, a⟩
  · exact a
  · rw [a]
    funext j
    by_cases q : j = n.toNat
    · rw [q, hx_up_at, z]
    · rw [hx_up_ne q]
theorem hx_num_z2 {N : Nat} {h : hx_h} {q k k1 j : Nat} {n : Int} {f : Nat → Int32} (hn : hx_num N h q k n) (hc : hx_col N h q k1 = f) (hz : n ≤ (j : Int)) : f j = 0 := by
  by_cases hj : j < N
  · exact hx_num_z hn hc hj hz
  · rw [← hc]
    exact if_neg hj
theorem hx_col_0f {N : Nat} {h : hx_h} {q k r : Nat} (z : ∀ j, h.2.1 q j = 0 ∧ h.2.2 q j = none) (z2 : ∀ j, h.2.1 r j = 0) : hx_col N h q k = h.2.1 r := by
  funext j
  rw [z2 j]
  by_cases hj : j < N
  · exact (hx_col_0 (k := k) z z2 j hj).trans (z2 j)
  · exact if_neg hj
def hv_FU (r n : Int) (v2 v3 v7 : Int32) (f f1 : Nat → Int32) : Prop := (r = -1 ∧ f1 = f) ∨ (r ≠ -1 ∧ (∀ c k : Nat, (c : Int) < n → k < 8 → f1 (k + 8 * c) = f (k + 8 * c)) ∧ f1 (2 + 8 * n.toNat) = v2 ∧ f1 (3 + 8 * n.toNat) = v3 ∧ f1 (7 + 8 * n.toNat) = v7)
theorem hv_FU_i {r n : Int} {v2 v3 v7 : Int32} {cF f0 f1 f2 f3 : Nat → Int32} (hr : r ≠ -1) (h0 : 0 ≤ n) (d1 : f1 = hx_up f0 (2 : Int32).toNatClampNeg v2) (d2 : f2 = hx_up f1 (3 : Int32).toNatClampNeg v3) (d3 : f3 = hx_up f2 (7 : Int32).toNatClampNeg v7) : hv_FU r n v2 v3 v7 cF (hv_u8 cF n.toNat f3) := by
  have k2 : (2 : Int32).toNatClampNeg = 2 := by decide
  have k3 : (3 : Int32).toNatClampNeg = 3 := by decide
  have k7 : (7 : Int32).toNatClampNeg = 7 := by decide
  rw [k2] at d1; rw [k3] at d2; rw [k7] at d3
  subst d1; subst d2; subst d3
  refine Or.inr ⟨hr, fun c k hc hk => hv_u8_ne hk (by omega), ?_, ?_, ?_⟩
  · rw [hv_u8_at (by omega), hx_up_ne (by omega), hx_up_ne (by omega), hx_up_at]
  · rw [hv_u8_at (by omega), hx_up_ne (by omega), hx_up_at]
  · rw [hv_u8_at (by omega), hx_up_at]
def hv_b3 (f : Nat → Int32) (c : Nat) : Nat → Int32 := hx_up (hx_up (hx_up f (3 * c) (-1)) (3 * c + 1) (-1)) (3 * c + 2) (-1)
theorem hv_b3_at {f : Nat → Int32} {c k : Nat} (hk : k < 3) : hv_b3 f c (k + 3 * c) = -1 := by
  unfold hv_b3
  rcases (show k = 0 ∨ k = 1 ∨ k = 2 by omega) with z | z | z
  · rw [hx_up_ne (by omega), hx_up_ne (by omega), show k + 3 * c = 3 * c by omega, hx_up_at]
  · rw [hx_up_ne (by omega), show k + 3 * c = 3 * c + 1 by omega, hx_up_at]
  · rw [show k + 3 * c = 3 * c + 2 by omega, hx_up_at]
theorem hv_b3_ne {f : Nat → Int32} {c d k : Nat} (hk : k < 3) (h : d ≠ c) : hv_b3 f c (k + 3 * d) = f (k + 3 * d) := by
  unfold hv_b3
  rw [hx_up_ne (by omega), hx_up_ne (by omega), hx_up_ne (by omega)]
def hv_BU (r n : Int) (f f1 : Nat → Int32) : Prop := (r = -1 ∧ f1 = f) ∨ (r ≠ -1 ∧ f1 = hv_b3 f n.toNat)
theorem hv_BU_u {r r2 n : Int} {f g g2 : Nat → Int32} (e : r = r2) (p : hv_BU r n f g) (q : hv_BU r2 n f g2) : g = g2 := by
  rcases p with ⟨a1, a2⟩ | ⟨a1, a2⟩ <;> rcases q with ⟨b1, b2⟩ | ⟨b1, b2⟩
  · exact a2.trans b2.symm
  · exfalso; omega
  · exfalso; omega
  · exact a2.trans b2.symm
/-- the reference's three, one after another -/
def hv_b3k (f : Nat → Int32) (c : Nat) : Nat → Nat → Int32
  | 0 => f
  | k + 1 => hx_up (hv_b3k f c k) (3 * c + k) (-1)
theorem hv_b3k_s {f g g1 : Nat → Int32} {c ix : Nat} {k k1 : Int} (h : g = hv_b3k f c k.toNat) (h0 : 0 ≤ k) (ei : (ix : Int) = 3 * c + k) (e : g1 = hx_up g ix (-1)) (e1 : k1 = k + 1) : g1 = hv_b3k f c k1.toNat := by
  rw [show k1.toNat = k.toNat + 1 by omega, e, h, show ix = 3 * c + k.toNat by omega]; rfl
theorem hv_FR_f {cF cF1 rf nf nf1 wf wf1 sf sf1 hf hf1 : Nat → Int32} {r r' n n1 : Int} {v2 v3 v7 : Int32} (H : hv_FR cF rf nf wf sf hf n) (n0 : 0 ≤ n) (er : r = r') (fu : hv_FU r n v2 v3 v7 cF cF1) (p2 : hw_UP r' n v2 nf nf1) (p3 : hw_UP r' n v3 wf wf1) (p7 : hx_CD n r' v7 sf sf1) (ph : hx_CD n r' (-1) hf hf1) (pn : (r' = -1 ∧ n1 = n) ∨ (r' = n ∧ n1 = n + 1)) : hv_FR cF1 rf nf1 wf1 sf1 hf1 n1 := by
  subst er
  rcases pn with ⟨z, e⟩ | ⟨z, e⟩
  · rcases fu with ⟨_, f⟩ | ⟨y, _⟩
    · rcases p2 with ⟨_, b2⟩ | ⟨y, _⟩
      · rcases p3 with ⟨_, b3⟩ | ⟨y, _⟩
        · rcases p7 with ⟨_, b7⟩ | ⟨y, y0, _⟩
          · rcases ph with ⟨_, bh⟩ | ⟨y, y0, _⟩
            · rw [f, b2, b3, b7, bh, e]; exact H
            · exfalso; omega
          · exfalso; omega
        · exact absurd z y
      · exact absurd z y
    · exact absurd z y
  · have zr : r ≠ -1 := by omega
    rcases fu with ⟨y, _⟩ | ⟨_, f, f2, f3, f7⟩
    · exact absurd y zr
    rcases p2 with ⟨y, _⟩ | ⟨_, b2⟩
    · exact absurd y zr
    rcases p3 with ⟨y, _⟩ | ⟨_, b3⟩
    · exact absurd y zr
    rcases p7 with ⟨y, _⟩ | ⟨_, _, b7⟩
    · exact absurd y zr
    rcases ph with ⟨y, _⟩ | ⟨_, _, bh⟩
    · exact absurd y zr
    rw [b2, b3, b7, bh]
    intro d hd
    by_cases w : d = n.toNat
    · rw [w, hx_up_at, hx_up_at, hx_up_at, hx_up_at]
      exact ⟨fun q => absurd (by decide) q, fun _ => ⟨f2, f3, f7⟩⟩
    · rw [hx_up_ne w, hx_up_ne w, hx_up_ne w, hx_up_ne w]
      have hd' : (d : Int) < n := by omega
      obtain ⟨x1, x2⟩ := H d hd'
      refine ⟨fun q k hk => ?_, fun q => ?_⟩
      · rw [f d k hd' hk]; exact x1 q k hk
      · rw [f d 2 hd' (by omega), f d 3 hd' (by omega), f d 7 hd' (by omega)]; exact x2 q
/-- a store into a row that is no claim's -/
theorem hv_FX_o {h h1 : hx_h} {w kf qc t : Nat} {F : Nat → Int32} {n : Int} {k : Nat} {v : Int32} (H : hv_FX w kf h qc F n) (hN : hv_NF kf h qc t n) (eh : h1 = hx_pi h t k v) : hv_FX w kf h1 qc F n := by
  subst eh
  refine ⟨fun c1 hc1 hn1 o1 t1 fo1 ft1 k1 hk1 => ?_, fun c1 c' hc1 hc' hn hn' o1 o' t1 fo1 fo' ft1 ft' => H.2 c1 c' hc1 hc' hn hn' o1 o' t1 fo1 fo' ft1 ft'⟩
  replace fo1 : h.2.2 qc c1 = some o1 := fo1
  replace ft1 : h.2.2 o1 kf = some t1 := ft1
  have z : t1 ≠ t := hN c1 hc1 hn1 o1 t1 fo1 ft1
  rw [hx_pi_ne _ _ (fun q => z q.1)]
  exact H.1 c1 hc1 hn1 o1 t1 fo1 ft1 k1 hk1
/-! THE RULES: their bounds -/
def hv_AB (A : Nat → hv_act) : Prop := ∀ j : Nat, (∀ k, 0 ≤ (A j).2.1 k ∧ (A j).2.1 k ≤ 9999) ∧ hv_OK (A j).2.2
theorem hv_W0_b : ∀ k : Nat, 0 ≤ hv_W0 k ∧ hv_W0 k ≤ 9999 := by
  intro k
  show 0 ≤ (if k < 13 then (P_wo (k + 1)).toInt else 0) ∧ (if k < 13 then (P_wo (k + 1)).toInt else 0) ≤ 9999
  by_cases hk : k < 13
  · rw [if_pos hk]
    have h : (List.range 13).all (fun k => decide (0 ≤ (P_wo (k + 1)).toInt ∧ (P_wo (k + 1)).toInt ≤ 9999)) = true := by decide
    exact of_decide_eq_true (List.all_eq_true.mp h k (List.mem_range.mpr hk))
  · rw [if_neg hk]; omega
theorem hv_AB_0 : hv_AB (fun _ => hv_A0) := fun _ => ⟨hv_W0_b, hv_OK_0⟩
theorem hv_AU_o {A A1 : Nat → hv_act} {a0 a1 d : Int} {sp : Nat ⊕ hv_st} (h : hv_AU A a0 a1 d sp A1) (h0 : 0 ≤ a0) : ∀ k : Nat, (k : Int) ≤ a0 → A1 k = A k := by
  intro k hk
  rcases h with ⟨_, e⟩ | ⟨e1, x, sn, rd, o, es, e⟩
  · rw [e]
  · rw [e]; exact if_neg (by omega)
theorem hv_AB_u {A A1 : Nat → hv_act} {a0 a1 d : Int} {sp : Nat ⊕ hv_st} {adf rlf psf prf : Nat → Int32} (h : hv_AU A a0 a1 d sp A1) (hsp : ∀ q, sp = .inr q → hv_OK q.2.2.2) (hA : hv_AB A) (hCA : hv_CA adf rlf psf prf a1 A1) (h0 : 0 ≤ a0) (h8 : a1 ≤ 8) (hb : ∀ k, k < 117 → 0 ≤ (rlf k).toInt ∧ (rlf k).toInt ≤ 9999) : hv_AB A1 := by
  rcases h with ⟨_, e⟩ | ⟨e1, x, sn, rd, o, es, e⟩
  · rw [e]; exact hA
  · intro j
    by_cases z : j = a0.toNat + 1
    · have c := (hCA.2 j (by omega)).2.1
      have ej : A1 j = (d, rd, o) := by rw [e]; exact if_pos z
      rw [ej] at c ⊢
      have c' : hv_rR (fun k => rlf (13 * j + k)) = rd := c
      refine ⟨fun k => ?_, ?_⟩
      · show 0 ≤ rd k ∧ rd k ≤ 9999
        rw [← c']
        show 0 ≤ (if k < 13 then (rlf (13 * j + k)).toInt else 0) ∧ (if k < 13 then (rlf (13 * j + k)).toInt else 0) ≤ 9999
        by_cases hk : k < 13
        · rw [if_pos hk]; exact hb _ (by omega)
        · rw [if_neg hk]; omega
      · exact hsp _ es
    · have ej : A1 j = A j := by rw [e]; exact if_neg z
      rw [ej]; exact hA j
theorem hv_k3 {f : Nat → Int32} {v : Int32} (h : f 0 = v ∧ f 1 = v ∧ f 2 = v) {k : Nat} (hk : k < 3) : f k = v := by
  rcases (show k = 0 ∨ k = 1 ∨ k = 2 by omega) with z | z | z
  · rw [z]; exact h.1
  · rw [z]; exact h.2.1
  · rw [z]; exact h.2.2
end
section
set_option maxHeartbeats 4000000 in
set_option maxRecDepth 100000 in
theorem t_X2_init_v (l : Launch) (dC : Nat → ClassId) (dI : Nat → Nat → Nat) (dA : Nat → ClassId) (L : List Nat) (h : hx_h) (sz : Nat) (x : Nat) (i1 : Int32) (v1 : Nat) (v2 : Nat) (v3 : Nat) (hT : hx_T T_tb L h) (gx : hx_g L h x 118) (gv1 : hx_g L h v1 4) (gv2 : hx_g L h v2 4) (gv3 : hx_g L h v3 0) (hz : ∀ j, h.2.1 x j = 0 ∧ h.2.2 x j = none) (hi1 : 0 ≤ i1.toInt ∧ i1.toInt ≤ 99) : Met l yX2_init (Cond.code yX2_init cX2_init 5 none :: hx_all) ({ frames := 1, cells := 2, slots := 11, locals := 12 }) (va_Pc [.ref x, .int i1, .ref v1, .ref v2, .ref v3] (hx_B T_tb (P_ty dA) (dC, dI) vwCl L h sz)) (va_Qv (fun (u : List Nat × hx_h) => hx_T T_tb u.1 u.2 ∧ hx_S T_tb [(118, 0), (118, 1), (118, 2), (118, 3), (118, 4), (118, 5), (118, 10), (118, 11), (118, 13), (118, 16), (118, 18)] (hx_X L x) h u.1 u.2 ∧ hx_g u.1 u.2 x 2 ∧ u.2.2.1 x 0 = i1 ∧ u.2.2.1 x 10 = -1 ∧ u.2.2.1 x 11 = -1 ∧ u.2.2.1 x 9 = 0 ∧ u.2.2.1 x 12 = 0 ∧ u.2.2.1 x 13 = -1 ∧ u.2.2.1 x 16 = -1 ∧ u.2.2.1 x 18 = -1 ∧ u.2.2.1 x 14 = 0 ∧ u.2.2.1 x 15 = 0 ∧ u.2.2.1 x 17 = 0 ∧ u.2.2.2 x 1 = some v1 ∧ u.2.2.2 x 2 = some v2 ∧ u.2.2.2 x 3 = some v3 ∧ (∃ q, u.2.2.2 x 4 = some q ∧ hx_g u.1 u.2 q 20 ∧ True ∧ ∀ a ∈ hx_X L x, a ≠ q) ∧ (∃ q, u.2.2.2 x 5 = some q ∧ hx_g u.1 u.2 q 21 ∧ (u.2.2.1 q 0 = -1 ∧ u.2.2.1 q 1 = -1 ∧ u.2.2.1 q 2 = -1) ∧ ∀ a ∈ hx_X L x, a ≠ q)) (hx_E T_tb (P_ty dA) (dC, dI) vwCl (hx_A L sz)) (hx_A L sz)) 2 11 (hx_A L sz) := by
  refine hx_met (lv := [(0, .ref x), (1, .int i1), (2, .ref v1), (3, .ref v2), (4, .ref v3)]) (by decide +kernel) rfl (Nat.le_of_ble_eq_true rfl) rfl ?_
  intro p e s m below meth c hx hb hml hr hlk hts0 hown hin hsz hW ls hl
  have hts : ∀ w ∈ hx_all, w.before _ s = true := fun w hw => hts0 w (List.mem_cons_of_mem _ hw)
  have hown : s.vm.findClass "SmallCourt$Claim" = some m.cls := hown
  have hin : meth.name = "<init>" := hin
  have hM : hx_S T_tb [(118, 0), (118, 1), (118, 2), (118, 3), (118, 4), (118, 5), (118, 10), (118, 11), (118, 13), (118, 16), (118, 18)] (hx_X L x) h L h := hx_SX_rf
  have hz : ∀ j, ([] : List Nat).contains j = false → h.2.1 x j = 0 ∧ h.2.2 x j = none := fun j _ => hz j
  refine lv_aload_n hx hb dX2_init_0 rfl (lv_at hl 0 rfl) ?_
  refine W.objInit hx hb hown (hts _ kw_720) (hts _ kw_117) (hts _ kw_118) rfl (by rw [hml]; exact hl.1) rfl dX2_init_1 (Nat.le_of_ble_eq_true rfl) (Nat.le_of_ble_eq_true rfl) ?_
  refine W.eq (g2 := F0 m 4 ls []) rfl ?_
  refine lv_aload_n hx hb dX2_init_4 rfl (lv_at hl 0 rfl) ?_
  refine lv_bipush (v := 8) hx hb dX2_init_5 (by decide) ?_
  refine hk_newa hx hb hts hW 20 tt_20 (atype := .int) rfl kw_186 (tys := P_ty dA) (t0 := 0) rfl (fun _ => Iff.rfl) rfl (i := (8 : Int32)) (by decide) (Nat.le_of_ble_eq_true rfl) (Nat.le_of_ble_eq_true rfl) (Nat.le_of_ble_eq_true rfl) dX2_init_7 (fun q_2 H h_1 eh_1 hqq_2 hW hs gq_2 => ?_)
  have nq_q_2 : ∀ a ∈ (hx_X L x), a ≠ q_2 := fun a ha z => hqq_2 (z ▸ (hM.1 a ha).1)
  have hT : hx_T T_tb (L ++ [q_2]) h_1 := by rw [eh_1]; exact hx_T_nw hT hqq_2 tt_20 rfl
  replace hz := hx_zr [] hz hs gx trivial rfl
  replace hM := hM.tr (hs.mono (by decide))
  replace gx := gx.S hs
  replace gv1 := gv1.S hs
  replace gv2 := gv2.S hs
  replace gv3 := gv3.S hs
  refine hx_putrF hx hb hts hC_2 hown hW hT (hx_S.rf (M := [(118, 4)])) gx tt_118 4 (by decide) rfl kw_737 ⟨rfl, rfl, rfl⟩ rfl hin rfl (x := (some q_2)) ⟨fun _ z => (by cases z), fun q hq => (by cases hq; exact ⟨gq_2.1, by rw [gq_2.2]; decide⟩)⟩ rfl rfl rfl (List.mem_singleton.mpr rfl) dX2_init_9 (fun H locs h_3 eh_3 hW hT hs => ?_)
  replace hz := hx_zr [4] hz hs gx trivial rfl
  replace hM := hM.tr (hs.mono (by decide))
  replace gx := gx.S hs
  replace gv1 := gv1.S hs
  replace gv2 := gv2.S hs
  replace gv3 := gv3.S hs
  replace gq_2 := gq_2.S hs
  have f_4 : h_3.2.2 x 4 = (some q_2) := by rw [eh_3]; exact hx_pr_at _ _ _ _
  refine lv_aload_n hx hb dX2_init_12 rfl (lv_at hl 0 rfl) ?_
  refine lv_iconst (v := 3) hx hb dX2_init_13 (by decide) ?_
  refine hk_newa hx hb hts hW 21 tt_21 (atype := .int) rfl kw_186 (tys := P_ty dA) (t0 := 0) rfl (fun _ => Iff.rfl) rfl (i := (3 : Int32)) (by decide) (Nat.le_of_ble_eq_true rfl) (Nat.le_of_ble_eq_true rfl) (Nat.le_of_ble_eq_true rfl) dX2_init_14 (fun q_6 H h_5 eh_5 hqq_6 hW hs gq_6 => ?_)
  have nq_q_6 : ∀ a ∈ (hx_X L x), a ≠ q_6 := fun a ha z => hqq_6 (z ▸ (hM.1 a ha).1)
  have hT : hx_T T_tb ((L ++ [q_2]) ++ [q_6]) h_5 := by rw [eh_5]; exact hx_T_nw hT hqq_6 tt_21 rfl
  replace f_4 := (hs.o gx trivial rfl).2.trans f_4
  replace hz := hx_zr [4] hz hs gx trivial rfl
  replace hM := hM.tr (hs.mono (by decide))
  replace gx := gx.S hs
  replace gv1 := gv1.S hs
  replace gv2 := gv2.S hs
  replace gv3 := gv3.S hs
  replace gq_2 := gq_2.S hs
  refine hx_putrF hx hb hts hC_2 hown hW hT (hx_S.rf (M := [(118, 5)])) gx tt_118 5 (by decide) rfl kw_739 ⟨rfl, rfl, rfl⟩ rfl hin rfl (x := (some q_6)) ⟨fun _ z => (by cases z), fun q hq => (by cases hq; exact ⟨gq_6.1, by rw [gq_6.2]; decide⟩)⟩ rfl rfl rfl (List.mem_singleton.mpr rfl) dX2_init_16 (fun H locs h_7 eh_7 hW hT hs => ?_)
  replace f_4 := (hs.o gx trivial rfl).2.trans f_4
  replace hz := hx_zr [4, 5] hz hs gx trivial rfl
  replace hM := hM.tr (hs.mono (by decide))
  replace gx := gx.S hs
  replace gv1 := gv1.S hs
  replace gv2 := gv2.S hs
  replace gv3 := gv3.S hs
  replace gq_2 := gq_2.S hs
  replace gq_6 := gq_6.S hs
  have f_8 : h_7.2.2 x 5 = (some q_6) := by rw [eh_7]; exact hx_pr_at _ _ _ _
  obtain ⟨bF0, nbF0⟩ : ∃ g : Nat → Int32, h_7.2.1 q_6 = g := ⟨_, rfl⟩
  refine lv_aload_n hx hb dX2_init_19 rfl (lv_at hl 0 rfl) ?_
  refine lv_iconst (v := -1) hx hb dX2_init_20 (by decide) ?_
  refine hx_puti hx hb hts hC_2 hown hW hT (hx_S.rf (M := [(118, 10)])) gx tt_118 10 (by decide) rfl kw_746 ⟨rfl, rfl, rfl⟩ rfl (x := (-1 : Int32)) (by decide) rfl rfl rfl (List.mem_singleton.mpr rfl) dX2_init_21 (fun H locs h_9 eh_9 hW hT hs => ?_)
  replace f_4 := (hs.o gx trivial rfl).2.trans f_4
  replace f_8 := (hs.o gx trivial rfl).2.trans f_8
  replace hz := hx_zr [4, 5, 10] hz hs gx trivial rfl
  replace nbF0 : h_9.2.1 q_6 = bF0 := (funext fun j => (hs.a gq_6 rfl j).1).trans nbF0
  replace hM := hM.tr (hs.mono (by decide))
  replace gx := gx.S hs
  replace gv1 := gv1.S hs
  replace gv2 := gv2.S hs
  replace gv3 := gv3.S hs
  replace gq_2 := gq_2.S hs
  replace gq_6 := gq_6.S hs
  have f_10 : h_9.2.1 x 10 = (-1 : Int32) := by rw [eh_9]; exact hx_pi_at _ _ _ _
  refine lv_aload_n hx hb dX2_init_24 rfl (lv_at hl 0 rfl) ?_
  refine lv_iconst (v := -1) hx hb dX2_init_25 (by decide) ?_
  refine hx_puti hx hb hts hC_2 hown hW hT (hx_S.rf (M := [(118, 11)])) gx tt_118 11 (by decide) rfl kw_748 ⟨rfl, rfl, rfl⟩ rfl (x := (-1 : Int32)) (by decide) rfl rfl rfl (List.mem_singleton.mpr rfl) dX2_init_26 (fun H locs h_11 eh_11 hW hT hs => ?_)
  replace f_4 := (hs.o gx trivial rfl).2.trans f_4
  replace f_8 := (hs.o gx trivial rfl).2.trans f_8
  replace f_10 := (hs.o gx trivial rfl).1.trans f_10
  replace hz := hx_zr [4, 5, 10, 11] hz hs gx trivial rfl
  replace nbF0 : h_11.2.1 q_6 = bF0 := (funext fun j => (hs.a gq_6 rfl j).1).trans nbF0
  replace hM := hM.tr (hs.mono (by decide))
  replace gx := gx.S hs
  replace gv1 := gv1.S hs
  replace gv2 := gv2.S hs
  replace gv3 := gv3.S hs
  replace gq_2 := gq_2.S hs
  replace gq_6 := gq_6.S hs
  have f_12 : h_11.2.1 x 11 = (-1 : Int32) := by rw [eh_11]; exact hx_pi_at _ _ _ _
  refine lv_aload_n hx hb dX2_init_29 rfl (lv_at hl 0 rfl) ?_
  refine lv_iconst (v := -1) hx hb dX2_init_30 (by decide) ?_
  refine hx_puti hx hb hts hC_2 hown hW hT (hx_S.rf (M := [(118, 13)])) gx tt_118 13 (by decide) rfl kw_752 ⟨rfl, rfl, rfl⟩ rfl (x := (-1 : Int32)) (by decide) rfl rfl rfl (List.mem_singleton.mpr rfl) dX2_init_31 (fun H locs h_13 eh_13 hW hT hs => ?_)
  replace f_4 := (hs.o gx trivial rfl).2.trans f_4
  replace f_8 := (hs.o gx trivial rfl).2.trans f_8
  replace f_10 := (hs.o gx trivial rfl).1.trans f_10
  replace f_12 := (hs.o gx trivial rfl).1.trans f_12
  replace hz := hx_zr [4, 5, 10, 11, 13] hz hs gx trivial rfl
  replace nbF0 : h_13.2.1 q_6 = bF0 := (funext fun j => (hs.a gq_6 rfl j).1).trans nbF0
  replace hM := hM.tr (hs.mono (by decide))
  replace gx := gx.S hs
  replace gv1 := gv1.S hs
  replace gv2 := gv2.S hs
  replace gv3 := gv3.S hs
  replace gq_2 := gq_2.S hs
  replace gq_6 := gq_6.S hs
  have f_14 : h_13.2.1 x 13 = (-1 : Int32) := by rw [eh_13]; exact hx_pi_at _ _ _ _
  refine lv_aload_n hx hb dX2_init_34 rfl (lv_at hl 0 rfl) ?_
  refine lv_iconst (v := -1) hx hb dX2_init_35 (by decide) ?_
  refine hx_puti hx hb hts hC_2 hown hW hT (hx_S.rf (M := [(118, 16)])) gx tt_118 16 (by decide) rfl kw_758 ⟨rfl, rfl, rfl⟩ rfl (x := (-1 : Int32)) (by decide) rfl rfl rfl (List.mem_singleton.mpr rfl) dX2_init_36 (fun H locs h_15 eh_15 hW hT hs => ?_)
  replace f_4 := (hs.o gx trivial rfl).2.trans f_4
  replace f_8 := (hs.o gx trivial rfl).2.trans f_8
  replace f_10 := (hs.o gx trivial rfl).1.trans f_10
  replace f_12 := (hs.o gx trivial rfl).1.trans f_12
  replace f_14 := (hs.o gx trivial rfl).1.trans f_14
  replace hz := hx_zr [4, 5, 10, 11, 13, 16] hz hs gx trivial rfl
  replace nbF0 : h_15.2.1 q_6 = bF0 := (funext fun j => (hs.a gq_6 rfl j).1).trans nbF0
  replace hM := hM.tr (hs.mono (by decide))
  replace gx := gx.S hs
  replace gv1 := gv1.S hs
  replace gv2 := gv2.S hs
  replace gv3 := gv3.S hs
  replace gq_2 := gq_2.S hs
  replace gq_6 := gq_6.S hs
  have f_16 : h_15.2.1 x 16 = (-1 : Int32) := by rw [eh_15]; exact hx_pi_at _ _ _ _
  refine lv_aload_n hx hb dX2_init_39 rfl (lv_at hl 0 rfl) ?_
  refine lv_iconst (v := -1) hx hb dX2_init_40 (by decide) ?_
  refine hx_puti hx hb hts hC_2 hown hW hT (hx_S.rf (M := [(118, 18)])) gx tt_118 18 (by decide) rfl kw_762 ⟨rfl, rfl, rfl⟩ rfl (x := (-1 : Int32)) (by decide) rfl rfl rfl (List.mem_singleton.mpr rfl) dX2_init_41 (fun H locs h_17 eh_17 hW hT hs => ?_)
  replace f_4 := (hs.o gx trivial rfl).2.trans f_4
  replace f_8 := (hs.o gx trivial rfl).2.trans f_8
  replace f_10 := (hs.o gx trivial rfl).1.trans f_10
  replace f_12 := (hs.o gx trivial rfl).1.trans f_12
  replace f_14 := (hs.o gx trivial rfl).1.trans f_14
  replace f_16 := (hs.o gx trivial rfl).1.trans f_16
  replace hz := hx_zr [4, 5, 10, 11, 13, 16, 18] hz hs gx trivial rfl
  replace nbF0 : h_17.2.1 q_6 = bF0 := (funext fun j => (hs.a gq_6 rfl j).1).trans nbF0
  replace hM := hM.tr (hs.mono (by decide))
  replace gx := gx.S hs
  replace gv1 := gv1.S hs
  replace gv2 := gv2.S hs
  replace gv3 := gv3.S hs
  replace gq_2 := gq_2.S hs
  replace gq_6 := gq_6.S hs
  have f_18 : h_17.2.1 x 18 = (-1 : Int32) := by rw [eh_17]; exact hx_pi_at _ _ _ _
  refine lv_aload_n hx hb dX2_init_44 rfl (lv_at hl 0 rfl) ?_
  refine lv_iload_n hx hb dX2_init_45 rfl (lv_at hl 1 rfl) ?_
  refine hx_putiF hx hb hts hC_2 hown hW hT (hx_S.rf (M := [(118, 0)])) gx tt_118 0 (by decide) rfl kw_721 ⟨rfl, rfl, rfl⟩ rfl hin rfl (x := i1) ⟨by omega, by omega⟩ rfl rfl rfl (List.mem_singleton.mpr rfl) dX2_init_46 (fun H locs h_19 eh_19 hW hT hs => ?_)
  replace f_4 := (hs.o gx trivial rfl).2.trans f_4
  replace f_8 := (hs.o gx trivial rfl).2.trans f_8
  replace f_10 := (hs.o gx trivial rfl).1.trans f_10
  replace f_12 := (hs.o gx trivial rfl).1.trans f_12
  replace f_14 := (hs.o gx trivial rfl).1.trans f_14
  replace f_16 := (hs.o gx trivial rfl).1.trans f_16
  replace f_18 := (hs.o gx trivial rfl).1.trans f_18
  replace hz := hx_zr [0, 4, 5, 10, 11, 13, 16, 18] hz hs gx trivial rfl
  replace nbF0 : h_19.2.1 q_6 = bF0 := (funext fun j => (hs.a gq_6 rfl j).1).trans nbF0
  replace hM := hM.tr (hs.mono (by decide))
  replace gx := gx.S hs
  replace gv1 := gv1.S hs
  replace gv2 := gv2.S hs
  replace gv3 := gv3.S hs
  replace gq_2 := gq_2.S hs
  replace gq_6 := gq_6.S hs
  have f_20 : h_19.2.1 x 0 = i1 := by rw [eh_19]; exact hx_pi_at _ _ _ _
  refine lv_aload_n hx hb dX2_init_49 rfl (lv_at hl 0 rfl) ?_
  refine lv_aload_n hx hb dX2_init_50 rfl (lv_at hl 2 rfl) ?_
  refine hx_putrF hx hb hts hC_2 hown hW hT (hx_S.rf (M := [(118, 1)])) gx tt_118 1 (by decide) rfl kw_725 ⟨rfl, rfl, rfl⟩ rfl hin rfl (x := (some v1)) ⟨fun _ z => (by cases z), fun q hq => (by cases hq; exact ⟨gv1.1, by rw [gv1.2]; decide⟩)⟩ rfl rfl rfl (List.mem_singleton.mpr rfl) dX2_init_51 (fun H locs h_21 eh_21 hW hT hs => ?_)
  replace f_4 := (hs.o gx trivial rfl).2.trans f_4
  replace f_8 := (hs.o gx trivial rfl).2.trans f_8
  replace f_10 := (hs.o gx trivial rfl).1.trans f_10
  replace f_12 := (hs.o gx trivial rfl).1.trans f_12
  replace f_14 := (hs.o gx trivial rfl).1.trans f_14
  replace f_16 := (hs.o gx trivial rfl).1.trans f_16
  replace f_18 := (hs.o gx trivial rfl).1.trans f_18
  replace f_20 := (hs.o gx trivial rfl).1.trans f_20
  replace hz := hx_zr [0, 1, 4, 5, 10, 11, 13, 16, 18] hz hs gx trivial rfl
  replace nbF0 : h_21.2.1 q_6 = bF0 := (funext fun j => (hs.a gq_6 rfl j).1).trans nbF0
  replace hM := hM.tr (hs.mono (by decide))
  replace gx := gx.S hs
  replace gv1 := gv1.S hs
  replace gv2 := gv2.S hs
  replace gv3 := gv3.S hs
  replace gq_2 := gq_2.S hs
  replace gq_6 := gq_6.S hs
  have f_22 : h_21.2.2 x 1 = (some v1) := by rw [eh_21]; exact hx_pr_at _ _ _ _
  refine lv_aload_n hx hb dX2_init_54 rfl (lv_at hl 0 rfl) ?_
  refine lv_aload_n hx hb dX2_init_55 rfl (lv_at hl 3 rfl) ?_
  refine hx_putrF hx hb hts hC_2 hown hW hT (hx_S.rf (M := [(118, 2)])) gx tt_118 2 (by decide) rfl kw_729 ⟨rfl, rfl, rfl⟩ rfl hin rfl (x := (some v2)) ⟨fun _ z => (by cases z), fun q hq => (by cases hq; exact ⟨gv2.1, by rw [gv2.2]; decide⟩)⟩ rfl rfl rfl (List.mem_singleton.mpr rfl) dX2_init_56 (fun H locs h_23 eh_23 hW hT hs => ?_)
  replace f_4 := (hs.o gx trivial rfl).2.trans f_4
  replace f_8 := (hs.o gx trivial rfl).2.trans f_8
  replace f_10 := (hs.o gx trivial rfl).1.trans f_10
  replace f_12 := (hs.o gx trivial rfl).1.trans f_12
  replace f_14 := (hs.o gx trivial rfl).1.trans f_14
  replace f_16 := (hs.o gx trivial rfl).1.trans f_16
  replace f_18 := (hs.o gx trivial rfl).1.trans f_18
  replace f_20 := (hs.o gx trivial rfl).1.trans f_20
  replace f_22 := (hs.o gx trivial rfl).2.trans f_22
  replace hz := hx_zr [0, 1, 2, 4, 5, 10, 11, 13, 16, 18] hz hs gx trivial rfl
  replace nbF0 : h_23.2.1 q_6 = bF0 := (funext fun j => (hs.a gq_6 rfl j).1).trans nbF0
  replace hM := hM.tr (hs.mono (by decide))
  replace gx := gx.S hs
  replace gv1 := gv1.S hs
  replace gv2 := gv2.S hs
  replace gv3 := gv3.S hs
  replace gq_2 := gq_2.S hs
  replace gq_6 := gq_6.S hs
  have f_24 : h_23.2.2 x 2 = (some v2) := by rw [eh_23]; exact hx_pr_at _ _ _ _
  refine lv_aload_n hx hb dX2_init_59 rfl (lv_at hl 0 rfl) ?_
  refine lv_aload hx hb dX2_init_60 (lv_at hl 4 rfl) ?_
  refine hx_putrF hx hb hts hC_2 hown hW hT (hx_S.rf (M := [(118, 3)])) gx tt_118 3 (by decide) rfl kw_734 ⟨rfl, rfl, rfl⟩ rfl hin rfl (x := (some v3)) ⟨fun _ z => (by cases z), fun q hq => (by cases hq; exact ⟨gv3.1, by rw [gv3.2]; decide⟩)⟩ rfl rfl rfl (List.mem_singleton.mpr rfl) dX2_init_62 (fun H locs h_25 eh_25 hW hT hs => ?_)
  replace f_4 := (hs.o gx trivial rfl).2.trans f_4
  replace f_8 := (hs.o gx trivial rfl).2.trans f_8
  replace f_10 := (hs.o gx trivial rfl).1.trans f_10
  replace f_12 := (hs.o gx trivial rfl).1.trans f_12
  replace f_14 := (hs.o gx trivial rfl).1.trans f_14
  replace f_16 := (hs.o gx trivial rfl).1.trans f_16
  replace f_18 := (hs.o gx trivial rfl).1.trans f_18
  replace f_20 := (hs.o gx trivial rfl).1.trans f_20
  replace f_22 := (hs.o gx trivial rfl).2.trans f_22
  replace f_24 := (hs.o gx trivial rfl).2.trans f_24
  replace hz := hx_zr [0, 1, 2, 3, 4, 5, 10, 11, 13, 16, 18] hz hs gx trivial rfl
  replace nbF0 : h_25.2.1 q_6 = bF0 := (funext fun j => (hs.a gq_6 rfl j).1).trans nbF0
  replace hM := hM.tr (hs.mono (by decide))
  replace gx := gx.S hs
  replace gv1 := gv1.S hs
  replace gv2 := gv2.S hs
  replace gv3 := gv3.S hs
  replace gq_2 := gq_2.S hs
  replace gq_6 := gq_6.S hs
  have f_26 : h_25.2.2 x 3 = (some v3) := by rw [eh_25]; exact hx_pr_at _ _ _ _
  refine lv_aload_n hx hb dX2_init_65 rfl (lv_at hl 0 rfl) ?_
  refine hk_getr hx hb hts hC_2 hown hW gx tt_118 5 (by decide) rfl kw_739 ⟨rfl, rfl, rfl⟩ f_8 dX2_init_66 ?_
  refine lv_iconst (v := 0) hx hb dX2_init_69 (by decide) ?_
  refine lv_iconst (v := -1) hx hb dX2_init_70 (by decide) ?_
  have nbF0O := nbF0
  refine hx_iast hx hb hW hT (hx_S.rf (M := [(21, 0)])) gq_6 tt_21 rfl (by decide) rfl (by decide) (List.mem_singleton.mpr rfl) dX2_init_71 (fun H locs h_27 eh_27 hW hT hs => ?_)
  replace f_4 := (hs.o gx trivial rfl).2.trans f_4
  replace f_8 := (hs.o gx trivial rfl).2.trans f_8
  replace f_10 := (hs.o gx trivial rfl).1.trans f_10
  replace f_12 := (hs.o gx trivial rfl).1.trans f_12
  replace f_14 := (hs.o gx trivial rfl).1.trans f_14
  replace f_16 := (hs.o gx trivial rfl).1.trans f_16
  replace f_18 := (hs.o gx trivial rfl).1.trans f_18
  replace f_20 := (hs.o gx trivial rfl).1.trans f_20
  replace f_22 := (hs.o gx trivial rfl).2.trans f_22
  replace f_24 := (hs.o gx trivial rfl).2.trans f_24
  replace f_26 := (hs.o gx trivial rfl).2.trans f_26
  replace hz := hx_zr [0, 1, 2, 3, 4, 5, 10, 11, 13, 16, 18] hz hs gx trivial rfl
  replace hM := hx_S_pn hM nq_q_6 eh_27
  replace gx := gx.S hs
  replace gv1 := gv1.S hs
  replace gv2 := gv2.S hs
  replace gv3 := gv3.S hs
  replace gq_2 := gq_2.S hs
  replace gq_6 := gq_6.S hs
  obtain ⟨fa_28, dfa_28⟩ : ∃ g : Nat → Int32, g = hx_up bF0 (0 : Int32).toNatClampNeg (-1 : Int32) := ⟨_, rfl⟩
  have nfa_28 : h_27.2.1 q_6 = fa_28 := by rw [eh_27, dfa_28, ← nbF0O]; exact hx_pi_fun _ _ _ _
  refine lv_aload_n hx hb dX2_init_72 rfl (lv_at hl 0 rfl) ?_
  refine hk_getr hx hb hts hC_2 hown hW gx tt_118 5 (by decide) rfl kw_739 ⟨rfl, rfl, rfl⟩ f_8 dX2_init_73 ?_
  refine lv_iconst (v := 1) hx hb dX2_init_76 (by decide) ?_
  refine lv_iconst (v := -1) hx hb dX2_init_77 (by decide) ?_
  have nfa_28O := nfa_28
  refine hx_iast hx hb hW hT (hx_S.rf (M := [(21, 0)])) gq_6 tt_21 rfl (by decide) rfl (by decide) (List.mem_singleton.mpr rfl) dX2_init_78 (fun H locs h_29 eh_29 hW hT hs => ?_)
  replace f_4 := (hs.o gx trivial rfl).2.trans f_4
  replace f_8 := (hs.o gx trivial rfl).2.trans f_8
  replace f_10 := (hs.o gx trivial rfl).1.trans f_10
  replace f_12 := (hs.o gx trivial rfl).1.trans f_12
  replace f_14 := (hs.o gx trivial rfl).1.trans f_14
  replace f_16 := (hs.o gx trivial rfl).1.trans f_16
  replace f_18 := (hs.o gx trivial rfl).1.trans f_18
  replace f_20 := (hs.o gx trivial rfl).1.trans f_20
  replace f_22 := (hs.o gx trivial rfl).2.trans f_22
  replace f_24 := (hs.o gx trivial rfl).2.trans f_24
  replace f_26 := (hs.o gx trivial rfl).2.trans f_26
  replace hz := hx_zr [0, 1, 2, 3, 4, 5, 10, 11, 13, 16, 18] hz hs gx trivial rfl
  replace hM := hx_S_pn hM nq_q_6 eh_29
  replace gx := gx.S hs
  replace gv1 := gv1.S hs
  replace gv2 := gv2.S hs
  replace gv3 := gv3.S hs
  replace gq_2 := gq_2.S hs
  replace gq_6 := gq_6.S hs
  obtain ⟨fa_30, dfa_30⟩ : ∃ g : Nat → Int32, g = hx_up fa_28 (1 : Int32).toNatClampNeg (-1 : Int32) := ⟨_, rfl⟩
  have nfa_30 : h_29.2.1 q_6 = fa_30 := by rw [eh_29, dfa_30, ← nfa_28O]; exact hx_pi_fun _ _ _ _
  refine lv_aload_n hx hb dX2_init_79 rfl (lv_at hl 0 rfl) ?_
  refine hk_getr hx hb hts hC_2 hown hW gx tt_118 5 (by decide) rfl kw_739 ⟨rfl, rfl, rfl⟩ f_8 dX2_init_80 ?_
  refine lv_iconst (v := 2) hx hb dX2_init_83 (by decide) ?_
  refine lv_iconst (v := -1) hx hb dX2_init_84 (by decide) ?_
  have nfa_30O := nfa_30
  refine hx_iast hx hb hW hT (hx_S.rf (M := [(21, 0)])) gq_6 tt_21 rfl (by decide) rfl (by decide) (List.mem_singleton.mpr rfl) dX2_init_85 (fun H locs h_31 eh_31 hW hT hs => ?_)
  replace f_4 := (hs.o gx trivial rfl).2.trans f_4
  replace f_8 := (hs.o gx trivial rfl).2.trans f_8
  replace f_10 := (hs.o gx trivial rfl).1.trans f_10
  replace f_12 := (hs.o gx trivial rfl).1.trans f_12
  replace f_14 := (hs.o gx trivial rfl).1.trans f_14
  replace f_16 := (hs.o gx trivial rfl).1.trans f_16
  replace f_18 := (hs.o gx trivial rfl).1.trans f_18
  replace f_20 := (hs.o gx trivial rfl).1.trans f_20
  replace f_22 := (hs.o gx trivial rfl).2.trans f_22
  replace f_24 := (hs.o gx trivial rfl).2.trans f_24
  replace f_26 := (hs.o gx trivial rfl).2.trans f_26
  replace hz := hx_zr [0, 1, 2, 3, 4, 5, 10, 11, 13, 16, 18] hz hs gx trivial rfl
  replace hM := hx_S_pn hM nq_q_6 eh_31
  replace gx := gx.S hs
  replace gv1 := gv1.S hs
  replace gv2 := gv2.S hs
  replace gv3 := gv3.S hs
  replace gq_2 := gq_2.S hs
  replace gq_6 := gq_6.S hs
  obtain ⟨fa_32, dfa_32⟩ : ∃ g : Nat → Int32, g = hx_up fa_30 (2 : Int32).toNatClampNeg (-1 : Int32) := ⟨_, rfl⟩
  have nfa_32 : h_31.2.1 q_6 = fa_32 := by rw [eh_31, dfa_32, ← nfa_30O]; exact hx_pi_fun _ _ _ _
  have f_33 : h_31.2.1 x 9 = 0 := (hz 9 rfl).1
  have f_34 : h_31.2.1 x 12 = 0 := (hz 12 rfl).1
  have f_35 : h_31.2.1 x 14 = 0 := (hz 14 rfl).1
  have f_36 : h_31.2.1 x 15 = 0 := (hz 15 rfl).1
  have f_37 : h_31.2.1 x 17 = 0 := (hz 17 rfl).1
  have hF : hx_F (fun k f => hx_o ((L ++ [q_2]) ++ [q_6]) h_31 f (h_31.2.1 x k) (h_31.2.2 x k)) T_f2 0 := ⟨hx_oi f_20 ⟨by omega, by omega⟩, hx_or f_22 gv1 (by decide), hx_or f_24 gv2 (by decide), hx_or f_26 gv3 (by decide), hx_or f_4 gq_2 (by decide), hx_or f_8 gq_6 (by decide), hx_oi (hz 6 rfl).1 (by decide), hx_oi (hz 7 rfl).1 (by decide), hx_oi (hz 8 rfl).1 (by decide), hx_oi f_33 (by decide), hx_oi f_10 (by decide), hx_oi f_12 (by decide), hx_oi f_34 (by decide), hx_oi f_14 (by decide), hx_oi f_35 (by decide), hx_oi f_36 (by decide), hx_oi f_16 (by decide), hx_oi f_37 (by decide), hx_oi f_18 (by decide), trivial⟩
  have hT := hx_T_rt hT gx tt_2 rfl (hx_F_all hF)
  have hW := hx_W_rt hW gx tt_118 tt_2 (fun _ _ => rfl)
  have hM := hx_SX_rt (x := x) (t := 2) hM
  have gv1 := hx_rt_o (t := 2) gv1 (gv1.ne gx (by decide))
  have gv2 := hx_rt_o (t := 2) gv2 (gv2.ne gx (by decide))
  have gv3 := hx_rt_o (t := 2) gv3 (gv3.ne gx (by decide))
  have gq_2 := hx_rt_o (t := 2) gq_2 (gq_2.ne gx (by decide))
  have gq_6 := hx_rt_o (t := 2) gq_6 (gq_6.ne gx (by decide))
  have gx := hx_rt_g (t := 2) gx
  have f_4 : (hx_rt h_31 x 2).2.2 x 4 = some q_2 := f_4
  have f_8 : (hx_rt h_31 x 2).2.2 x 5 = some q_6 := f_8
  have f_10 : (hx_rt h_31 x 2).2.1 x 10 = (-1 : Int32) := f_10
  have f_12 : (hx_rt h_31 x 2).2.1 x 11 = (-1 : Int32) := f_12
  have f_14 : (hx_rt h_31 x 2).2.1 x 13 = (-1 : Int32) := f_14
  have f_16 : (hx_rt h_31 x 2).2.1 x 16 = (-1 : Int32) := f_16
  have f_18 : (hx_rt h_31 x 2).2.1 x 18 = (-1 : Int32) := f_18
  have f_20 : (hx_rt h_31 x 2).2.1 x 0 = i1 := f_20
  have f_22 : (hx_rt h_31 x 2).2.2 x 1 = some v1 := f_22
  have f_24 : (hx_rt h_31 x 2).2.2 x 2 = some v2 := f_24
  have f_26 : (hx_rt h_31 x 2).2.2 x 3 = some v3 := f_26
  have f_33 : (hx_rt h_31 x 2).2.1 x 9 = (0 : Int32) := f_33
  have f_34 : (hx_rt h_31 x 2).2.1 x 12 = (0 : Int32) := f_34
  have f_35 : (hx_rt h_31 x 2).2.1 x 14 = (0 : Int32) := f_35
  have f_36 : (hx_rt h_31 x 2).2.1 x 15 = (0 : Int32) := f_36
  have f_37 : (hx_rt h_31 x 2).2.1 x 17 = (0 : Int32) := f_37
  have nfa_32 : (hx_rt h_31 x 2).2.1 q_6 = fa_32 := nfa_32
  generalize eh : hx_rt h_31 x 2 = h_38 at hT hW hM gx gv1 gv2 gv3 gq_2 gq_6 f_4 f_8 f_10 f_12 f_14 f_16 f_18 f_20 f_22 f_24 f_26 f_33 f_34 f_35 f_36 f_37 nfa_32
  refine W.widen (k := 2) (n := 11) (Nat.le_of_ble_eq_true rfl) (Nat.le_of_ble_eq_true rfl) ?_
  exact hx_retv hx hb hr hlk hW ⟨hT, hM, gx, f_20, f_10, f_12, f_33, f_34, f_14, f_16, f_18, f_35, f_36, f_37, f_22, f_24, f_26, ⟨q_2, f_4, gq_2, ⟨trivial, nq_q_2⟩⟩, ⟨q_6, f_8, gq_6, ⟨(by rw [nfa_32]; exact hv_bn3 dfa_28 dfa_30 dfa_32), nq_q_6⟩⟩⟩ dX2_init_86
end
section
set_option maxHeartbeats 4000000 in
set_option maxRecDepth 100000 in
theorem t_X9_person_v (l : Launch) (dC : Nat → ClassId) (dI : Nat → Nat → Nat) (dA : Nat → ClassId) (L : List Nat) (h : hx_h) (sz : Nat) (x : Nat) (i1 : Int32) (i2 : Int32) (i3 : Int32) (i4 : Int32) (i5 : Int32) (i6 : Int32) (hT : hx_T T_tb L h) (gx : hx_g L h x 9) (qp : Nat) (gqp : hx_g L h qp 44) (f_x_7 : h.2.2 x 7 = some qp) (qc : Nat) (gqc : hx_g L h qc 45) (f_x_10 : h.2.2 x 10 = some qc)  (pn0 : Int32) (f_x_8 : h.2.1 x 8 = pn0) (cn0 : Int32) (f_x_11 : h.2.1 x 11 = cn0) (df : Nat → Int32) (cl_qp_7 : hx_col 40 h qp 7 = df) (jf : Nat → Int32) (cl_qp_8 : hx_col 40 h qp 8 = jf) (dxf : Nat → Int32) (cl_qp_5 : hx_col 40 h qp 5 = dxf) (dyf : Nat → Int32) (cl_qp_6 : hx_col 40 h qp 6 = dyf) (bnf : Nat → Int32) (cl_qp_1 : hx_col 40 h qp 1 = bnf) (kkf : Nat → Int32) (cl_qp_2 : hx_col 40 h qp 2 = kkf) (eaf : Nat → Int32) (cl_qp_3 : hx_col 40 h qp 3 = eaf) (hdf : Nat → Int32) (cl_qp_4 : hx_col 40 h qp 4 = hdf) (nu_qp : hx_num 40 h qp 0 (pn0.toInt)) (agf byf : Nat → Int32) (hDF : hw_DF h qc qp 2 agf cn0.toInt) (hDP : hw_DF h qc qp 1 byf cn0.toInt) (pf_x_8 : ∀ j : Nat, (j : Int) < (h.2.1 x 8).toInt → h.2.2 qp j ≠ none) : Met l yX9_person (Cond.code yX9_person cX9_person 8 (some .int) :: hx_all) ({ frames := 2, cells := 1, slots := 10, locals := 45 }) (va_Pc [.ref x, .int i1, .int i2, .int i3, .int i4, .int i5, .int i6] (hx_B T_tb (P_ty dA) (dC, dI) vwCl L h sz)) (va_Qi (fun (r : Int32) (u : List Nat × hx_h) => (∃ (pn1 : Int32) (df1 : Nat → Int32) (jf1 : Nat → Int32) (dxf1 : Nat → Int32) (dyf1 : Nat → Int32) (bnf1 : Nat → Int32) (kkf1 : Nat → Int32) (eaf1 : Nat → Int32) (hdf1 : Nat → Int32), u.2.2.1 x 8 = pn1 ∧ hx_col 40 u.2 qp 7 = df1 ∧ hx_col 40 u.2 qp 8 = jf1 ∧ hx_col 40 u.2 qp 5 = dxf1 ∧ hx_col 40 u.2 qp 6 = dyf1 ∧ hx_col 40 u.2 qp 1 = bnf1 ∧ hx_col 40 u.2 qp 2 = kkf1 ∧ hx_col 40 u.2 qp 3 = eaf1 ∧ hx_col 40 u.2 qp 4 = hdf1 ∧ ((hx_num 40 u.2 qp 0 (pn1.toInt)) ∧ (((hx_PS pn0.toInt i1.toInt i2.toInt i3.toInt i4.toInt i5.toInt i6.toInt r.toInt pn1.toInt) ∧ hx_PD pn0.toInt r.toInt df df1 ∧ hx_PD pn0.toInt r.toInt jf jf1 ∧ hx_CD pn0.toInt r.toInt i4 dxf dxf1 ∧ hx_CD pn0.toInt r.toInt i5 dyf dyf1 ∧ hx_CD pn0.toInt r.toInt i1 bnf bnf1 ∧ hx_CD pn0.toInt r.toInt i6 kkf kkf1 ∧ hw_DF u.2 qc qp 2 agf cn0.toInt ∧ hw_DF u.2 qc qp 1 byf cn0.toInt) ∧ (hx_CD pn0.toInt r.toInt i2 eaf eaf1 ∧ hx_CD pn0.toInt r.toInt i3 hdf hdf1)))) ∧ hx_T T_tb u.1 u.2 ∧ hx_S T_tb [(4, 3), (4, 4), (4, 5), (4, 6), (9, 8), (44, 0), (120, 0), (120, 1), (120, 2)] L h u.1 u.2 ∧ (∀ j : Nat, (j : Int) < (u.2.2.1 x 8).toInt → u.2.2.2 qp j ≠ none)) (hx_E T_tb (P_ty dA) (dC, dI) vwCl (hx_A L sz)) (hx_A L sz)) 1 10 (hx_A L sz) := by
  refine hx_met (lv := [(0, .ref x), (1, .int i1), (2, .int i2), (3, .int i3), (4, .int i4), (5, .int i5), (6, .int i6)]) (by decide +kernel) rfl (Nat.le_of_ble_eq_true rfl) rfl ?_
  intro p e s m below meth c hx hb hml hr hlk hts0 hown hin hsz hW ls hl
  have hts : ∀ w ∈ hx_all, w.before _ s = true := fun w hw => hts0 w (List.mem_cons_of_mem _ hw)
  have hown : s.vm.findClass "SmallCourt" = some m.cls := hown
  have hM : hx_S T_tb [(4, 3), (4, 4), (4, 5), (4, 6), (9, 8), (44, 0), (120, 0), (120, 1), (120, 2)] L h L h := hx_S.rf
  have b_pn0 := hT.gi gx tt_9 (k := 8) rfl
  rw [f_x_8] at b_pn0
  have b_pn0 : 0 ≤ pn0.toInt ∧ pn0.toInt ≤ 40 := b_pn0
  have b_cn0 := hT.gi gx tt_9 (k := 11) rfl
  rw [f_x_11] at b_cn0
  have b_cn0 : 0 ≤ cn0.toInt ∧ cn0.toInt ≤ 100 := b_cn0
  refine lv_aload_n hx hb dX9_person_0 rfl (lv_at hl 0 rfl) ?_
  refine hk_geti hx hb hts hC_9 hown hW gx tt_9 8 (by decide) rfl kw_372 ⟨rfl, rfl, rfl⟩ f_x_8 dX9_person_1 ?_
  refine lv_bipush (v := 40) hx hb dX9_person_4 (by decide) ?_
  refine hb_icmp_ge (zx := pn0.toInt) (zy := 40) (tgt := 45) hx hb rfl (by decide) dX9_person_6 (by decide) (fun c_1 => ?_) (fun c_1 => ?_)
  · skip
    refine lv_iconst (v := -1) hx hb dX9_person_45 (by decide) ?_
    refine W.widen (k := 1) (n := 10) (Nat.le_of_ble_eq_true rfl) (Nat.le_of_ble_eq_true rfl) ?_
    exact hx_reti hx hb hr hlk hW ⟨⟨pn0, df, jf, dxf, dyf, bnf, kkf, eaf, hdf, f_x_8, cl_qp_7, cl_qp_8, cl_qp_5, cl_qp_6, cl_qp_1, cl_qp_2, cl_qp_3, cl_qp_4, ⟨(hx_num_c nu_qp (by omega)), ⟨⟨(Or.inl ⟨by decide, by omega, by unfold hx_pcn; omega⟩), (Or.inl ⟨by decide, rfl⟩), (Or.inl ⟨by decide, rfl⟩), (Or.inl ⟨by decide, rfl⟩), (Or.inl ⟨by decide, rfl⟩), (Or.inl ⟨by decide, rfl⟩), (Or.inl ⟨by decide, rfl⟩), hDF, hDP⟩, ⟨(Or.inl ⟨by decide, rfl⟩), (Or.inl ⟨by decide, rfl⟩)⟩⟩⟩⟩, hT, hM, pf_x_8⟩ dX9_person_46
  · skip
    refine lv_iload_n hx hb dX9_person_9 rfl (lv_at hl 1 rfl) ?_
    refine lv_sipush (v := -30000) hx hb dX9_person_10 (by decide) ?_
    refine lv_sipush (v := 7999) hx hb dX9_person_13 (by decide) ?_
    have hTo := hT
    have zc_7999 : (7999 : Int32).toInt = 7999 := by decide
    have zc_m30000 : (-30000 : Int32).toInt = -30000 := by decide
    refine hx_goi (hx_runS (As := [.int i1, .int (-30000 : Int32), .int (7999 : Int32)]) (rest := []) ⟨hx, hb, hml, hown, hts⟩ hW (t_X9_isWithin_2 l dC dI dA L h s.heap.size i1 (-30000 : Int32) (7999 : Int32) hT) (va_cwS 3 hts (hx_gS kw_434 kw_432 kw_433 kw_94) rfl rfl rfl (by decide +kernel) ⟨Nat.le_of_ble_eq_true rfl, Nat.le_of_ble_eq_true rfl⟩) rfl hl.1 rfl (Nat.le_of_ble_eq_true rfl) dX9_person_16 ⟨Nat.le_of_ble_eq_true rfl, Nat.le_of_ble_eq_true rfl⟩) hW (fun r_4 L_2 h_3 H locs p_5 hW => ?_)
    obtain ⟨hr_6, hT, hs⟩ := p_5
    replace hT : hx_T T_tb L_2 h_3 := hT
    replace hs : hx_S T_tb [] L h L_2 h_3 := hs
    replace f_x_7 := (hs.o gx trivial rfl).2.trans f_x_7
    replace f_x_10 := (hs.o gx trivial rfl).2.trans f_x_10
    replace f_x_8 := (hs.o gx trivial rfl).1.trans f_x_8
    replace f_x_11 := (hs.o gx trivial rfl).1.trans f_x_11
    replace pf_x_8 : ∀ j : Nat, (j : Int) < (h_3.2.1 x 8).toInt → h_3.2.2 qp j ≠ none := by
      intro j hj; rw [(hs.o gx trivial rfl).1] at hj; rw [(hs.a gqp rfl j).2]; exact pf_x_8 j hj
    replace cl_qp_7 : hx_col 40 h_3 qp 7 = df := (hx_col_S hs hTo gqp tt_44 tt_4 rfl rfl).trans cl_qp_7
    replace cl_qp_8 : hx_col 40 h_3 qp 8 = jf := (hx_col_S hs hTo gqp tt_44 tt_4 rfl rfl).trans cl_qp_8
    replace cl_qp_5 : hx_col 40 h_3 qp 5 = dxf := (hx_col_S hs hTo gqp tt_44 tt_4 rfl rfl).trans cl_qp_5
    replace cl_qp_6 : hx_col 40 h_3 qp 6 = dyf := (hx_col_S hs hTo gqp tt_44 tt_4 rfl rfl).trans cl_qp_6
    replace cl_qp_1 : hx_col 40 h_3 qp 1 = bnf := (hx_col_S hs hTo gqp tt_44 tt_4 rfl rfl).trans cl_qp_1
    replace cl_qp_2 : hx_col 40 h_3 qp 2 = kkf := (hx_col_S hs hTo gqp tt_44 tt_4 rfl rfl).trans cl_qp_2
    replace cl_qp_3 : hx_col 40 h_3 qp 3 = eaf := (hx_col_S hs hTo gqp tt_44 tt_4 rfl rfl).trans cl_qp_3
    replace cl_qp_4 : hx_col 40 h_3 qp 4 = hdf := (hx_col_S hs hTo gqp tt_44 tt_4 rfl rfl).trans cl_qp_4
    replace nu_qp : hx_num 40 h_3 qp 0 (pn0.toInt) := hx_num_S hs hTo gqp tt_44 tt_4 rfl rfl nu_qp
    replace hDF : hw_DF h_3 qc qp 2 agf cn0.toInt := hw_DF_S hs hTo gqc gqp tt_45 tt_2 rfl rfl rfl hDF
    replace hDP : hw_DF h_3 qc qp 1 byf cn0.toInt := hw_DF_S hs hTo gqc gqp tt_45 tt_2 rfl rfl rfl hDP
    replace hM := hM.tr (hs.mono (by decide))
    replace gx := gx.S hs
    replace gqp := gqp.S hs
    replace gqc := gqc.S hs
    refine hb_if_eq (zx := r_4.toInt) (tgt := 45) hx hb rfl dX9_person_19 (by decide) (fun c_7 => ?_) (fun c_7 => ?_)
    · skip
      replace hr_6 := hr_6.resolve_right (fun z9 => absurd (c_7.symm.trans z9.1) (by decide))
      replace hr_6 := hr_6.2
      refine lv_iconst (v := -1) hx hb dX9_person_45 (by decide) ?_
      refine W.widen (k := 1) (n := 10) (Nat.le_of_ble_eq_true rfl) (Nat.le_of_ble_eq_true rfl) ?_
      exact hx_reti hx hb hr hlk hW ⟨⟨pn0, df, jf, dxf, dyf, bnf, kkf, eaf, hdf, f_x_8, cl_qp_7, cl_qp_8, cl_qp_5, cl_qp_6, cl_qp_1, cl_qp_2, cl_qp_3, cl_qp_4, ⟨(hx_num_c nu_qp (by omega)), ⟨⟨(Or.inl ⟨by decide, by omega, by unfold hx_pcn; omega⟩), (Or.inl ⟨by decide, rfl⟩), (Or.inl ⟨by decide, rfl⟩), (Or.inl ⟨by decide, rfl⟩), (Or.inl ⟨by decide, rfl⟩), (Or.inl ⟨by decide, rfl⟩), (Or.inl ⟨by decide, rfl⟩), hDF, hDP⟩, ⟨(Or.inl ⟨by decide, rfl⟩), (Or.inl ⟨by decide, rfl⟩)⟩⟩⟩⟩, hT, hM, pf_x_8⟩ dX9_person_46
    · skip
      replace hr_6 := hr_6.resolve_left (fun z9 => c_7 z9.1)
      replace c_7 := hr_6.1
      replace hr_6 := hr_6.2
      refine lv_iload_n hx hb dX9_person_22 rfl (lv_at hl 2 rfl) ?_
      refine lv_iload_n hx hb dX9_person_23 rfl (lv_at hl 3 rfl) ?_
      refine lv_iload hx hb dX9_person_24 (lv_at hl 4 rfl) ?_
      refine lv_iload hx hb dX9_person_26 (lv_at hl 5 rfl) ?_
      have hTo := hT
      refine hx_goi (hx_runS (As := [.int i2, .int i3, .int i4, .int i5]) (rest := []) ⟨hx, hb, hml, hown, hts⟩ hW (t_X9_isHousehold_2 l dC dI dA L_2 h_3 H.size i2 i3 i4 i5 hT) (va_cwS 4 hts (hx_gS kw_604 kw_602 kw_603 kw_94) rfl rfl rfl (by decide +kernel) ⟨Nat.le_of_ble_eq_true rfl, Nat.le_of_ble_eq_true rfl⟩) rfl hl.1 rfl (Nat.le_of_ble_eq_true rfl) dX9_person_28 ⟨Nat.le_of_ble_eq_true rfl, Nat.le_of_ble_eq_true rfl⟩) hW (fun r_10 L_8 h_9 H locs p_11 hW => ?_)
      obtain ⟨hr_12, hT, hs⟩ := p_11
      replace hT : hx_T T_tb L_8 h_9 := hT
      replace hs : hx_S T_tb [] L_2 h_3 L_8 h_9 := hs
      replace f_x_7 := (hs.o gx trivial rfl).2.trans f_x_7
      replace f_x_10 := (hs.o gx trivial rfl).2.trans f_x_10
      replace f_x_8 := (hs.o gx trivial rfl).1.trans f_x_8
      replace f_x_11 := (hs.o gx trivial rfl).1.trans f_x_11
      replace pf_x_8 : ∀ j : Nat, (j : Int) < (h_9.2.1 x 8).toInt → h_9.2.2 qp j ≠ none := by
        intro j hj; rw [(hs.o gx trivial rfl).1] at hj; rw [(hs.a gqp rfl j).2]; exact pf_x_8 j hj
      replace cl_qp_7 : hx_col 40 h_9 qp 7 = df := (hx_col_S hs hTo gqp tt_44 tt_4 rfl rfl).trans cl_qp_7
      replace cl_qp_8 : hx_col 40 h_9 qp 8 = jf := (hx_col_S hs hTo gqp tt_44 tt_4 rfl rfl).trans cl_qp_8
      replace cl_qp_5 : hx_col 40 h_9 qp 5 = dxf := (hx_col_S hs hTo gqp tt_44 tt_4 rfl rfl).trans cl_qp_5
      replace cl_qp_6 : hx_col 40 h_9 qp 6 = dyf := (hx_col_S hs hTo gqp tt_44 tt_4 rfl rfl).trans cl_qp_6
      replace cl_qp_1 : hx_col 40 h_9 qp 1 = bnf := (hx_col_S hs hTo gqp tt_44 tt_4 rfl rfl).trans cl_qp_1
      replace cl_qp_2 : hx_col 40 h_9 qp 2 = kkf := (hx_col_S hs hTo gqp tt_44 tt_4 rfl rfl).trans cl_qp_2
      replace cl_qp_3 : hx_col 40 h_9 qp 3 = eaf := (hx_col_S hs hTo gqp tt_44 tt_4 rfl rfl).trans cl_qp_3
      replace cl_qp_4 : hx_col 40 h_9 qp 4 = hdf := (hx_col_S hs hTo gqp tt_44 tt_4 rfl rfl).trans cl_qp_4
      replace nu_qp : hx_num 40 h_9 qp 0 (pn0.toInt) := hx_num_S hs hTo gqp tt_44 tt_4 rfl rfl nu_qp
      replace hDF : hw_DF h_9 qc qp 2 agf cn0.toInt := hw_DF_S hs hTo gqc gqp tt_45 tt_2 rfl rfl rfl hDF
      replace hDP : hw_DF h_9 qc qp 1 byf cn0.toInt := hw_DF_S hs hTo gqc gqp tt_45 tt_2 rfl rfl rfl hDP
      replace hM := hM.tr (hs.mono (by decide))
      replace gx := gx.S hs
      replace gqp := gqp.S hs
      replace gqc := gqc.S hs
      refine hb_if_eq (zx := r_10.toInt) (tgt := 45) hx hb rfl dX9_person_31 (by decide) (fun c_13 => ?_) (fun c_13 => ?_)
      · skip
        refine lv_iconst (v := -1) hx hb dX9_person_45 (by decide) ?_
        refine W.widen (k := 1) (n := 10) (Nat.le_of_ble_eq_true rfl) (Nat.le_of_ble_eq_true rfl) ?_
        exact hx_reti hx hb hr hlk hW ⟨⟨pn0, df, jf, dxf, dyf, bnf, kkf, eaf, hdf, f_x_8, cl_qp_7, cl_qp_8, cl_qp_5, cl_qp_6, cl_qp_1, cl_qp_2, cl_qp_3, cl_qp_4, ⟨(hx_num_c nu_qp (by omega)), ⟨⟨(Or.inl ⟨by decide, by omega, by unfold hx_pcn; omega⟩), (Or.inl ⟨by decide, rfl⟩), (Or.inl ⟨by decide, rfl⟩), (Or.inl ⟨by decide, rfl⟩), (Or.inl ⟨by decide, rfl⟩), (Or.inl ⟨by decide, rfl⟩), (Or.inl ⟨by decide, rfl⟩), hDF, hDP⟩, ⟨(Or.inl ⟨by decide, rfl⟩), (Or.inl ⟨by decide, rfl⟩)⟩⟩⟩⟩, hT, hM, pf_x_8⟩ dX9_person_46
      · skip
        refine lv_iload hx hb dX9_person_34 (lv_at hl 6 rfl) ?_
        refine lv_iconst (v := -1) hx hb dX9_person_36 (by decide) ?_
        refine lv_bipush (v := 19) hx hb dX9_person_37 (by decide) ?_
        have hTo := hT
        have zc_19 : (19 : Int32).toInt = 19 := by decide
        have zc_m1 : (-1 : Int32).toInt = -1 := by decide
        refine hx_goi (hx_runS (As := [.int i6, .int (-1 : Int32), .int (19 : Int32)]) (rest := []) ⟨hx, hb, hml, hown, hts⟩ hW (t_X9_isWithin_2 l dC dI dA L_8 h_9 H.size i6 (-1 : Int32) (19 : Int32) hT) (va_cwS 3 hts (hx_gS kw_434 kw_432 kw_433 kw_94) rfl rfl rfl (by decide +kernel) ⟨Nat.le_of_ble_eq_true rfl, Nat.le_of_ble_eq_true rfl⟩) rfl hl.1 rfl (Nat.le_of_ble_eq_true rfl) dX9_person_39 ⟨Nat.le_of_ble_eq_true rfl, Nat.le_of_ble_eq_true rfl⟩) hW (fun r_16 L_14 h_15 H locs p_17 hW => ?_)
        obtain ⟨hr_18, hT, hs⟩ := p_17
        replace hT : hx_T T_tb L_14 h_15 := hT
        replace hs : hx_S T_tb [] L_8 h_9 L_14 h_15 := hs
        replace f_x_7 := (hs.o gx trivial rfl).2.trans f_x_7
        replace f_x_10 := (hs.o gx trivial rfl).2.trans f_x_10
        replace f_x_8 := (hs.o gx trivial rfl).1.trans f_x_8
        replace f_x_11 := (hs.o gx trivial rfl).1.trans f_x_11
        replace pf_x_8 : ∀ j : Nat, (j : Int) < (h_15.2.1 x 8).toInt → h_15.2.2 qp j ≠ none := by
          intro j hj; rw [(hs.o gx trivial rfl).1] at hj; rw [(hs.a gqp rfl j).2]; exact pf_x_8 j hj
        replace cl_qp_7 : hx_col 40 h_15 qp 7 = df := (hx_col_S hs hTo gqp tt_44 tt_4 rfl rfl).trans cl_qp_7
        replace cl_qp_8 : hx_col 40 h_15 qp 8 = jf := (hx_col_S hs hTo gqp tt_44 tt_4 rfl rfl).trans cl_qp_8
        replace cl_qp_5 : hx_col 40 h_15 qp 5 = dxf := (hx_col_S hs hTo gqp tt_44 tt_4 rfl rfl).trans cl_qp_5
        replace cl_qp_6 : hx_col 40 h_15 qp 6 = dyf := (hx_col_S hs hTo gqp tt_44 tt_4 rfl rfl).trans cl_qp_6
        replace cl_qp_1 : hx_col 40 h_15 qp 1 = bnf := (hx_col_S hs hTo gqp tt_44 tt_4 rfl rfl).trans cl_qp_1
        replace cl_qp_2 : hx_col 40 h_15 qp 2 = kkf := (hx_col_S hs hTo gqp tt_44 tt_4 rfl rfl).trans cl_qp_2
        replace cl_qp_3 : hx_col 40 h_15 qp 3 = eaf := (hx_col_S hs hTo gqp tt_44 tt_4 rfl rfl).trans cl_qp_3
        replace cl_qp_4 : hx_col 40 h_15 qp 4 = hdf := (hx_col_S hs hTo gqp tt_44 tt_4 rfl rfl).trans cl_qp_4
        replace nu_qp : hx_num 40 h_15 qp 0 (pn0.toInt) := hx_num_S hs hTo gqp tt_44 tt_4 rfl rfl nu_qp
        replace hDF : hw_DF h_15 qc qp 2 agf cn0.toInt := hw_DF_S hs hTo gqc gqp tt_45 tt_2 rfl rfl rfl hDF
        replace hDP : hw_DF h_15 qc qp 1 byf cn0.toInt := hw_DF_S hs hTo gqc gqp tt_45 tt_2 rfl rfl rfl hDP
        replace hM := hM.tr (hs.mono (by decide))
        replace gx := gx.S hs
        replace gqp := gqp.S hs
        replace gqc := gqc.S hs
        refine hb_if_ne (zx := r_16.toInt) (tgt := 47) hx hb rfl dX9_person_42 (by decide) (fun c_19 => ?_) (fun c_19 => ?_)
        · skip
          replace hr_18 := hr_18.resolve_left (fun z9 => c_19 z9.1)
          replace c_19 := hr_18.1
          replace hr_18 := hr_18.2
          have hTo := hT
          refine hk_new hx hb hts hC_4 hown hW 120 tt_120 rfl (by decide) kw_188 kw_605 kw_108 (Nat.le_of_ble_eq_true rfl) (Nat.le_of_ble_eq_true rfl) dX9_person_47 (fun q_21 H h_20 eh_20 hqq_21 hW hs gq_21 => ?_)
          have nq_q_21 : ∀ a ∈ L, a ≠ q_21 := fun a ha z => hqq_21 (z ▸ (hM.1 a ha).1)
          have hT : hx_T T_tb (L_14 ++ [q_21]) h_20 := by rw [eh_20]; exact hx_T_nw hT hqq_21 tt_120 rfl
          replace f_x_7 := (hs.o gx trivial rfl).2.trans f_x_7
          replace f_x_10 := (hs.o gx trivial rfl).2.trans f_x_10
          replace f_x_8 := (hs.o gx trivial rfl).1.trans f_x_8
          replace f_x_11 := (hs.o gx trivial rfl).1.trans f_x_11
          replace pf_x_8 : ∀ j : Nat, (j : Int) < (h_20.2.1 x 8).toInt → h_20.2.2 qp j ≠ none := by
            intro j hj; rw [(hs.o gx trivial rfl).1] at hj; rw [(hs.a gqp rfl j).2]; exact pf_x_8 j hj
          replace cl_qp_7 : hx_col 40 h_20 qp 7 = df := (hx_col_S hs hTo gqp tt_44 tt_4 rfl rfl).trans cl_qp_7
          replace cl_qp_8 : hx_col 40 h_20 qp 8 = jf := (hx_col_S hs hTo gqp tt_44 tt_4 rfl rfl).trans cl_qp_8
          replace cl_qp_5 : hx_col 40 h_20 qp 5 = dxf := (hx_col_S hs hTo gqp tt_44 tt_4 rfl rfl).trans cl_qp_5
          replace cl_qp_6 : hx_col 40 h_20 qp 6 = dyf := (hx_col_S hs hTo gqp tt_44 tt_4 rfl rfl).trans cl_qp_6
          replace cl_qp_1 : hx_col 40 h_20 qp 1 = bnf := (hx_col_S hs hTo gqp tt_44 tt_4 rfl rfl).trans cl_qp_1
          replace cl_qp_2 : hx_col 40 h_20 qp 2 = kkf := (hx_col_S hs hTo gqp tt_44 tt_4 rfl rfl).trans cl_qp_2
          replace cl_qp_3 : hx_col 40 h_20 qp 3 = eaf := (hx_col_S hs hTo gqp tt_44 tt_4 rfl rfl).trans cl_qp_3
          replace cl_qp_4 : hx_col 40 h_20 qp 4 = hdf := (hx_col_S hs hTo gqp tt_44 tt_4 rfl rfl).trans cl_qp_4
          replace nu_qp : hx_num 40 h_20 qp 0 (pn0.toInt) := hx_num_S hs hTo gqp tt_44 tt_4 rfl rfl nu_qp
          replace hDF : hw_DF h_20 qc qp 2 agf cn0.toInt := hw_DF_S hs hTo gqc gqp tt_45 tt_2 rfl rfl rfl hDF
          replace hDP : hw_DF h_20 qc qp 1 byf cn0.toInt := hw_DF_S hs hTo gqc gqp tt_45 tt_2 rfl rfl rfl hDP
          replace hM := hM.tr (hs.mono (by decide))
          replace gx := gx.S hs
          replace gqp := gqp.S hs
          replace gqc := gqc.S hs
          have fz_22 : ∀ j, ([] : List Nat).contains j = false → h_20.2.1 q_21 j = 0 ∧ h_20.2.2 q_21 j = none := by rw [eh_20]; exact fun _ _ => ⟨hx_nw_i, hx_nw_r⟩
          refine lv_dup hx hb dX9_person_50 rfl ?_
          refine lv_aload_n hx hb dX9_person_51 rfl (lv_at hl 0 rfl) ?_
          refine hk_geti hx hb hts hC_9 hown hW gx tt_9 8 (by decide) rfl kw_372 ⟨rfl, rfl, rfl⟩ f_x_8 dX9_person_52 ?_
          refine lv_iload_n hx hb dX9_person_55 rfl (lv_at hl 1 rfl) ?_
          refine lv_iload hx hb dX9_person_56 (lv_at hl 6 rfl) ?_
          have hTo := hT
          refine hx_gov (hx_runI (As := [.int pn0, .int i1, .int i6]) (rest := [.ref q_21]) ⟨hx, hb, hml, hown, hts⟩ hW (t_X4_init l dC dI dA (L_14 ++ [q_21]) h_20 H.size q_21 pn0 i1 i6 hT gq_21 (fun j => fz_22 j rfl) ⟨by omega, by omega⟩ ⟨by omega, by omega⟩ ⟨by omega, by omega⟩) (cwI 3 hts (hx_gC kw_608) rfl rfl rfl (hts _ kw_108) (hts _ kw_606) (hts _ kw_607) rfl (by decide +kernel) ⟨Nat.le_of_ble_eq_true rfl, Nat.le_of_ble_eq_true rfl⟩) rfl hl.1 rfl (Nat.le_of_ble_eq_true rfl) dX9_person_58 ⟨Nat.le_of_ble_eq_true rfl, Nat.le_of_ble_eq_true rfl⟩) hW (fun L_23 h_24 H locs p_26 hW => ?_)
          have hTo := hT
          obtain ⟨hT, hs, gNq_21, po_27, po_28, po_29, po_30, po_31⟩ := p_26
          replace hT : hx_T T_tb L_23 h_24 := hT
          replace hs : hx_S T_tb [(120, 0), (120, 1), (120, 2)] (hx_X (L_14 ++ [q_21]) q_21) h_20 L_23 h_24 := hs
          have gx := hx_gX gx (gx.ne gq_21 (by decide))
          have gqp := hx_gX gqp (gqp.ne gq_21 (by decide))
          have gqc := hx_gX gqc (gqc.ne gq_21 (by decide))
          replace f_x_7 := (hs.o gx trivial rfl).2.trans f_x_7
          replace f_x_10 := (hs.o gx trivial rfl).2.trans f_x_10
          replace f_x_8 := (hs.o gx trivial rfl).1.trans f_x_8
          replace f_x_11 := (hs.o gx trivial rfl).1.trans f_x_11
          replace pf_x_8 : ∀ j : Nat, (j : Int) < (h_24.2.1 x 8).toInt → h_24.2.2 qp j ≠ none := by
            intro j hj; rw [(hs.o gx trivial rfl).1] at hj; rw [(hs.a gqp rfl j).2]; exact pf_x_8 j hj
          replace cl_qp_7 : hx_col 40 h_24 qp 7 = df := (hx_col_X hs hTo gqp gq_21 tt_44 tt_4 rfl rfl (by decide)).trans cl_qp_7
          replace cl_qp_8 : hx_col 40 h_24 qp 8 = jf := (hx_col_X hs hTo gqp gq_21 tt_44 tt_4 rfl rfl (by decide)).trans cl_qp_8
          replace cl_qp_5 : hx_col 40 h_24 qp 5 = dxf := (hx_col_X hs hTo gqp gq_21 tt_44 tt_4 rfl rfl (by decide)).trans cl_qp_5
          replace cl_qp_6 : hx_col 40 h_24 qp 6 = dyf := (hx_col_X hs hTo gqp gq_21 tt_44 tt_4 rfl rfl (by decide)).trans cl_qp_6
          replace cl_qp_1 : hx_col 40 h_24 qp 1 = bnf := (hx_col_X hs hTo gqp gq_21 tt_44 tt_4 rfl rfl (by decide)).trans cl_qp_1
          replace cl_qp_2 : hx_col 40 h_24 qp 2 = kkf := (hx_col_X hs hTo gqp gq_21 tt_44 tt_4 rfl rfl (by decide)).trans cl_qp_2
          replace cl_qp_3 : hx_col 40 h_24 qp 3 = eaf := (hx_col_X hs hTo gqp gq_21 tt_44 tt_4 rfl rfl (by decide)).trans cl_qp_3
          replace cl_qp_4 : hx_col 40 h_24 qp 4 = hdf := (hx_col_X hs hTo gqp gq_21 tt_44 tt_4 rfl rfl (by decide)).trans cl_qp_4
          replace nu_qp : hx_num 40 h_24 qp 0 (pn0.toInt) := hx_num_X hs hTo gqp gq_21 tt_44 tt_4 rfl rfl (by decide) nu_qp
          replace hDF : hw_DF h_24 qc qp 2 agf cn0.toInt := hw_DF_X hs hTo gqc gqp gq_21 tt_45 tt_2 rfl rfl rfl (by decide) hDF
          replace hDP : hw_DF h_24 qc qp 1 byf cn0.toInt := hw_DF_X hs hTo gqc gqp gq_21 tt_45 tt_2 rfl rfl rfl (by decide) hDP
          replace hM := hM.trX (hs.mono (by decide)) nq_q_21
          replace gx := gx.S hs
          replace gqp := gqp.S hs
          replace gqc := gqc.S hs
          have gq_21 : hx_g L_23 h_24 q_21 4 := gNq_21
          have po_27 : h_24.2.1 q_21 0 = pn0 := po_27
          have po_28 : h_24.2.1 q_21 7 = 0 := po_28
          have po_29 : h_24.2.1 q_21 8 = 0 := po_29
          have po_30 : h_24.2.1 q_21 1 = i1 := po_30
          have po_31 : h_24.2.1 q_21 2 = i6 := po_31
          refine lv_astore (lv' := [(7, .ref q_21), (0, .ref x), (1, .int i1), (2, .int i2), (3, .int i3), (4, .int i4), (5, .int i5), (6, .int i6)]) hx hb dX9_person_61 hl (by decide) rfl (fun ls hl => ?_)
          refine lv_aload hx hb dX9_person_63 (lv_at hl 0 rfl) ?_
          refine lv_iload_n hx hb dX9_person_65 rfl (lv_at hl 3 rfl) ?_
          refine lv_iload_n hx hb dX9_person_66 rfl (lv_at hl 4 rfl) ?_
          refine lv_iload hx hb dX9_person_67 (lv_at hl 5 rfl) ?_
          refine lv_iload hx hb dX9_person_69 (lv_at hl 6 rfl) ?_
          have numO9 : (h_24.2.1 q_21 0).toInt = pn0.toInt := by rw [po_27]
          have nu_qpO9 := nu_qp
          have gqpO9 := gqp
          have cl_qp_5O9 := cl_qp_5
          have cl_qp_6O9 := cl_qp_6
          have cl_qp_3O9 := cl_qp_3
          have cl_qp_4O9 := cl_qp_4
          have hTo := hT
          refine hx_gov (hx_runV (As := [.int i2, .int i3, .int i4, .int i5]) (rest := []) ⟨hx, hb, hml, hown, hts⟩ hW gq_21 tt_4 (T := TX4) (N := 10) rfl (t_X4_tell_2 l dC dI dA L_23 h_24 H.size q_21 i2 i3 i4 i5 hT gq_21) (cwV 4 hts (hx_gV kw_651 kw_648 kw_649 kw_650 kw_108) rfl rfl rfl (by decide +kernel) ⟨Nat.le_of_ble_eq_true rfl, Nat.le_of_ble_eq_true rfl⟩) rfl hl.1 rfl (Nat.le_of_ble_eq_true rfl) dX9_person_71 ⟨Nat.le_of_ble_eq_true rfl, Nat.le_of_ble_eq_true rfl⟩) hW (fun L_32 h_33 H locs p_35 hW => ?_)
          obtain ⟨⟨w_37, w_38, w_39, w_40, fw_37, fw_38, fw_39, fw_40, hr_36⟩, hT, hs⟩ := p_35
          replace hT : hx_T T_tb L_32 h_33 := hT
          replace hs : hx_S T_tb [(4, 3), (4, 4), (4, 5), (4, 6)] L_23 h_24 L_32 h_33 := hs
          replace f_x_7 := (hs.o gx trivial rfl).2.trans f_x_7
          replace f_x_10 := (hs.o gx trivial rfl).2.trans f_x_10
          replace f_x_8 := (hs.o gx trivial rfl).1.trans f_x_8
          replace f_x_11 := (hs.o gx trivial rfl).1.trans f_x_11
          replace po_27 := (hs.o gq_21 trivial rfl).1.trans po_27
          replace po_28 := (hs.o gq_21 trivial rfl).1.trans po_28
          replace po_29 := (hs.o gq_21 trivial rfl).1.trans po_29
          replace po_30 := (hs.o gq_21 trivial rfl).1.trans po_30
          replace po_31 := (hs.o gq_21 trivial rfl).1.trans po_31
          replace pf_x_8 : ∀ j : Nat, (j : Int) < (h_33.2.1 x 8).toInt → h_33.2.2 qp j ≠ none := by
            intro j hj; rw [(hs.o gx trivial rfl).1] at hj; rw [(hs.a gqp rfl j).2]; exact pf_x_8 j hj
          replace cl_qp_7 : hx_col 40 h_33 qp 7 = df := (hx_col_S hs hTo gqp tt_44 tt_4 rfl rfl).trans cl_qp_7
          replace cl_qp_8 : hx_col 40 h_33 qp 8 = jf := (hx_col_S hs hTo gqp tt_44 tt_4 rfl rfl).trans cl_qp_8
          replace cl_qp_1 : hx_col 40 h_33 qp 1 = bnf := (hx_col_S hs hTo gqp tt_44 tt_4 rfl rfl).trans cl_qp_1
          replace cl_qp_2 : hx_col 40 h_33 qp 2 = kkf := (hx_col_S hs hTo gqp tt_44 tt_4 rfl rfl).trans cl_qp_2
          replace nu_qp : hx_num 40 h_33 qp 0 (pn0.toInt) := hx_num_S hs hTo gqp tt_44 tt_4 rfl rfl nu_qp
          replace hDF : hw_DF h_33 qc qp 2 agf cn0.toInt := hw_DF_S hs hTo gqc gqp tt_45 tt_2 rfl rfl rfl hDF
          replace hDP : hw_DF h_33 qc qp 1 byf cn0.toInt := hw_DF_S hs hTo gqc gqp tt_45 tt_2 rfl rfl rfl hDP
          replace hM := hM.tr (hs.mono (by decide))
          replace gx := gx.S hs
          replace gqp := gqp.S hs
          replace gqc := gqc.S hs
          replace gq_21 := gq_21.S hs
          have fw_37 : h_33.2.1 q_21 5 = w_37 := fw_37
          have bw_37 := hT.gi gq_21 tt_4 (k := 5) rfl
          rw [fw_37] at bw_37
          have bw_37 : -2147483648 ≤ w_37.toInt ∧ w_37.toInt ≤ 2147483647 := bw_37
          have fw_38 : h_33.2.1 q_21 6 = w_38 := fw_38
          have bw_38 := hT.gi gq_21 tt_4 (k := 6) rfl
          rw [fw_38] at bw_38
          have bw_38 : -2147483648 ≤ w_38.toInt ∧ w_38.toInt ≤ 2147483647 := bw_38
          have fw_39 : h_33.2.1 q_21 3 = w_39 := fw_39
          have bw_39 := hT.gi gq_21 tt_4 (k := 3) rfl
          rw [fw_39] at bw_39
          have bw_39 : -2147483648 ≤ w_39.toInt ∧ w_39.toInt ≤ 2147483647 := bw_39
          have fw_40 : h_33.2.1 q_21 4 = w_40 := fw_40
          have bw_40 := hT.gi gq_21 tt_4 (k := 4) rfl
          rw [fw_40] at bw_40
          have bw_40 : -2147483648 ≤ w_40.toInt ∧ w_40.toInt ≤ 2147483647 := bw_40
          obtain ⟨hr_36a, hr_36b⟩ := hr_36
          have tlr := fun j => (hs.a gqpO9 rfl j).2
          have nc_41 : hx_col 40 h_33 qp 5 = dxf := hw_col_k hr_36a.2.2 tlr (hw_num_no nu_qpO9 numO9) cl_qp_5O9
          have nc_42 : hx_col 40 h_33 qp 6 = dyf := hw_col_k hr_36a.2.2 tlr (hw_num_no nu_qpO9 numO9) cl_qp_6O9
          have nc_43 : hx_col 40 h_33 qp 3 = eaf := hw_col_k hr_36a.2.2 tlr (hw_num_no nu_qpO9 numO9) cl_qp_3O9
          have nc_44 : hx_col 40 h_33 qp 4 = hdf := hw_col_k hr_36a.2.2 tlr (hw_num_no nu_qpO9 numO9) cl_qp_4O9
          have tlx := hr_36a.1; have tly := hr_36a.2.1; have tle := hr_36b.1; have tlh := hr_36b.2
          rw [tlx] at fw_37
          rw [tly] at fw_38
          rw [tle] at fw_39
          rw [tlh] at fw_40
          refine lv_aload_n hx hb dX9_person_74 rfl (lv_at hl 1 rfl) ?_
          refine hk_getr hx hb hts hC_9 hown hW gx tt_9 7 (by decide) rfl kw_371 ⟨rfl, rfl, rfl⟩ f_x_7 dX9_person_75 ?_
          refine lv_aload_n hx hb dX9_person_78 rfl (lv_at hl 1 rfl) ?_
          refine hk_geti hx hb hts hC_9 hown hW gx tt_9 8 (by decide) rfl kw_372 ⟨rfl, rfl, rfl⟩ f_x_8 dX9_person_79 ?_
          refine lv_aload hx hb dX9_person_82 (lv_at hl 0 rfl) ?_
          have hDFO9 := hDF
          have hDPO9 := hDP
          have nuP9 := nu_qp
          have hTO9 := hT
          have gqcO9 := gqc
          have gqpO8 := gqp
          have hTo := hT
          have cl_qp_7O := cl_qp_7
          have po_28O := po_28
          have cl_qp_8O := cl_qp_8
          have po_29O := po_29
          have cl_qp_1O := cl_qp_1
          have po_30O := po_30
          have cl_qp_2O := cl_qp_2
          have po_31O := po_31
          have nc_41O := nc_41
          have fw_37O := fw_37
          have nc_42O := nc_42
          have fw_38O := fw_38
          have nc_43O := nc_43
          have fw_39O := fw_39
          have nc_44O := nc_44
          have fw_40O := fw_40
          have nu_qpO := nu_qp
          have po_27O := po_27
          have pf_x_8O := pf_x_8
          refine hx_aast hx hb hW hT (hx_S.rf (M := [(44, 0)])) gqp tt_44 rfl gq_21 tt_4 rfl (by decide) ⟨by omega, by omega⟩ (List.mem_singleton.mpr rfl) dX9_person_84 (fun H locs h_45 eh_45 hW hT hs => ?_)
          replace f_x_7 := (hs.o gx trivial rfl).2.trans f_x_7
          replace f_x_10 := (hs.o gx trivial rfl).2.trans f_x_10
          replace f_x_8 := (hs.o gx trivial rfl).1.trans f_x_8
          replace f_x_11 := (hs.o gx trivial rfl).1.trans f_x_11
          replace po_27 := (hs.o gq_21 trivial rfl).1.trans po_27
          replace po_28 := (hs.o gq_21 trivial rfl).1.trans po_28
          replace po_29 := (hs.o gq_21 trivial rfl).1.trans po_29
          replace po_30 := (hs.o gq_21 trivial rfl).1.trans po_30
          replace po_31 := (hs.o gq_21 trivial rfl).1.trans po_31
          replace fw_37 := (hs.o gq_21 trivial rfl).1.trans fw_37
          replace fw_38 := (hs.o gq_21 trivial rfl).1.trans fw_38
          replace fw_39 := (hs.o gq_21 trivial rfl).1.trans fw_39
          replace fw_40 := (hs.o gq_21 trivial rfl).1.trans fw_40
          replace hM := hM.tr (hs.mono (by decide))
          replace gx := gx.S hs
          replace gqp := gqp.S hs
          replace gqc := gqc.S hs
          replace gq_21 := gq_21.S hs
          have pf_x_8 : ∀ j : Nat, (j : Int) < (h_45.2.1 x 8).toInt → h_45.2.2 qp j ≠ none := hx_pfk pf_x_8O eh_45
          have px_46 : ∀ j : Nat, (j : Int) < pn0.toInt + 1 → h_45.2.2 qp j ≠ none := hx_pfx pf_x_8O (by first | exact f_x_8 | exact ((hs.o gx trivial rfl).1.symm.trans f_x_8)) (by omega) eh_45
          obtain ⟨fc_47, dfc_47⟩ : ∃ g : Nat → Int32, g = hx_up df pn0.toNatClampNeg (0 : Int32) := ⟨_, rfl⟩
          have nfc_47 : hx_col 40 h_45 qp 7 = fc_47 := by rw [dfc_47]; exact (hx_col_pr eh_45 (by unfold Int32.toNatClampNeg; omega)).trans (by rw [cl_qp_7O, po_28O])
          obtain ⟨fc_48, dfc_48⟩ : ∃ g : Nat → Int32, g = hx_up jf pn0.toNatClampNeg (0 : Int32) := ⟨_, rfl⟩
          have nfc_48 : hx_col 40 h_45 qp 8 = fc_48 := by rw [dfc_48]; exact (hx_col_pr eh_45 (by unfold Int32.toNatClampNeg; omega)).trans (by rw [cl_qp_8O, po_29O])
          obtain ⟨fc_49, dfc_49⟩ : ∃ g : Nat → Int32, g = hx_up bnf pn0.toNatClampNeg i1 := ⟨_, rfl⟩
          have nfc_49 : hx_col 40 h_45 qp 1 = fc_49 := by rw [dfc_49]; exact (hx_col_pr eh_45 (by unfold Int32.toNatClampNeg; omega)).trans (by rw [cl_qp_1O, po_30O])
          obtain ⟨fc_50, dfc_50⟩ : ∃ g : Nat → Int32, g = hx_up kkf pn0.toNatClampNeg i6 := ⟨_, rfl⟩
          have nfc_50 : hx_col 40 h_45 qp 2 = fc_50 := by rw [dfc_50]; exact (hx_col_pr eh_45 (by unfold Int32.toNatClampNeg; omega)).trans (by rw [cl_qp_2O, po_31O])
          obtain ⟨fc_51, dfc_51⟩ : ∃ g : Nat → Int32, g = hx_up dxf pn0.toNatClampNeg i4 := ⟨_, rfl⟩
          have nfc_51 : hx_col 40 h_45 qp 5 = fc_51 := by rw [dfc_51]; exact (hx_col_pr eh_45 (by unfold Int32.toNatClampNeg; omega)).trans (by rw [nc_41O, fw_37O])
          obtain ⟨fc_52, dfc_52⟩ : ∃ g : Nat → Int32, g = hx_up dyf pn0.toNatClampNeg i5 := ⟨_, rfl⟩
          have nfc_52 : hx_col 40 h_45 qp 6 = fc_52 := by rw [dfc_52]; exact (hx_col_pr eh_45 (by unfold Int32.toNatClampNeg; omega)).trans (by rw [nc_42O, fw_38O])
          obtain ⟨fc_53, dfc_53⟩ : ∃ g : Nat → Int32, g = hx_up eaf pn0.toNatClampNeg i2 := ⟨_, rfl⟩
          have nfc_53 : hx_col 40 h_45 qp 3 = fc_53 := by rw [dfc_53]; exact (hx_col_pr eh_45 (by unfold Int32.toNatClampNeg; omega)).trans (by rw [nc_43O, fw_39O])
          obtain ⟨fc_54, dfc_54⟩ : ∃ g : Nat → Int32, g = hx_up hdf pn0.toNatClampNeg i3 := ⟨_, rfl⟩
          have nfc_54 : hx_col 40 h_45 qp 4 = fc_54 := by rw [dfc_54]; exact (hx_col_pr eh_45 (by unfold Int32.toNatClampNeg; omega)).trans (by rw [nc_44O, fw_40O])
          have nu_55 : hx_num 40 h_45 qp 0 (pn0.toInt + 1) := hx_num_pr nu_qpO eh_45 (by omega) (by omega) (by rw [po_27O])
          have hDF : hw_DF h_45 qc qp 2 agf cn0.toInt := hw_DF_p hDFO9 hTO9 gqcO9 gqpO8 tt_45 (by decide) (by decide) nuP9 eh_45 (by omega) (by omega)
          have hDP : hw_DF h_45 qc qp 1 byf cn0.toInt := hw_DF_p hDPO9 hTO9 gqcO9 gqpO8 tt_45 (by decide) (by decide) nuP9 eh_45 (by omega) (by omega)
          refine lv_aload_n hx hb dX9_person_85 rfl (lv_at hl 1 rfl) ?_
          refine lv_dup hx hb dX9_person_86 rfl ?_
          refine hk_geti hx hb hts hC_9 hown hW gx tt_9 8 (by decide) rfl kw_372 ⟨rfl, rfl, rfl⟩ f_x_8 dX9_person_87 ?_
          refine lv_iconst (v := 1) hx hb dX9_person_90 (by decide) ?_
          refine lv_iadd hx hb dX9_person_91 ?_
          have rg_56 := i32_r pn0
          refine lv_topi (fun x_57 ex_57 => ?_)
          have zx_57 : x_57.toInt = pn0.toInt + 1 := by rw [ex_57]; exact i32_add rfl (by decide) (by omega) (by omega)
          have hTo := hT
          refine hx_puti hx hb hts hC_9 hown hW hT (hx_S.rf (M := [(9, 8)])) gx tt_9 8 (by decide) rfl kw_372 ⟨rfl, rfl, rfl⟩ rfl (x := x_57) ⟨by omega, by omega⟩ rfl rfl rfl (List.mem_singleton.mpr rfl) dX9_person_92 (fun H locs h_58 eh_58 hW hT hs => ?_)
          replace px_46 : ∀ j : Nat, (j : Int) < pn0.toInt + 1 → h_58.2.2 qp j ≠ none := fun j hj => by rw [(hs.a gqp rfl j).2]; exact px_46 j hj
          replace f_x_7 := (hs.o gx trivial rfl).2.trans f_x_7
          replace f_x_10 := (hs.o gx trivial rfl).2.trans f_x_10
          replace f_x_11 := (hs.o gx trivial rfl).1.trans f_x_11
          replace po_27 := (hs.o gq_21 trivial rfl).1.trans po_27
          replace po_28 := (hs.o gq_21 trivial rfl).1.trans po_28
          replace po_29 := (hs.o gq_21 trivial rfl).1.trans po_29
          replace po_30 := (hs.o gq_21 trivial rfl).1.trans po_30
          replace po_31 := (hs.o gq_21 trivial rfl).1.trans po_31
          replace fw_37 := (hs.o gq_21 trivial rfl).1.trans fw_37
          replace fw_38 := (hs.o gq_21 trivial rfl).1.trans fw_38
          replace fw_39 := (hs.o gq_21 trivial rfl).1.trans fw_39
          replace fw_40 := (hs.o gq_21 trivial rfl).1.trans fw_40
          replace nfc_47 : hx_col 40 h_58 qp 7 = fc_47 := (hx_col_S hs hTo gqp tt_44 tt_4 rfl rfl).trans nfc_47
          replace nfc_48 : hx_col 40 h_58 qp 8 = fc_48 := (hx_col_S hs hTo gqp tt_44 tt_4 rfl rfl).trans nfc_48
          replace nfc_49 : hx_col 40 h_58 qp 1 = fc_49 := (hx_col_S hs hTo gqp tt_44 tt_4 rfl rfl).trans nfc_49
          replace nfc_50 : hx_col 40 h_58 qp 2 = fc_50 := (hx_col_S hs hTo gqp tt_44 tt_4 rfl rfl).trans nfc_50
          replace nfc_51 : hx_col 40 h_58 qp 5 = fc_51 := (hx_col_S hs hTo gqp tt_44 tt_4 rfl rfl).trans nfc_51
          replace nfc_52 : hx_col 40 h_58 qp 6 = fc_52 := (hx_col_S hs hTo gqp tt_44 tt_4 rfl rfl).trans nfc_52
          replace nfc_53 : hx_col 40 h_58 qp 3 = fc_53 := (hx_col_S hs hTo gqp tt_44 tt_4 rfl rfl).trans nfc_53
          replace nfc_54 : hx_col 40 h_58 qp 4 = fc_54 := (hx_col_S hs hTo gqp tt_44 tt_4 rfl rfl).trans nfc_54
          replace nu_55 : hx_num 40 h_58 qp 0 (pn0.toInt + 1) := hx_num_S hs hTo gqp tt_44 tt_4 rfl rfl nu_55
          replace hDF : hw_DF h_58 qc qp 2 agf cn0.toInt := hw_DF_S hs hTo gqc gqp tt_45 tt_2 rfl rfl rfl hDF
          replace hDP : hw_DF h_58 qc qp 1 byf cn0.toInt := hw_DF_S hs hTo gqc gqp tt_45 tt_2 rfl rfl rfl hDP
          replace hM := hM.tr (hs.mono (by decide))
          replace gx := gx.S hs
          replace gqp := gqp.S hs
          replace gqc := gqc.S hs
          replace gq_21 := gq_21.S hs
          have f_59 : h_58.2.1 x 8 = x_57 := by rw [eh_58]; exact hx_pi_at _ _ _ _
          have pf_60 : ∀ j : Nat, (j : Int) < (h_58.2.1 x 8).toInt → h_58.2.2 qp j ≠ none := fun j hj => px_46 j (by rw [f_59] at hj; omega)
          refine lv_aload hx hb dX9_person_95 (lv_at hl 0 rfl) ?_
          refine hk_geti hx hb hts hC_4 hown hW gq_21 tt_4 0 (by decide) rfl kw_612 ⟨rfl, rfl, rfl⟩ po_27 dX9_person_97 ?_
          refine W.widen (k := 1) (n := 10) (Nat.le_of_ble_eq_true rfl) (Nat.le_of_ble_eq_true rfl) ?_
          exact hx_reti hx hb hr hlk hW ⟨⟨x_57, fc_47, fc_48, fc_51, fc_52, fc_49, fc_50, fc_53, fc_54, f_59, nfc_47, nfc_48, nfc_51, nfc_52, nfc_49, nfc_50, nfc_53, nfc_54, ⟨(hx_num_c nu_55 (by omega)), ⟨⟨(Or.inr ⟨by omega, by omega, by unfold hx_pcn; omega⟩), (Or.inr ⟨by omega, by omega, dfc_47⟩), (Or.inr ⟨by omega, by omega, dfc_48⟩), (Or.inr ⟨by omega, by omega, dfc_51⟩), (Or.inr ⟨by omega, by omega, dfc_52⟩), (Or.inr ⟨by omega, by omega, dfc_49⟩), (Or.inr ⟨by omega, by omega, dfc_50⟩), hDF, hDP⟩, ⟨(Or.inr ⟨by omega, by omega, dfc_53⟩), (Or.inr ⟨by omega, by omega, dfc_54⟩)⟩⟩⟩⟩, hT, hM, pf_60⟩ dX9_person_100
        · skip
          replace hr_18 := hr_18.resolve_right (fun z9 => absurd (c_19.symm.trans z9.1) (by decide))
          replace hr_18 := hr_18.2
          refine lv_iconst (v := -1) hx hb dX9_person_45 (by decide) ?_
          refine W.widen (k := 1) (n := 10) (Nat.le_of_ble_eq_true rfl) (Nat.le_of_ble_eq_true rfl) ?_
          exact hx_reti hx hb hr hlk hW ⟨⟨pn0, df, jf, dxf, dyf, bnf, kkf, eaf, hdf, f_x_8, cl_qp_7, cl_qp_8, cl_qp_5, cl_qp_6, cl_qp_1, cl_qp_2, cl_qp_3, cl_qp_4, ⟨(hx_num_c nu_qp (by omega)), ⟨⟨(Or.inl ⟨by decide, by omega, by unfold hx_pcn; omega⟩), (Or.inl ⟨by decide, rfl⟩), (Or.inl ⟨by decide, rfl⟩), (Or.inl ⟨by decide, rfl⟩), (Or.inl ⟨by decide, rfl⟩), (Or.inl ⟨by decide, rfl⟩), (Or.inl ⟨by decide, rfl⟩), hDF, hDP⟩, ⟨(Or.inl ⟨by decide, rfl⟩), (Or.inl ⟨by decide, rfl⟩)⟩⟩⟩⟩, hT, hM, pf_x_8⟩ dX9_person_46


set_option maxHeartbeats 4000000 in
set_option maxRecDepth 100000 in
theorem t_X9_file_v (l : Launch) (dC : Nat → ClassId) (dI : Nat → Nat → Nat) (dA : Nat → ClassId) (L : List Nat) (h : hx_h) (sz : Nat) (x : Nat) (i1 : Int32) (i2 : Int32) (i3 : Int32) (i4 : Int32) (i5 : Int32) (i6 : Int32) (hT : hx_T T_tb L h) (gx : hx_g L h x 9) (qp : Nat) (gqp : hx_g L h qp 44) (f_x_7 : h.2.2 x 7 = some qp) (qc : Nat) (gqc : hx_g L h qc 45) (f_x_10 : h.2.2 x 10 = some qc) (qa : Nat) (gqa : hx_g L h qa 43) (f_x_5 : h.2.2 x 5 = some qa) (w : Nat) (gw : hx_g L h w 0) (f_x_4 : h.2.2 x 4 = some w) (qw : Nat) (gqw : hx_g L h qw 8) (f_x_19 : h.2.2 x 19 = some qw) (ql : Nat) (gql : hx_g L h ql 40) (f_qw_3 : h.2.2 qw 3 = some ql) (qh : Nat) (gqh : hx_g L h qh 46) (f_x_12 : h.2.2 x 12 = some qh)  (cn0 : Int32) (f_x_11 : h.2.1 x 11 = cn0) (pn0 : Int32) (f_x_8 : h.2.1 x 8 = pn0) (nw0 : Int32) (f_x_2 : h.2.1 x 2 = nw0) (a0 : Int32) (f_x_6 : h.2.1 x 6 = a0) (m0 : Int32) (f_x_13 : h.2.1 x 13 = m0) (df : Nat → Int32) (cl_qp_7 : hx_col 40 h qp 7 = df) (ff : Nat → Int32) (cl_qc_10 : hx_col 100 h qc 10 = ff) (tf : Nat → Int32) (cl_qc_9 : hx_col 100 h qc 9 = tf) (smf : Nat → Int32) (cl_qc_6 : hx_col 100 h qc 6 = smf) (frf : Nat → Int32) (cl_qc_7 : hx_col 100 h qc 7 = frf) (flf : Nat → Int32) (cl_qc_8 : hx_col 100 h qc 8 = flf) (hrf : Nat → Int32) (cl_qc_11 : hx_col 100 h qc 11 = hrf) (udf : Nat → Int32) (cl_qc_12 : hx_col 100 h qc 12 = udf) (odf : Nat → Int32) (cl_qc_13 : hx_col 100 h qc 13 = odf) (wkf : Nat → Int32) (cl_qc_14 : hx_col 100 h qc 14 = wkf) (owf : Nat → Int32) (cl_qc_15 : hx_col 100 h qc 15 = owf) (szf : Nat → Int32) (cl_qc_16 : hx_col 100 h qc 16 = szf) (gdf : Nat → Int32) (cl_qc_17 : hx_col 100 h qc 17 = gdf) (svf : Nat → Int32) (cl_qc_18 : hx_col 100 h qc 18 = svf) (nu_qc : hx_num 100 h qc 0 (cn0.toInt)) (sb_ql_qc : hx_LQ 8 100 h ql qc) (agf byf : Nat → Int32) (hDF : hw_DF h qc qp 2 agf cn0.toInt) (hDP : hw_DF h qc qp 1 byf cn0.toInt) (plf hof cF bF : Nat → Int32) (A : Nat → hv_act) (hRA : hv_RA h qa w a0.toInt A) (hAC : hv_AC h qc plf cn0.toInt A) (hFX : hv_FX 8 4 h qc cF cn0.toInt) (hBX : hv_FX 3 5 h qc bF cn0.toInt) (hHL : hv_HL h qh qc hof m0.toInt cn0.toInt) (hi5 : 0 ≤ i5.toInt ∧ i5.toInt ≤ 1) (pf_x_8 : ∀ j : Nat, (j : Int) < (h.2.1 x 8).toInt → h.2.2 qp j ≠ none) (pf_x_11 : ∀ j : Nat, (j : Int) < (h.2.1 x 11).toInt → h.2.2 qc j ≠ none) (pf_x_6 : ∀ j : Nat, (j : Int) < (h.2.1 x 6).toInt → h.2.2 qa j ≠ none) : Met l yX9_file (Cond.code yX9_file cX9_file 10 (some .int) :: hx_all) ({ frames := 2, cells := 3, slots := 30, locals := 36 }) (va_Pc [.ref x, .int i1, .int i2, .int i3, .int i4, .int i5, .int i6] (hx_B T_tb (P_ty dA) (dC, dI) vwCl L h sz)) (va_Qi (fun (r : Int32) (u : List Nat × hx_h) => (∃ (cn1 : Int32) (ff1 : Nat → Int32) (tf1 : Nat → Int32) (smf1 : Nat → Int32) (frf1 : Nat → Int32) (flf1 : Nat → Int32) (hrf1 : Nat → Int32) (udf1 : Nat → Int32) (odf1 : Nat → Int32) (wkf1 : Nat → Int32) (owf1 : Nat → Int32) (szf1 : Nat → Int32) (gdf1 : Nat → Int32) (svf1 : Nat → Int32), u.2.2.1 x 11 = cn1 ∧ hx_col 100 u.2 qc 10 = ff1 ∧ hx_col 100 u.2 qc 9 = tf1 ∧ hx_col 100 u.2 qc 6 = smf1 ∧ hx_col 100 u.2 qc 7 = frf1 ∧ hx_col 100 u.2 qc 8 = flf1 ∧ hx_col 100 u.2 qc 11 = hrf1 ∧ hx_col 100 u.2 qc 12 = udf1 ∧ hx_col 100 u.2 qc 13 = odf1 ∧ hx_col 100 u.2 qc 14 = wkf1 ∧ hx_col 100 u.2 qc 15 = owf1 ∧ hx_col 100 u.2 qc 16 = szf1 ∧ hx_col 100 u.2 qc 17 = gdf1 ∧ hx_col 100 u.2 qc 18 = svf1 ∧ ((hx_num 100 u.2 qc 0 (cn1.toInt)) ∧ ((hx_LQ 8 100 u.2 ql qc) ∧ (((hx_FS cn0.toInt pn0.toInt nw0.toInt i1.toInt i2.toInt i3.toInt i4.toInt i6.toInt df r.toInt cn1.toInt) ∧ hx_CD cn0.toInt r.toInt (-1) ff ff1 ∧ hx_CD cn0.toInt r.toInt 0 tf tf1 ∧ hx_CD cn0.toInt r.toInt i3 smf smf1 ∧ hx_CD cn0.toInt r.toInt i4 frf frf1 ∧ hx_CD cn0.toInt r.toInt nw0 flf flf1 ∧ hx_CD cn0.toInt r.toInt (-1) hrf hrf1 ∧ hx_CD cn0.toInt r.toInt 0 udf udf1 ∧ (∃ agf1 byf1 plf1 cF1 bF1 : Nat → Int32, ∃ pv : Int32, hw_UP r.toInt cn0.toInt i2 agf agf1 ∧ hw_UP r.toInt cn0.toInt i1 byf byf1 ∧ (pv.toInt = ((hv_IF A nw0.toInt a0.toInt.toNat : Nat) : Int) ∧ hw_UP r.toInt cn0.toInt pv plf plf1) ∧ hv_FU r.toInt cn0.toInt i5 i6 i3 cF cF1 ∧ hv_BU r.toInt cn0.toInt bF bF1 ∧ hw_DF u.2 qc qp 2 agf1 cn1.toInt ∧ hw_DF u.2 qc qp 1 byf1 cn1.toInt ∧ hv_AC u.2 qc plf1 cn1.toInt A ∧ hv_FX 8 4 u.2 qc cF1 cn1.toInt ∧ hv_FX 3 5 u.2 qc bF1 cn1.toInt ∧ hv_HL u.2 qh qc hof m0.toInt cn1.toInt)) ∧ (hx_CD cn0.toInt r.toInt (-1) odf odf1 ∧ hx_CD cn0.toInt r.toInt 0 wkf wkf1 ∧ hx_CD cn0.toInt r.toInt 0 owf owf1 ∧ hx_CD cn0.toInt r.toInt (-1) szf szf1 ∧ hx_CD cn0.toInt r.toInt 0 gdf gdf1 ∧ hx_CD cn0.toInt r.toInt (-1) svf svf1))))) ∧ hx_T T_tb u.1 u.2 ∧ hx_S T_tb [(2, 6), (2, 7), (2, 8), (9, 11), (20, 0), (45, 0), (118, 0), (118, 1), (118, 2), (118, 3), (118, 4), (118, 5), (118, 10), (118, 11), (118, 13), (118, 16), (118, 18)] L h u.1 u.2 ∧ (∀ j : Nat, (j : Int) < (u.2.2.1 x 11).toInt → u.2.2.2 qc j ≠ none)) (hx_E T_tb (P_ty dA) (dC, dI) vwCl (hx_A L sz)) (hx_A L sz)) 3 30 (hx_A L sz) := by
  refine hx_met (lv := [(0, .ref x), (1, .int i1), (2, .int i2), (3, .int i3), (4, .int i4), (5, .int i5), (6, .int i6)]) (by decide +kernel) rfl (Nat.le_of_ble_eq_true rfl) rfl ?_
  intro p e s m below meth c hx hb hml hr hlk hts0 hown hin hsz hW ls hl
  have hts : ∀ w ∈ hx_all, w.before _ s = true := fun w hw => hts0 w (List.mem_cons_of_mem _ hw)
  have hown : s.vm.findClass "SmallCourt" = some m.cls := hown
  have hM : hx_S T_tb [(2, 6), (2, 7), (2, 8), (9, 11), (20, 0), (45, 0), (118, 0), (118, 1), (118, 2), (118, 3), (118, 4), (118, 5), (118, 10), (118, 11), (118, 13), (118, 16), (118, 18)] L h L h := hx_S.rf
  have b_cn0 := hT.gi gx tt_9 (k := 11) rfl
  rw [f_x_11] at b_cn0
  have b_cn0 : 0 ≤ cn0.toInt ∧ cn0.toInt ≤ 100 := b_cn0
  have b_pn0 := hT.gi gx tt_9 (k := 8) rfl
  rw [f_x_8] at b_pn0
  have b_pn0 : 0 ≤ pn0.toInt ∧ pn0.toInt ≤ 40 := b_pn0
  have b_nw0 := hT.gi gx tt_9 (k := 2) rfl
  rw [f_x_2] at b_nw0
  have b_nw0 : 0 ≤ nw0.toInt ∧ nw0.toInt ≤ 7999 := b_nw0
  have b_a0 := hT.gi gx tt_9 (k := 6) rfl
  rw [f_x_6] at b_a0
  have b_a0 : 0 ≤ a0.toInt ∧ a0.toInt ≤ 8 := b_a0
  have b_m0 := hT.gi gx tt_9 (k := 13) rfl
  rw [f_x_13] at b_m0
  have b_m0 : 0 ≤ m0.toInt ∧ m0.toInt ≤ 100 := b_m0
  have hkb9 := hv_IF_b (A := A) (d := nw0.toInt) a0.toInt.toNat
  obtain ⟨pv9, hpv9⟩ : ∃ v : Int32, v.toInt = ((hv_IF A nw0.toInt a0.toInt.toNat : Nat) : Int) := ⟨Int32.ofNat (hv_IF A nw0.toInt a0.toInt.toNat), by rw [Int32.toInt_ofNat_of_lt (by omega)]⟩
  refine lv_aload_n hx hb dX9_file_0 rfl (lv_at hl 0 rfl) ?_
  refine lv_iload_n hx hb dX9_file_1 rfl (lv_at hl 1 rfl) ?_
  have hTo := hT
  refine hx_goq (hx_runV (As := [.int i1]) (rest := []) ⟨hx, hb, hml, hown, hts⟩ hW gx tt_9 (T := TX9) (N := 20) rfl (t_X9_personAt_2 l dC dI dA L h s.heap.size x i1 hT gx pn0 f_x_8 qp gqp f_x_7 pf_x_8) (cwV 1 hts (hx_gV kw_659 kw_656 kw_658 kw_20 kw_94) rfl rfl rfl (by decide +kernel) ⟨Nat.le_of_ble_eq_true rfl, Nat.le_of_ble_eq_true rfl⟩) rfl hl.1 rfl (Nat.le_of_ble_eq_true rfl) dX9_file_2 ⟨Nat.le_of_ble_eq_true rfl, Nat.le_of_ble_eq_true rfl⟩) hW (fun r_3 L_1 h_2 H locs p_4 hW => ?_)
  obtain ⟨hr_5, hT, hs⟩ := p_4
  replace hT : hx_T T_tb L_1 h_2 := hT
  replace hs : hx_S T_tb [] L h L_1 h_2 := hs
  replace f_x_7 := (hs.o gx trivial rfl).2.trans f_x_7
  replace f_x_10 := (hs.o gx trivial rfl).2.trans f_x_10
  replace f_x_5 := (hs.o gx trivial rfl).2.trans f_x_5
  replace f_x_4 := (hs.o gx trivial rfl).2.trans f_x_4
  replace f_x_19 := (hs.o gx trivial rfl).2.trans f_x_19
  replace f_x_12 := (hs.o gx trivial rfl).2.trans f_x_12
  replace f_x_11 := (hs.o gx trivial rfl).1.trans f_x_11
  replace f_x_8 := (hs.o gx trivial rfl).1.trans f_x_8
  replace f_x_2 := (hs.o gx trivial rfl).1.trans f_x_2
  replace f_x_6 := (hs.o gx trivial rfl).1.trans f_x_6
  replace f_x_13 := (hs.o gx trivial rfl).1.trans f_x_13
  replace pf_x_8 : ∀ j : Nat, (j : Int) < (h_2.2.1 x 8).toInt → h_2.2.2 qp j ≠ none := by
    intro j hj; rw [(hs.o gx trivial rfl).1] at hj; rw [(hs.a gqp rfl j).2]; exact pf_x_8 j hj
  replace pf_x_11 : ∀ j : Nat, (j : Int) < (h_2.2.1 x 11).toInt → h_2.2.2 qc j ≠ none := by
    intro j hj; rw [(hs.o gx trivial rfl).1] at hj; rw [(hs.a gqc rfl j).2]; exact pf_x_11 j hj
  replace pf_x_6 : ∀ j : Nat, (j : Int) < (h_2.2.1 x 6).toInt → h_2.2.2 qa j ≠ none := by
    intro j hj; rw [(hs.o gx trivial rfl).1] at hj; rw [(hs.a gqa rfl j).2]; exact pf_x_6 j hj
  replace cl_qp_7 : hx_col 40 h_2 qp 7 = df := (hx_col_S hs hTo gqp tt_44 tt_4 rfl rfl).trans cl_qp_7
  replace cl_qc_10 : hx_col 100 h_2 qc 10 = ff := (hx_col_S hs hTo gqc tt_45 tt_2 rfl rfl).trans cl_qc_10
  replace cl_qc_9 : hx_col 100 h_2 qc 9 = tf := (hx_col_S hs hTo gqc tt_45 tt_2 rfl rfl).trans cl_qc_9
  replace cl_qc_6 : hx_col 100 h_2 qc 6 = smf := (hx_col_S hs hTo gqc tt_45 tt_2 rfl rfl).trans cl_qc_6
  replace cl_qc_7 : hx_col 100 h_2 qc 7 = frf := (hx_col_S hs hTo gqc tt_45 tt_2 rfl rfl).trans cl_qc_7
  replace cl_qc_8 : hx_col 100 h_2 qc 8 = flf := (hx_col_S hs hTo gqc tt_45 tt_2 rfl rfl).trans cl_qc_8
  replace cl_qc_11 : hx_col 100 h_2 qc 11 = hrf := (hx_col_S hs hTo gqc tt_45 tt_2 rfl rfl).trans cl_qc_11
  replace cl_qc_12 : hx_col 100 h_2 qc 12 = udf := (hx_col_S hs hTo gqc tt_45 tt_2 rfl rfl).trans cl_qc_12
  replace cl_qc_13 : hx_col 100 h_2 qc 13 = odf := (hx_col_S hs hTo gqc tt_45 tt_2 rfl rfl).trans cl_qc_13
  replace cl_qc_14 : hx_col 100 h_2 qc 14 = wkf := (hx_col_S hs hTo gqc tt_45 tt_2 rfl rfl).trans cl_qc_14
  replace cl_qc_15 : hx_col 100 h_2 qc 15 = owf := (hx_col_S hs hTo gqc tt_45 tt_2 rfl rfl).trans cl_qc_15
  replace cl_qc_16 : hx_col 100 h_2 qc 16 = szf := (hx_col_S hs hTo gqc tt_45 tt_2 rfl rfl).trans cl_qc_16
  replace cl_qc_17 : hx_col 100 h_2 qc 17 = gdf := (hx_col_S hs hTo gqc tt_45 tt_2 rfl rfl).trans cl_qc_17
  replace cl_qc_18 : hx_col 100 h_2 qc 18 = svf := (hx_col_S hs hTo gqc tt_45 tt_2 rfl rfl).trans cl_qc_18
  replace nu_qc : hx_num 100 h_2 qc 0 (cn0.toInt) := hx_num_S hs hTo gqc tt_45 tt_2 rfl rfl nu_qc
  replace sb_ql_qc : hx_LQ 8 100 h_2 ql qc := hx_LQ_S hs (gql.S hM) gqc rfl rfl sb_ql_qc
  replace hDF : hw_DF h_2 qc qp 2 agf cn0.toInt := hw_DF_S hs hTo gqc gqp tt_45 tt_2 rfl rfl rfl hDF
  replace hDP : hw_DF h_2 qc qp 1 byf cn0.toInt := hw_DF_S hs hTo gqc gqp tt_45 tt_2 rfl rfl rfl hDP
  replace hRA : hv_RA h_2 qa w a0.toInt A := hv_RA_S hs hTo gqa gw tt_43 tt_0 rfl rfl rfl rfl rfl rfl (by omega) hRA
  replace hAC : hv_AC h_2 qc plf cn0.toInt A := hv_AC_S hs hTo gqc tt_45 tt_2 rfl tt_0 rfl rfl rfl rfl rfl rfl rfl hAC
  replace hFX : hv_FX 8 4 h_2 qc cF cn0.toInt := hv_FX_S hs hTo gqc tt_45 tt_2 rfl rfl rfl rfl hFX
  replace hBX : hv_FX 3 5 h_2 qc bF cn0.toInt := hv_FX_S hs hTo gqc tt_45 tt_2 rfl rfl rfl rfl hBX
  replace hHL : hv_HL h_2 qh qc hof m0.toInt cn0.toInt := hv_HL_S hs gqh gqc rfl rfl hHL
  replace hM := hM.tr (hs.mono (by decide))
  replace gx := gx.S hs
  replace gqp := gqp.S hs
  replace gqc := gqc.S hs
  replace gqa := gqa.S hs
  replace gw := gw.S hs
  replace gqh := gqh.S hs
  obtain ⟨hr_5, hr_5B⟩ := hr_5
  have hr_5 : ∀ q, r_3 = some q → hx_g L_1 h_2 q 4 := hr_5
  rcases r_3 with _ | q_6
  · skip
    have k_7 : i1.toInt < 0 ∨ pn0.toInt ≤ i1.toInt := by
      rcases hr_5B with ⟨_, z⟩ | ⟨_, _, q, z, _⟩
      · exact z
      · cases z
    refine lv_astoreN (lv' := [(7, .null), (0, .ref x), (1, .int i1), (2, .int i2), (3, .int i3), (4, .int i4), (5, .int i5), (6, .int i6)]) hx hb dX9_file_5 hl (by decide) rfl (fun ls hl => ?_)
    refine lv_aload_n hx hb dX9_file_7 rfl (lv_at hl 1 rfl) ?_
    refine lv_iload_n hx hb dX9_file_8 rfl (lv_at hl 3 rfl) ?_
    have hTo := hT
    refine hx_goq (hx_runV (As := [.int i2]) (rest := []) ⟨hx, hb, hml, hown, hts⟩ hW gx tt_9 (T := TX9) (N := 20) rfl (t_X9_personAt_2 l dC dI dA L_1 h_2 H.size x i2 hT gx pn0 f_x_8 qp gqp f_x_7 pf_x_8) (cwV 1 hts (hx_gV kw_659 kw_656 kw_658 kw_20 kw_94) rfl rfl rfl (by decide +kernel) ⟨Nat.le_of_ble_eq_true rfl, Nat.le_of_ble_eq_true rfl⟩) rfl hl.1 rfl (Nat.le_of_ble_eq_true rfl) dX9_file_9 ⟨Nat.le_of_ble_eq_true rfl, Nat.le_of_ble_eq_true rfl⟩) hW (fun r_10 L_8 h_9 H locs p_11 hW => ?_)
    obtain ⟨hr_12, hT, hs⟩ := p_11
    replace hT : hx_T T_tb L_8 h_9 := hT
    replace hs : hx_S T_tb [] L_1 h_2 L_8 h_9 := hs
    replace f_x_7 := (hs.o gx trivial rfl).2.trans f_x_7
    replace f_x_10 := (hs.o gx trivial rfl).2.trans f_x_10
    replace f_x_5 := (hs.o gx trivial rfl).2.trans f_x_5
    replace f_x_4 := (hs.o gx trivial rfl).2.trans f_x_4
    replace f_x_19 := (hs.o gx trivial rfl).2.trans f_x_19
    replace f_x_12 := (hs.o gx trivial rfl).2.trans f_x_12
    replace f_x_11 := (hs.o gx trivial rfl).1.trans f_x_11
    replace f_x_8 := (hs.o gx trivial rfl).1.trans f_x_8
    replace f_x_2 := (hs.o gx trivial rfl).1.trans f_x_2
    replace f_x_6 := (hs.o gx trivial rfl).1.trans f_x_6
    replace f_x_13 := (hs.o gx trivial rfl).1.trans f_x_13
    replace pf_x_8 : ∀ j : Nat, (j : Int) < (h_9.2.1 x 8).toInt → h_9.2.2 qp j ≠ none := by
      intro j hj; rw [(hs.o gx trivial rfl).1] at hj; rw [(hs.a gqp rfl j).2]; exact pf_x_8 j hj
    replace pf_x_11 : ∀ j : Nat, (j : Int) < (h_9.2.1 x 11).toInt → h_9.2.2 qc j ≠ none := by
      intro j hj; rw [(hs.o gx trivial rfl).1] at hj; rw [(hs.a gqc rfl j).2]; exact pf_x_11 j hj
    replace pf_x_6 : ∀ j : Nat, (j : Int) < (h_9.2.1 x 6).toInt → h_9.2.2 qa j ≠ none := by
      intro j hj; rw [(hs.o gx trivial rfl).1] at hj; rw [(hs.a gqa rfl j).2]; exact pf_x_6 j hj
    replace cl_qp_7 : hx_col 40 h_9 qp 7 = df := (hx_col_S hs hTo gqp tt_44 tt_4 rfl rfl).trans cl_qp_7
    replace cl_qc_10 : hx_col 100 h_9 qc 10 = ff := (hx_col_S hs hTo gqc tt_45 tt_2 rfl rfl).trans cl_qc_10
    replace cl_qc_9 : hx_col 100 h_9 qc 9 = tf := (hx_col_S hs hTo gqc tt_45 tt_2 rfl rfl).trans cl_qc_9
    replace cl_qc_6 : hx_col 100 h_9 qc 6 = smf := (hx_col_S hs hTo gqc tt_45 tt_2 rfl rfl).trans cl_qc_6
    replace cl_qc_7 : hx_col 100 h_9 qc 7 = frf := (hx_col_S hs hTo gqc tt_45 tt_2 rfl rfl).trans cl_qc_7
    replace cl_qc_8 : hx_col 100 h_9 qc 8 = flf := (hx_col_S hs hTo gqc tt_45 tt_2 rfl rfl).trans cl_qc_8
    replace cl_qc_11 : hx_col 100 h_9 qc 11 = hrf := (hx_col_S hs hTo gqc tt_45 tt_2 rfl rfl).trans cl_qc_11
    replace cl_qc_12 : hx_col 100 h_9 qc 12 = udf := (hx_col_S hs hTo gqc tt_45 tt_2 rfl rfl).trans cl_qc_12
    replace cl_qc_13 : hx_col 100 h_9 qc 13 = odf := (hx_col_S hs hTo gqc tt_45 tt_2 rfl rfl).trans cl_qc_13
    replace cl_qc_14 : hx_col 100 h_9 qc 14 = wkf := (hx_col_S hs hTo gqc tt_45 tt_2 rfl rfl).trans cl_qc_14
    replace cl_qc_15 : hx_col 100 h_9 qc 15 = owf := (hx_col_S hs hTo gqc tt_45 tt_2 rfl rfl).trans cl_qc_15
    replace cl_qc_16 : hx_col 100 h_9 qc 16 = szf := (hx_col_S hs hTo gqc tt_45 tt_2 rfl rfl).trans cl_qc_16
    replace cl_qc_17 : hx_col 100 h_9 qc 17 = gdf := (hx_col_S hs hTo gqc tt_45 tt_2 rfl rfl).trans cl_qc_17
    replace cl_qc_18 : hx_col 100 h_9 qc 18 = svf := (hx_col_S hs hTo gqc tt_45 tt_2 rfl rfl).trans cl_qc_18
    replace nu_qc : hx_num 100 h_9 qc 0 (cn0.toInt) := hx_num_S hs hTo gqc tt_45 tt_2 rfl rfl nu_qc
    replace sb_ql_qc : hx_LQ 8 100 h_9 ql qc := hx_LQ_S hs (gql.S hM) gqc rfl rfl sb_ql_qc
    replace hDF : hw_DF h_9 qc qp 2 agf cn0.toInt := hw_DF_S hs hTo gqc gqp tt_45 tt_2 rfl rfl rfl hDF
    replace hDP : hw_DF h_9 qc qp 1 byf cn0.toInt := hw_DF_S hs hTo gqc gqp tt_45 tt_2 rfl rfl rfl hDP
    replace hRA : hv_RA h_9 qa w a0.toInt A := hv_RA_S hs hTo gqa gw tt_43 tt_0 rfl rfl rfl rfl rfl rfl (by omega) hRA
    replace hAC : hv_AC h_9 qc plf cn0.toInt A := hv_AC_S hs hTo gqc tt_45 tt_2 rfl tt_0 rfl rfl rfl rfl rfl rfl rfl hAC
    replace hFX : hv_FX 8 4 h_9 qc cF cn0.toInt := hv_FX_S hs hTo gqc tt_45 tt_2 rfl rfl rfl rfl hFX
    replace hBX : hv_FX 3 5 h_9 qc bF cn0.toInt := hv_FX_S hs hTo gqc tt_45 tt_2 rfl rfl rfl rfl hBX
    replace hHL : hv_HL h_9 qh qc hof m0.toInt cn0.toInt := hv_HL_S hs gqh gqc rfl rfl hHL
    replace hM := hM.tr (hs.mono (by decide))
    replace gx := gx.S hs
    replace gqp := gqp.S hs
    replace gqc := gqc.S hs
    replace gqa := gqa.S hs
    replace gw := gw.S hs
    replace gqh := gqh.S hs
    obtain ⟨hr_12, hr_12B⟩ := hr_12
    have hr_12 : ∀ q, r_10 = some q → hx_g L_8 h_9 q 4 := hr_12
    rcases r_10 with _ | q_13
    · skip
      have k_14 : i2.toInt < 0 ∨ pn0.toInt ≤ i2.toInt := by
        rcases hr_12B with ⟨_, z⟩ | ⟨_, _, q, z, _⟩
        · exact z
        · cases z
      refine lv_astoreN (lv' := [(8, .null), (7, .null), (0, .ref x), (1, .int i1), (2, .int i2), (3, .int i3), (4, .int i4), (5, .int i5), (6, .int i6)]) hx hb dX9_file_12 hl (by decide) rfl (fun ls hl => ?_)
      refine lv_aload_n hx hb dX9_file_14 rfl (lv_at hl 2 rfl) ?_
      refine hk_geti hx hb hts hC_9 hown hW gx tt_9 11 (by decide) rfl kw_375 ⟨rfl, rfl, rfl⟩ f_x_11 dX9_file_15 ?_
      refine lv_bipush (v := 100) hx hb dX9_file_18 (by decide) ?_
      refine hb_icmp_ge (zx := cn0.toInt) (zy := 100) (tgt := 81) hx hb rfl (by decide) dX9_file_20 (by decide) (fun c_15 => ?_) (fun c_15 => ?_)
      · skip
        refine lv_iconst (v := -1) hx hb dX9_file_81 (by decide) ?_
        refine W.widen (k := 3) (n := 30) (Nat.le_of_ble_eq_true rfl) (Nat.le_of_ble_eq_true rfl) ?_
        exact hx_reti hx hb hr hlk hW ⟨⟨cn0, ff, tf, smf, frf, flf, hrf, udf, odf, wkf, owf, szf, gdf, svf, f_x_11, cl_qc_10, cl_qc_9, cl_qc_6, cl_qc_7, cl_qc_8, cl_qc_11, cl_qc_12, cl_qc_13, cl_qc_14, cl_qc_15, cl_qc_16, cl_qc_17, cl_qc_18, ⟨(hx_num_c nu_qc (by omega)), ⟨sb_ql_qc, ⟨⟨(Or.inl ⟨by decide, by omega, fun hc => by unfold hx_FC at hc; omega⟩), (Or.inl ⟨by decide, rfl⟩), (Or.inl ⟨by decide, rfl⟩), (Or.inl ⟨by decide, rfl⟩), (Or.inl ⟨by decide, rfl⟩), (Or.inl ⟨by decide, rfl⟩), (Or.inl ⟨by decide, rfl⟩), (Or.inl ⟨by decide, rfl⟩), ⟨agf, byf, plf, cF, bF, pv9, (Or.inl ⟨by decide, rfl⟩), (Or.inl ⟨by decide, rfl⟩), ⟨hpv9, (Or.inl ⟨by decide, rfl⟩)⟩, (Or.inl ⟨by decide, rfl⟩), (Or.inl ⟨by decide, rfl⟩), hw_DF_e hDF rfl (by omega), hw_DF_e hDP rfl (by omega), hv_AC_e hAC rfl (by omega) rfl, hv_FX_e hFX rfl (by omega), hv_FX_e hBX rfl (by omega), hv_HL_e hHL rfl rfl (by omega)⟩⟩, ⟨(Or.inl ⟨by decide, rfl⟩), (Or.inl ⟨by decide, rfl⟩), (Or.inl ⟨by decide, rfl⟩), (Or.inl ⟨by decide, rfl⟩), (Or.inl ⟨by decide, rfl⟩), (Or.inl ⟨by decide, rfl⟩)⟩⟩⟩⟩⟩, hT, hM, pf_x_11⟩ dX9_file_82
      · skip
        refine lv_aloadN hx hb dX9_file_23 (lv_at hl 1 rfl) ?_
        refine lv_ifnullN (tgt := 81) hx hb dX9_file_25 (by decide) ?_
        refine lv_iconst (v := -1) hx hb dX9_file_81 (by decide) ?_
        refine W.widen (k := 3) (n := 30) (Nat.le_of_ble_eq_true rfl) (Nat.le_of_ble_eq_true rfl) ?_
        exact hx_reti hx hb hr hlk hW ⟨⟨cn0, ff, tf, smf, frf, flf, hrf, udf, odf, wkf, owf, szf, gdf, svf, f_x_11, cl_qc_10, cl_qc_9, cl_qc_6, cl_qc_7, cl_qc_8, cl_qc_11, cl_qc_12, cl_qc_13, cl_qc_14, cl_qc_15, cl_qc_16, cl_qc_17, cl_qc_18, ⟨(hx_num_c nu_qc (by omega)), ⟨sb_ql_qc, ⟨⟨(Or.inl ⟨by decide, by omega, fun hc => by unfold hx_FC at hc; omega⟩), (Or.inl ⟨by decide, rfl⟩), (Or.inl ⟨by decide, rfl⟩), (Or.inl ⟨by decide, rfl⟩), (Or.inl ⟨by decide, rfl⟩), (Or.inl ⟨by decide, rfl⟩), (Or.inl ⟨by decide, rfl⟩), (Or.inl ⟨by decide, rfl⟩), ⟨agf, byf, plf, cF, bF, pv9, (Or.inl ⟨by decide, rfl⟩), (Or.inl ⟨by decide, rfl⟩), ⟨hpv9, (Or.inl ⟨by decide, rfl⟩)⟩, (Or.inl ⟨by decide, rfl⟩), (Or.inl ⟨by decide, rfl⟩), hw_DF_e hDF rfl (by omega), hw_DF_e hDP rfl (by omega), hv_AC_e hAC rfl (by omega) rfl, hv_FX_e hFX rfl (by omega), hv_FX_e hBX rfl (by omega), hv_HL_e hHL rfl rfl (by omega)⟩⟩, ⟨(Or.inl ⟨by decide, rfl⟩), (Or.inl ⟨by decide, rfl⟩), (Or.inl ⟨by decide, rfl⟩), (Or.inl ⟨by decide, rfl⟩), (Or.inl ⟨by decide, rfl⟩), (Or.inl ⟨by decide, rfl⟩)⟩⟩⟩⟩⟩, hT, hM, pf_x_11⟩ dX9_file_82
    · have gq_13 := hr_12 _ rfl
      have k_16 : 0 ≤ i2.toInt ∧ i2.toInt < pn0.toInt ∧ h_9.2.2 qp i2.toNatClampNeg = some q_13 := by
        rcases hr_12B with ⟨z, _⟩ | ⟨z1, z2, q, z3, z4⟩
        · cases z
        · cases z3; exact ⟨z1, z2, z4⟩
      have fo_17 := k_16.2.2
      have k_16 : 0 ≤ i2.toInt ∧ i2.toInt < pn0.toInt := ⟨k_16.1, k_16.2.1⟩
      refine lv_astore (lv' := [(8, .ref q_13), (7, .null), (0, .ref x), (1, .int i1), (2, .int i2), (3, .int i3), (4, .int i4), (5, .int i5), (6, .int i6)]) hx hb dX9_file_12 hl (by decide) rfl (fun ls hl => ?_)
      refine lv_aload_n hx hb dX9_file_14 rfl (lv_at hl 2 rfl) ?_
      refine hk_geti hx hb hts hC_9 hown hW gx tt_9 11 (by decide) rfl kw_375 ⟨rfl, rfl, rfl⟩ f_x_11 dX9_file_15 ?_
      refine lv_bipush (v := 100) hx hb dX9_file_18 (by decide) ?_
      refine hb_icmp_ge (zx := cn0.toInt) (zy := 100) (tgt := 81) hx hb rfl (by decide) dX9_file_20 (by decide) (fun c_18 => ?_) (fun c_18 => ?_)
      · skip
        refine lv_iconst (v := -1) hx hb dX9_file_81 (by decide) ?_
        refine W.widen (k := 3) (n := 30) (Nat.le_of_ble_eq_true rfl) (Nat.le_of_ble_eq_true rfl) ?_
        exact hx_reti hx hb hr hlk hW ⟨⟨cn0, ff, tf, smf, frf, flf, hrf, udf, odf, wkf, owf, szf, gdf, svf, f_x_11, cl_qc_10, cl_qc_9, cl_qc_6, cl_qc_7, cl_qc_8, cl_qc_11, cl_qc_12, cl_qc_13, cl_qc_14, cl_qc_15, cl_qc_16, cl_qc_17, cl_qc_18, ⟨(hx_num_c nu_qc (by omega)), ⟨sb_ql_qc, ⟨⟨(Or.inl ⟨by decide, by omega, fun hc => by unfold hx_FC at hc; omega⟩), (Or.inl ⟨by decide, rfl⟩), (Or.inl ⟨by decide, rfl⟩), (Or.inl ⟨by decide, rfl⟩), (Or.inl ⟨by decide, rfl⟩), (Or.inl ⟨by decide, rfl⟩), (Or.inl ⟨by decide, rfl⟩), (Or.inl ⟨by decide, rfl⟩), ⟨agf, byf, plf, cF, bF, pv9, (Or.inl ⟨by decide, rfl⟩), (Or.inl ⟨by decide, rfl⟩), ⟨hpv9, (Or.inl ⟨by decide, rfl⟩)⟩, (Or.inl ⟨by decide, rfl⟩), (Or.inl ⟨by decide, rfl⟩), hw_DF_e hDF rfl (by omega), hw_DF_e hDP rfl (by omega), hv_AC_e hAC rfl (by omega) rfl, hv_FX_e hFX rfl (by omega), hv_FX_e hBX rfl (by omega), hv_HL_e hHL rfl rfl (by omega)⟩⟩, ⟨(Or.inl ⟨by decide, rfl⟩), (Or.inl ⟨by decide, rfl⟩), (Or.inl ⟨by decide, rfl⟩), (Or.inl ⟨by decide, rfl⟩), (Or.inl ⟨by decide, rfl⟩), (Or.inl ⟨by decide, rfl⟩)⟩⟩⟩⟩⟩, hT, hM, pf_x_11⟩ dX9_file_82
      · skip
        refine lv_aloadN hx hb dX9_file_23 (lv_at hl 1 rfl) ?_
        refine lv_ifnullN (tgt := 81) hx hb dX9_file_25 (by decide) ?_
        refine lv_iconst (v := -1) hx hb dX9_file_81 (by decide) ?_
        refine W.widen (k := 3) (n := 30) (Nat.le_of_ble_eq_true rfl) (Nat.le_of_ble_eq_true rfl) ?_
        exact hx_reti hx hb hr hlk hW ⟨⟨cn0, ff, tf, smf, frf, flf, hrf, udf, odf, wkf, owf, szf, gdf, svf, f_x_11, cl_qc_10, cl_qc_9, cl_qc_6, cl_qc_7, cl_qc_8, cl_qc_11, cl_qc_12, cl_qc_13, cl_qc_14, cl_qc_15, cl_qc_16, cl_qc_17, cl_qc_18, ⟨(hx_num_c nu_qc (by omega)), ⟨sb_ql_qc, ⟨⟨(Or.inl ⟨by decide, by omega, fun hc => by unfold hx_FC at hc; omega⟩), (Or.inl ⟨by decide, rfl⟩), (Or.inl ⟨by decide, rfl⟩), (Or.inl ⟨by decide, rfl⟩), (Or.inl ⟨by decide, rfl⟩), (Or.inl ⟨by decide, rfl⟩), (Or.inl ⟨by decide, rfl⟩), (Or.inl ⟨by decide, rfl⟩), ⟨agf, byf, plf, cF, bF, pv9, (Or.inl ⟨by decide, rfl⟩), (Or.inl ⟨by decide, rfl⟩), ⟨hpv9, (Or.inl ⟨by decide, rfl⟩)⟩, (Or.inl ⟨by decide, rfl⟩), (Or.inl ⟨by decide, rfl⟩), hw_DF_e hDF rfl (by omega), hw_DF_e hDP rfl (by omega), hv_AC_e hAC rfl (by omega) rfl, hv_FX_e hFX rfl (by omega), hv_FX_e hBX rfl (by omega), hv_HL_e hHL rfl rfl (by omega)⟩⟩, ⟨(Or.inl ⟨by decide, rfl⟩), (Or.inl ⟨by decide, rfl⟩), (Or.inl ⟨by decide, rfl⟩), (Or.inl ⟨by decide, rfl⟩), (Or.inl ⟨by decide, rfl⟩), (Or.inl ⟨by decide, rfl⟩)⟩⟩⟩⟩⟩, hT, hM, pf_x_11⟩ dX9_file_82
  · have gq_6 := hr_5 _ rfl
    have k_19 : 0 ≤ i1.toInt ∧ i1.toInt < pn0.toInt ∧ h_2.2.2 qp i1.toNatClampNeg = some q_6 := by
      rcases hr_5B with ⟨z, _⟩ | ⟨z1, z2, q, z3, z4⟩
      · cases z
      · cases z3; exact ⟨z1, z2, z4⟩
    have fo_20 := k_19.2.2
    have k_19 : 0 ≤ i1.toInt ∧ i1.toInt < pn0.toInt := ⟨k_19.1, k_19.2.1⟩
    refine lv_astore (lv' := [(7, .ref q_6), (0, .ref x), (1, .int i1), (2, .int i2), (3, .int i3), (4, .int i4), (5, .int i5), (6, .int i6)]) hx hb dX9_file_5 hl (by decide) rfl (fun ls hl => ?_)
    refine lv_aload_n hx hb dX9_file_7 rfl (lv_at hl 1 rfl) ?_
    refine lv_iload_n hx hb dX9_file_8 rfl (lv_at hl 3 rfl) ?_
    have hTo := hT
    refine hx_goq (hx_runV (As := [.int i2]) (rest := []) ⟨hx, hb, hml, hown, hts⟩ hW gx tt_9 (T := TX9) (N := 20) rfl (t_X9_personAt_2 l dC dI dA L_1 h_2 H.size x i2 hT gx pn0 f_x_8 qp gqp f_x_7 pf_x_8) (cwV 1 hts (hx_gV kw_659 kw_656 kw_658 kw_20 kw_94) rfl rfl rfl (by decide +kernel) ⟨Nat.le_of_ble_eq_true rfl, Nat.le_of_ble_eq_true rfl⟩) rfl hl.1 rfl (Nat.le_of_ble_eq_true rfl) dX9_file_9 ⟨Nat.le_of_ble_eq_true rfl, Nat.le_of_ble_eq_true rfl⟩) hW (fun r_23 L_21 h_22 H locs p_24 hW => ?_)
    obtain ⟨hr_25, hT, hs⟩ := p_24
    replace hT : hx_T T_tb L_21 h_22 := hT
    replace hs : hx_S T_tb [] L_1 h_2 L_21 h_22 := hs
    replace f_x_7 := (hs.o gx trivial rfl).2.trans f_x_7
    replace f_x_10 := (hs.o gx trivial rfl).2.trans f_x_10
    replace f_x_5 := (hs.o gx trivial rfl).2.trans f_x_5
    replace f_x_4 := (hs.o gx trivial rfl).2.trans f_x_4
    replace f_x_19 := (hs.o gx trivial rfl).2.trans f_x_19
    replace f_x_12 := (hs.o gx trivial rfl).2.trans f_x_12
    replace f_x_11 := (hs.o gx trivial rfl).1.trans f_x_11
    replace f_x_8 := (hs.o gx trivial rfl).1.trans f_x_8
    replace f_x_2 := (hs.o gx trivial rfl).1.trans f_x_2
    replace f_x_6 := (hs.o gx trivial rfl).1.trans f_x_6
    replace f_x_13 := (hs.o gx trivial rfl).1.trans f_x_13
    replace pf_x_8 : ∀ j : Nat, (j : Int) < (h_22.2.1 x 8).toInt → h_22.2.2 qp j ≠ none := by
      intro j hj; rw [(hs.o gx trivial rfl).1] at hj; rw [(hs.a gqp rfl j).2]; exact pf_x_8 j hj
    replace pf_x_11 : ∀ j : Nat, (j : Int) < (h_22.2.1 x 11).toInt → h_22.2.2 qc j ≠ none := by
      intro j hj; rw [(hs.o gx trivial rfl).1] at hj; rw [(hs.a gqc rfl j).2]; exact pf_x_11 j hj
    replace pf_x_6 : ∀ j : Nat, (j : Int) < (h_22.2.1 x 6).toInt → h_22.2.2 qa j ≠ none := by
      intro j hj; rw [(hs.o gx trivial rfl).1] at hj; rw [(hs.a gqa rfl j).2]; exact pf_x_6 j hj
    replace cl_qp_7 : hx_col 40 h_22 qp 7 = df := (hx_col_S hs hTo gqp tt_44 tt_4 rfl rfl).trans cl_qp_7
    replace cl_qc_10 : hx_col 100 h_22 qc 10 = ff := (hx_col_S hs hTo gqc tt_45 tt_2 rfl rfl).trans cl_qc_10
    replace cl_qc_9 : hx_col 100 h_22 qc 9 = tf := (hx_col_S hs hTo gqc tt_45 tt_2 rfl rfl).trans cl_qc_9
    replace cl_qc_6 : hx_col 100 h_22 qc 6 = smf := (hx_col_S hs hTo gqc tt_45 tt_2 rfl rfl).trans cl_qc_6
    replace cl_qc_7 : hx_col 100 h_22 qc 7 = frf := (hx_col_S hs hTo gqc tt_45 tt_2 rfl rfl).trans cl_qc_7
    replace cl_qc_8 : hx_col 100 h_22 qc 8 = flf := (hx_col_S hs hTo gqc tt_45 tt_2 rfl rfl).trans cl_qc_8
    replace cl_qc_11 : hx_col 100 h_22 qc 11 = hrf := (hx_col_S hs hTo gqc tt_45 tt_2 rfl rfl).trans cl_qc_11
    replace cl_qc_12 : hx_col 100 h_22 qc 12 = udf := (hx_col_S hs hTo gqc tt_45 tt_2 rfl rfl).trans cl_qc_12
    replace cl_qc_13 : hx_col 100 h_22 qc 13 = odf := (hx_col_S hs hTo gqc tt_45 tt_2 rfl rfl).trans cl_qc_13
    replace cl_qc_14 : hx_col 100 h_22 qc 14 = wkf := (hx_col_S hs hTo gqc tt_45 tt_2 rfl rfl).trans cl_qc_14
    replace cl_qc_15 : hx_col 100 h_22 qc 15 = owf := (hx_col_S hs hTo gqc tt_45 tt_2 rfl rfl).trans cl_qc_15
    replace cl_qc_16 : hx_col 100 h_22 qc 16 = szf := (hx_col_S hs hTo gqc tt_45 tt_2 rfl rfl).trans cl_qc_16
    replace cl_qc_17 : hx_col 100 h_22 qc 17 = gdf := (hx_col_S hs hTo gqc tt_45 tt_2 rfl rfl).trans cl_qc_17
    replace cl_qc_18 : hx_col 100 h_22 qc 18 = svf := (hx_col_S hs hTo gqc tt_45 tt_2 rfl rfl).trans cl_qc_18
    replace nu_qc : hx_num 100 h_22 qc 0 (cn0.toInt) := hx_num_S hs hTo gqc tt_45 tt_2 rfl rfl nu_qc
    replace sb_ql_qc : hx_LQ 8 100 h_22 ql qc := hx_LQ_S hs (gql.S hM) gqc rfl rfl sb_ql_qc
    replace hDF : hw_DF h_22 qc qp 2 agf cn0.toInt := hw_DF_S hs hTo gqc gqp tt_45 tt_2 rfl rfl rfl hDF
    replace hDP : hw_DF h_22 qc qp 1 byf cn0.toInt := hw_DF_S hs hTo gqc gqp tt_45 tt_2 rfl rfl rfl hDP
    replace hRA : hv_RA h_22 qa w a0.toInt A := hv_RA_S hs hTo gqa gw tt_43 tt_0 rfl rfl rfl rfl rfl rfl (by omega) hRA
    replace hAC : hv_AC h_22 qc plf cn0.toInt A := hv_AC_S hs hTo gqc tt_45 tt_2 rfl tt_0 rfl rfl rfl rfl rfl rfl rfl hAC
    replace hFX : hv_FX 8 4 h_22 qc cF cn0.toInt := hv_FX_S hs hTo gqc tt_45 tt_2 rfl rfl rfl rfl hFX
    replace hBX : hv_FX 3 5 h_22 qc bF cn0.toInt := hv_FX_S hs hTo gqc tt_45 tt_2 rfl rfl rfl rfl hBX
    replace hHL : hv_HL h_22 qh qc hof m0.toInt cn0.toInt := hv_HL_S hs gqh gqc rfl rfl hHL
    replace fo_20 := (hs.a gqp rfl _).2.trans fo_20
    replace hM := hM.tr (hs.mono (by decide))
    replace gx := gx.S hs
    replace gqp := gqp.S hs
    replace gqc := gqc.S hs
    replace gqa := gqa.S hs
    replace gw := gw.S hs
    replace gqh := gqh.S hs
    replace gq_6 := gq_6.S hs
    obtain ⟨hr_25, hr_25B⟩ := hr_25
    have hr_25 : ∀ q, r_23 = some q → hx_g L_21 h_22 q 4 := hr_25
    rcases r_23 with _ | q_26
    · skip
      have k_27 : i2.toInt < 0 ∨ pn0.toInt ≤ i2.toInt := by
        rcases hr_25B with ⟨_, z⟩ | ⟨_, _, q, z, _⟩
        · exact z
        · cases z
      refine lv_astoreN (lv' := [(8, .null), (7, .ref q_6), (0, .ref x), (1, .int i1), (2, .int i2), (3, .int i3), (4, .int i4), (5, .int i5), (6, .int i6)]) hx hb dX9_file_12 hl (by decide) rfl (fun ls hl => ?_)
      refine lv_aload_n hx hb dX9_file_14 rfl (lv_at hl 2 rfl) ?_
      refine hk_geti hx hb hts hC_9 hown hW gx tt_9 11 (by decide) rfl kw_375 ⟨rfl, rfl, rfl⟩ f_x_11 dX9_file_15 ?_
      refine lv_bipush (v := 100) hx hb dX9_file_18 (by decide) ?_
      refine hb_icmp_ge (zx := cn0.toInt) (zy := 100) (tgt := 81) hx hb rfl (by decide) dX9_file_20 (by decide) (fun c_28 => ?_) (fun c_28 => ?_)
      · skip
        refine lv_iconst (v := -1) hx hb dX9_file_81 (by decide) ?_
        refine W.widen (k := 3) (n := 30) (Nat.le_of_ble_eq_true rfl) (Nat.le_of_ble_eq_true rfl) ?_
        exact hx_reti hx hb hr hlk hW ⟨⟨cn0, ff, tf, smf, frf, flf, hrf, udf, odf, wkf, owf, szf, gdf, svf, f_x_11, cl_qc_10, cl_qc_9, cl_qc_6, cl_qc_7, cl_qc_8, cl_qc_11, cl_qc_12, cl_qc_13, cl_qc_14, cl_qc_15, cl_qc_16, cl_qc_17, cl_qc_18, ⟨(hx_num_c nu_qc (by omega)), ⟨sb_ql_qc, ⟨⟨(Or.inl ⟨by decide, by omega, fun hc => by unfold hx_FC at hc; omega⟩), (Or.inl ⟨by decide, rfl⟩), (Or.inl ⟨by decide, rfl⟩), (Or.inl ⟨by decide, rfl⟩), (Or.inl ⟨by decide, rfl⟩), (Or.inl ⟨by decide, rfl⟩), (Or.inl ⟨by decide, rfl⟩), (Or.inl ⟨by decide, rfl⟩), ⟨agf, byf, plf, cF, bF, pv9, (Or.inl ⟨by decide, rfl⟩), (Or.inl ⟨by decide, rfl⟩), ⟨hpv9, (Or.inl ⟨by decide, rfl⟩)⟩, (Or.inl ⟨by decide, rfl⟩), (Or.inl ⟨by decide, rfl⟩), hw_DF_e hDF rfl (by omega), hw_DF_e hDP rfl (by omega), hv_AC_e hAC rfl (by omega) rfl, hv_FX_e hFX rfl (by omega), hv_FX_e hBX rfl (by omega), hv_HL_e hHL rfl rfl (by omega)⟩⟩, ⟨(Or.inl ⟨by decide, rfl⟩), (Or.inl ⟨by decide, rfl⟩), (Or.inl ⟨by decide, rfl⟩), (Or.inl ⟨by decide, rfl⟩), (Or.inl ⟨by decide, rfl⟩), (Or.inl ⟨by decide, rfl⟩)⟩⟩⟩⟩⟩, hT, hM, pf_x_11⟩ dX9_file_82
      · skip
        refine lv_aload hx hb dX9_file_23 (lv_at hl 1 rfl) ?_
        refine lv_ifnull hx hb dX9_file_25 ?_
        refine lv_aloadN hx hb dX9_file_28 (lv_at hl 0 rfl) ?_
        refine lv_ifnullN (tgt := 81) hx hb dX9_file_30 (by decide) ?_
        refine lv_iconst (v := -1) hx hb dX9_file_81 (by decide) ?_
        refine W.widen (k := 3) (n := 30) (Nat.le_of_ble_eq_true rfl) (Nat.le_of_ble_eq_true rfl) ?_
        exact hx_reti hx hb hr hlk hW ⟨⟨cn0, ff, tf, smf, frf, flf, hrf, udf, odf, wkf, owf, szf, gdf, svf, f_x_11, cl_qc_10, cl_qc_9, cl_qc_6, cl_qc_7, cl_qc_8, cl_qc_11, cl_qc_12, cl_qc_13, cl_qc_14, cl_qc_15, cl_qc_16, cl_qc_17, cl_qc_18, ⟨(hx_num_c nu_qc (by omega)), ⟨sb_ql_qc, ⟨⟨(Or.inl ⟨by decide, by omega, fun hc => by unfold hx_FC at hc; omega⟩), (Or.inl ⟨by decide, rfl⟩), (Or.inl ⟨by decide, rfl⟩), (Or.inl ⟨by decide, rfl⟩), (Or.inl ⟨by decide, rfl⟩), (Or.inl ⟨by decide, rfl⟩), (Or.inl ⟨by decide, rfl⟩), (Or.inl ⟨by decide, rfl⟩), ⟨agf, byf, plf, cF, bF, pv9, (Or.inl ⟨by decide, rfl⟩), (Or.inl ⟨by decide, rfl⟩), ⟨hpv9, (Or.inl ⟨by decide, rfl⟩)⟩, (Or.inl ⟨by decide, rfl⟩), (Or.inl ⟨by decide, rfl⟩), hw_DF_e hDF rfl (by omega), hw_DF_e hDP rfl (by omega), hv_AC_e hAC rfl (by omega) rfl, hv_FX_e hFX rfl (by omega), hv_FX_e hBX rfl (by omega), hv_HL_e hHL rfl rfl (by omega)⟩⟩, ⟨(Or.inl ⟨by decide, rfl⟩), (Or.inl ⟨by decide, rfl⟩), (Or.inl ⟨by decide, rfl⟩), (Or.inl ⟨by decide, rfl⟩), (Or.inl ⟨by decide, rfl⟩), (Or.inl ⟨by decide, rfl⟩)⟩⟩⟩⟩⟩, hT, hM, pf_x_11⟩ dX9_file_82
    · have gq_26 := hr_25 _ rfl
      have k_29 : 0 ≤ i2.toInt ∧ i2.toInt < pn0.toInt ∧ h_22.2.2 qp i2.toNatClampNeg = some q_26 := by
        rcases hr_25B with ⟨z, _⟩ | ⟨z1, z2, q, z3, z4⟩
        · cases z
        · cases z3; exact ⟨z1, z2, z4⟩
      have fo_30 := k_29.2.2
      have k_29 : 0 ≤ i2.toInt ∧ i2.toInt < pn0.toInt := ⟨k_29.1, k_29.2.1⟩
      refine lv_astore (lv' := [(8, .ref q_26), (7, .ref q_6), (0, .ref x), (1, .int i1), (2, .int i2), (3, .int i3), (4, .int i4), (5, .int i5), (6, .int i6)]) hx hb dX9_file_12 hl (by decide) rfl (fun ls hl => ?_)
      refine lv_aload_n hx hb dX9_file_14 rfl (lv_at hl 2 rfl) ?_
      refine hk_geti hx hb hts hC_9 hown hW gx tt_9 11 (by decide) rfl kw_375 ⟨rfl, rfl, rfl⟩ f_x_11 dX9_file_15 ?_
      refine lv_bipush (v := 100) hx hb dX9_file_18 (by decide) ?_
      refine hb_icmp_ge (zx := cn0.toInt) (zy := 100) (tgt := 81) hx hb rfl (by decide) dX9_file_20 (by decide) (fun c_31 => ?_) (fun c_31 => ?_)
      · skip
        refine lv_iconst (v := -1) hx hb dX9_file_81 (by decide) ?_
        refine W.widen (k := 3) (n := 30) (Nat.le_of_ble_eq_true rfl) (Nat.le_of_ble_eq_true rfl) ?_
        exact hx_reti hx hb hr hlk hW ⟨⟨cn0, ff, tf, smf, frf, flf, hrf, udf, odf, wkf, owf, szf, gdf, svf, f_x_11, cl_qc_10, cl_qc_9, cl_qc_6, cl_qc_7, cl_qc_8, cl_qc_11, cl_qc_12, cl_qc_13, cl_qc_14, cl_qc_15, cl_qc_16, cl_qc_17, cl_qc_18, ⟨(hx_num_c nu_qc (by omega)), ⟨sb_ql_qc, ⟨⟨(Or.inl ⟨by decide, by omega, fun hc => by unfold hx_FC at hc; omega⟩), (Or.inl ⟨by decide, rfl⟩), (Or.inl ⟨by decide, rfl⟩), (Or.inl ⟨by decide, rfl⟩), (Or.inl ⟨by decide, rfl⟩), (Or.inl ⟨by decide, rfl⟩), (Or.inl ⟨by decide, rfl⟩), (Or.inl ⟨by decide, rfl⟩), ⟨agf, byf, plf, cF, bF, pv9, (Or.inl ⟨by decide, rfl⟩), (Or.inl ⟨by decide, rfl⟩), ⟨hpv9, (Or.inl ⟨by decide, rfl⟩)⟩, (Or.inl ⟨by decide, rfl⟩), (Or.inl ⟨by decide, rfl⟩), hw_DF_e hDF rfl (by omega), hw_DF_e hDP rfl (by omega), hv_AC_e hAC rfl (by omega) rfl, hv_FX_e hFX rfl (by omega), hv_FX_e hBX rfl (by omega), hv_HL_e hHL rfl rfl (by omega)⟩⟩, ⟨(Or.inl ⟨by decide, rfl⟩), (Or.inl ⟨by decide, rfl⟩), (Or.inl ⟨by decide, rfl⟩), (Or.inl ⟨by decide, rfl⟩), (Or.inl ⟨by decide, rfl⟩), (Or.inl ⟨by decide, rfl⟩)⟩⟩⟩⟩⟩, hT, hM, pf_x_11⟩ dX9_file_82
      · skip
        refine lv_aload hx hb dX9_file_23 (lv_at hl 1 rfl) ?_
        refine lv_ifnull hx hb dX9_file_25 ?_
        refine lv_aload hx hb dX9_file_28 (lv_at hl 0 rfl) ?_
        refine lv_ifnull hx hb dX9_file_30 ?_
        refine lv_iload_n hx hb dX9_file_33 rfl (lv_at hl 3 rfl) ?_
        refine lv_iload_n hx hb dX9_file_34 rfl (lv_at hl 4 rfl) ?_
        refine hb_icmp_eq (zx := i1.toInt) (zy := i2.toInt) (tgt := 81) hx hb rfl rfl dX9_file_35 (by decide) (fun c_32 => ?_) (fun c_32 => ?_)
        · skip
          refine lv_iconst (v := -1) hx hb dX9_file_81 (by decide) ?_
          refine W.widen (k := 3) (n := 30) (Nat.le_of_ble_eq_true rfl) (Nat.le_of_ble_eq_true rfl) ?_
          exact hx_reti hx hb hr hlk hW ⟨⟨cn0, ff, tf, smf, frf, flf, hrf, udf, odf, wkf, owf, szf, gdf, svf, f_x_11, cl_qc_10, cl_qc_9, cl_qc_6, cl_qc_7, cl_qc_8, cl_qc_11, cl_qc_12, cl_qc_13, cl_qc_14, cl_qc_15, cl_qc_16, cl_qc_17, cl_qc_18, ⟨(hx_num_c nu_qc (by omega)), ⟨sb_ql_qc, ⟨⟨(Or.inl ⟨by decide, by omega, fun hc => by unfold hx_FC at hc; omega⟩), (Or.inl ⟨by decide, rfl⟩), (Or.inl ⟨by decide, rfl⟩), (Or.inl ⟨by decide, rfl⟩), (Or.inl ⟨by decide, rfl⟩), (Or.inl ⟨by decide, rfl⟩), (Or.inl ⟨by decide, rfl⟩), (Or.inl ⟨by decide, rfl⟩), ⟨agf, byf, plf, cF, bF, pv9, (Or.inl ⟨by decide, rfl⟩), (Or.inl ⟨by decide, rfl⟩), ⟨hpv9, (Or.inl ⟨by decide, rfl⟩)⟩, (Or.inl ⟨by decide, rfl⟩), (Or.inl ⟨by decide, rfl⟩), hw_DF_e hDF rfl (by omega), hw_DF_e hDP rfl (by omega), hv_AC_e hAC rfl (by omega) rfl, hv_FX_e hFX rfl (by omega), hv_FX_e hBX rfl (by omega), hv_HL_e hHL rfl rfl (by omega)⟩⟩, ⟨(Or.inl ⟨by decide, rfl⟩), (Or.inl ⟨by decide, rfl⟩), (Or.inl ⟨by decide, rfl⟩), (Or.inl ⟨by decide, rfl⟩), (Or.inl ⟨by decide, rfl⟩), (Or.inl ⟨by decide, rfl⟩)⟩⟩⟩⟩⟩, hT, hM, pf_x_11⟩ dX9_file_82
        · skip
          refine lv_aload hx hb dX9_file_38 (lv_at hl 0 rfl) ?_
          refine hx_geti hx hb hts hC_4 hown hW hT gq_26 tt_4 7 (by decide) rfl kw_623 ⟨rfl, rfl, rfl⟩ dX9_file_40 (fun x_33 ex_33 lx_33 ux_33 => ?_)
          have fx_33 := ex_33.symm
          have cx_33 : x_33 = df i2.toNatClampNeg := by rw [ex_33, ← cl_qp_7]; exact (hx_col_at fo_30 (by unfold Int32.toNatClampNeg; omega)).symm
          refine hb_if_ne (zx := x_33.toInt) (tgt := 81) hx hb rfl dX9_file_43 (by decide) (fun c_34 => ?_) (fun c_34 => ?_)
          · skip
            refine lv_iconst (v := -1) hx hb dX9_file_81 (by decide) ?_
            refine W.widen (k := 3) (n := 30) (Nat.le_of_ble_eq_true rfl) (Nat.le_of_ble_eq_true rfl) ?_
            exact hx_reti hx hb hr hlk hW ⟨⟨cn0, ff, tf, smf, frf, flf, hrf, udf, odf, wkf, owf, szf, gdf, svf, f_x_11, cl_qc_10, cl_qc_9, cl_qc_6, cl_qc_7, cl_qc_8, cl_qc_11, cl_qc_12, cl_qc_13, cl_qc_14, cl_qc_15, cl_qc_16, cl_qc_17, cl_qc_18, ⟨(hx_num_c nu_qc (by omega)), ⟨sb_ql_qc, ⟨⟨(Or.inl ⟨by decide, by omega, fun hc => by unfold hx_FC at hc; have h1 : (df i2.toNatClampNeg).toInt = 0 := hc.2.2.2.2.1; rw [← cx_33] at h1; omega⟩), (Or.inl ⟨by decide, rfl⟩), (Or.inl ⟨by decide, rfl⟩), (Or.inl ⟨by decide, rfl⟩), (Or.inl ⟨by decide, rfl⟩), (Or.inl ⟨by decide, rfl⟩), (Or.inl ⟨by decide, rfl⟩), (Or.inl ⟨by decide, rfl⟩), ⟨agf, byf, plf, cF, bF, pv9, (Or.inl ⟨by decide, rfl⟩), (Or.inl ⟨by decide, rfl⟩), ⟨hpv9, (Or.inl ⟨by decide, rfl⟩)⟩, (Or.inl ⟨by decide, rfl⟩), (Or.inl ⟨by decide, rfl⟩), hw_DF_e hDF rfl (by omega), hw_DF_e hDP rfl (by omega), hv_AC_e hAC rfl (by omega) rfl, hv_FX_e hFX rfl (by omega), hv_FX_e hBX rfl (by omega), hv_HL_e hHL rfl rfl (by omega)⟩⟩, ⟨(Or.inl ⟨by decide, rfl⟩), (Or.inl ⟨by decide, rfl⟩), (Or.inl ⟨by decide, rfl⟩), (Or.inl ⟨by decide, rfl⟩), (Or.inl ⟨by decide, rfl⟩), (Or.inl ⟨by decide, rfl⟩)⟩⟩⟩⟩⟩, hT, hM, pf_x_11⟩ dX9_file_82
          · skip
            refine lv_iload_n hx hb dX9_file_46 rfl (lv_at hl 5 rfl) ?_
            refine lv_iconst (v := 1) hx hb dX9_file_47 (by decide) ?_
            refine lv_sipush (v := 9999) hx hb dX9_file_48 (by decide) ?_
            have hTo := hT
            have zc_9999 : (9999 : Int32).toInt = 9999 := by decide
            have zc_1 : (1 : Int32).toInt = 1 := by decide
            refine hx_goi (hx_runS (As := [.int i3, .int (1 : Int32), .int (9999 : Int32)]) (rest := []) ⟨hx, hb, hml, hown, hts⟩ hW (t_X9_isWithin_2 l dC dI dA L_21 h_22 H.size i3 (1 : Int32) (9999 : Int32) hT) (va_cwS 3 hts (hx_gS kw_434 kw_432 kw_433 kw_94) rfl rfl rfl (by decide +kernel) ⟨Nat.le_of_ble_eq_true rfl, Nat.le_of_ble_eq_true rfl⟩) rfl hl.1 rfl (Nat.le_of_ble_eq_true rfl) dX9_file_51 ⟨Nat.le_of_ble_eq_true rfl, Nat.le_of_ble_eq_true rfl⟩) hW (fun r_37 L_35 h_36 H locs p_38 hW => ?_)
            obtain ⟨hr_39, hT, hs⟩ := p_38
            replace hT : hx_T T_tb L_35 h_36 := hT
            replace hs : hx_S T_tb [] L_21 h_22 L_35 h_36 := hs
            replace f_x_7 := (hs.o gx trivial rfl).2.trans f_x_7
            replace f_x_10 := (hs.o gx trivial rfl).2.trans f_x_10
            replace f_x_5 := (hs.o gx trivial rfl).2.trans f_x_5
            replace f_x_4 := (hs.o gx trivial rfl).2.trans f_x_4
            replace f_x_19 := (hs.o gx trivial rfl).2.trans f_x_19
            replace f_x_12 := (hs.o gx trivial rfl).2.trans f_x_12
            replace f_x_11 := (hs.o gx trivial rfl).1.trans f_x_11
            replace f_x_8 := (hs.o gx trivial rfl).1.trans f_x_8
            replace f_x_2 := (hs.o gx trivial rfl).1.trans f_x_2
            replace f_x_6 := (hs.o gx trivial rfl).1.trans f_x_6
            replace f_x_13 := (hs.o gx trivial rfl).1.trans f_x_13
            replace fx_33 := (hs.o gq_26 trivial rfl).1.trans fx_33
            replace pf_x_8 : ∀ j : Nat, (j : Int) < (h_36.2.1 x 8).toInt → h_36.2.2 qp j ≠ none := by
              intro j hj; rw [(hs.o gx trivial rfl).1] at hj; rw [(hs.a gqp rfl j).2]; exact pf_x_8 j hj
            replace pf_x_11 : ∀ j : Nat, (j : Int) < (h_36.2.1 x 11).toInt → h_36.2.2 qc j ≠ none := by
              intro j hj; rw [(hs.o gx trivial rfl).1] at hj; rw [(hs.a gqc rfl j).2]; exact pf_x_11 j hj
            replace pf_x_6 : ∀ j : Nat, (j : Int) < (h_36.2.1 x 6).toInt → h_36.2.2 qa j ≠ none := by
              intro j hj; rw [(hs.o gx trivial rfl).1] at hj; rw [(hs.a gqa rfl j).2]; exact pf_x_6 j hj
            replace cl_qp_7 : hx_col 40 h_36 qp 7 = df := (hx_col_S hs hTo gqp tt_44 tt_4 rfl rfl).trans cl_qp_7
            replace cl_qc_10 : hx_col 100 h_36 qc 10 = ff := (hx_col_S hs hTo gqc tt_45 tt_2 rfl rfl).trans cl_qc_10
            replace cl_qc_9 : hx_col 100 h_36 qc 9 = tf := (hx_col_S hs hTo gqc tt_45 tt_2 rfl rfl).trans cl_qc_9
            replace cl_qc_6 : hx_col 100 h_36 qc 6 = smf := (hx_col_S hs hTo gqc tt_45 tt_2 rfl rfl).trans cl_qc_6
            replace cl_qc_7 : hx_col 100 h_36 qc 7 = frf := (hx_col_S hs hTo gqc tt_45 tt_2 rfl rfl).trans cl_qc_7
            replace cl_qc_8 : hx_col 100 h_36 qc 8 = flf := (hx_col_S hs hTo gqc tt_45 tt_2 rfl rfl).trans cl_qc_8
            replace cl_qc_11 : hx_col 100 h_36 qc 11 = hrf := (hx_col_S hs hTo gqc tt_45 tt_2 rfl rfl).trans cl_qc_11
            replace cl_qc_12 : hx_col 100 h_36 qc 12 = udf := (hx_col_S hs hTo gqc tt_45 tt_2 rfl rfl).trans cl_qc_12
            replace cl_qc_13 : hx_col 100 h_36 qc 13 = odf := (hx_col_S hs hTo gqc tt_45 tt_2 rfl rfl).trans cl_qc_13
            replace cl_qc_14 : hx_col 100 h_36 qc 14 = wkf := (hx_col_S hs hTo gqc tt_45 tt_2 rfl rfl).trans cl_qc_14
            replace cl_qc_15 : hx_col 100 h_36 qc 15 = owf := (hx_col_S hs hTo gqc tt_45 tt_2 rfl rfl).trans cl_qc_15
            replace cl_qc_16 : hx_col 100 h_36 qc 16 = szf := (hx_col_S hs hTo gqc tt_45 tt_2 rfl rfl).trans cl_qc_16
            replace cl_qc_17 : hx_col 100 h_36 qc 17 = gdf := (hx_col_S hs hTo gqc tt_45 tt_2 rfl rfl).trans cl_qc_17
            replace cl_qc_18 : hx_col 100 h_36 qc 18 = svf := (hx_col_S hs hTo gqc tt_45 tt_2 rfl rfl).trans cl_qc_18
            replace nu_qc : hx_num 100 h_36 qc 0 (cn0.toInt) := hx_num_S hs hTo gqc tt_45 tt_2 rfl rfl nu_qc
            replace sb_ql_qc : hx_LQ 8 100 h_36 ql qc := hx_LQ_S hs (gql.S hM) gqc rfl rfl sb_ql_qc
            replace hDF : hw_DF h_36 qc qp 2 agf cn0.toInt := hw_DF_S hs hTo gqc gqp tt_45 tt_2 rfl rfl rfl hDF
            replace hDP : hw_DF h_36 qc qp 1 byf cn0.toInt := hw_DF_S hs hTo gqc gqp tt_45 tt_2 rfl rfl rfl hDP
            replace hRA : hv_RA h_36 qa w a0.toInt A := hv_RA_S hs hTo gqa gw tt_43 tt_0 rfl rfl rfl rfl rfl rfl (by omega) hRA
            replace hAC : hv_AC h_36 qc plf cn0.toInt A := hv_AC_S hs hTo gqc tt_45 tt_2 rfl tt_0 rfl rfl rfl rfl rfl rfl rfl hAC
            replace hFX : hv_FX 8 4 h_36 qc cF cn0.toInt := hv_FX_S hs hTo gqc tt_45 tt_2 rfl rfl rfl rfl hFX
            replace hBX : hv_FX 3 5 h_36 qc bF cn0.toInt := hv_FX_S hs hTo gqc tt_45 tt_2 rfl rfl rfl rfl hBX
            replace hHL : hv_HL h_36 qh qc hof m0.toInt cn0.toInt := hv_HL_S hs gqh gqc rfl rfl hHL
            replace fo_20 := (hs.a gqp rfl _).2.trans fo_20
            replace fo_30 := (hs.a gqp rfl _).2.trans fo_30
            replace hM := hM.tr (hs.mono (by decide))
            replace gx := gx.S hs
            replace gqp := gqp.S hs
            replace gqc := gqc.S hs
            replace gqa := gqa.S hs
            replace gw := gw.S hs
            replace gqh := gqh.S hs
            replace gq_6 := gq_6.S hs
            replace gq_26 := gq_26.S hs
            refine hb_if_eq (zx := r_37.toInt) (tgt := 81) hx hb rfl dX9_file_54 (by decide) (fun c_40 => ?_) (fun c_40 => ?_)
            · skip
              replace hr_39 := hr_39.resolve_right (fun z9 => absurd (c_40.symm.trans z9.1) (by decide))
              replace hr_39 := hr_39.2
              refine lv_iconst (v := -1) hx hb dX9_file_81 (by decide) ?_
              refine W.widen (k := 3) (n := 30) (Nat.le_of_ble_eq_true rfl) (Nat.le_of_ble_eq_true rfl) ?_
              exact hx_reti hx hb hr hlk hW ⟨⟨cn0, ff, tf, smf, frf, flf, hrf, udf, odf, wkf, owf, szf, gdf, svf, f_x_11, cl_qc_10, cl_qc_9, cl_qc_6, cl_qc_7, cl_qc_8, cl_qc_11, cl_qc_12, cl_qc_13, cl_qc_14, cl_qc_15, cl_qc_16, cl_qc_17, cl_qc_18, ⟨(hx_num_c nu_qc (by omega)), ⟨sb_ql_qc, ⟨⟨(Or.inl ⟨by decide, by omega, fun hc => by unfold hx_FC at hc; have h1 : (df i2.toNatClampNeg).toInt = 0 := hc.2.2.2.2.1; rw [← cx_33] at h1; omega⟩), (Or.inl ⟨by decide, rfl⟩), (Or.inl ⟨by decide, rfl⟩), (Or.inl ⟨by decide, rfl⟩), (Or.inl ⟨by decide, rfl⟩), (Or.inl ⟨by decide, rfl⟩), (Or.inl ⟨by decide, rfl⟩), (Or.inl ⟨by decide, rfl⟩), ⟨agf, byf, plf, cF, bF, pv9, (Or.inl ⟨by decide, rfl⟩), (Or.inl ⟨by decide, rfl⟩), ⟨hpv9, (Or.inl ⟨by decide, rfl⟩)⟩, (Or.inl ⟨by decide, rfl⟩), (Or.inl ⟨by decide, rfl⟩), hw_DF_e hDF rfl (by omega), hw_DF_e hDP rfl (by omega), hv_AC_e hAC rfl (by omega) rfl, hv_FX_e hFX rfl (by omega), hv_FX_e hBX rfl (by omega), hv_HL_e hHL rfl rfl (by omega)⟩⟩, ⟨(Or.inl ⟨by decide, rfl⟩), (Or.inl ⟨by decide, rfl⟩), (Or.inl ⟨by decide, rfl⟩), (Or.inl ⟨by decide, rfl⟩), (Or.inl ⟨by decide, rfl⟩), (Or.inl ⟨by decide, rfl⟩)⟩⟩⟩⟩⟩, hT, hM, pf_x_11⟩ dX9_file_82
            · skip
              replace hr_39 := hr_39.resolve_left (fun z9 => c_40 z9.1)
              replace c_40 := hr_39.1
              replace hr_39 := hr_39.2
              refine lv_iload hx hb dX9_file_57 (lv_at hl 6 rfl) ?_
              refine lv_iconst (v := 0) hx hb dX9_file_59 (by decide) ?_
              refine lv_aload_n hx hb dX9_file_60 rfl (lv_at hl 2 rfl) ?_
              refine hk_geti hx hb hts hC_9 hown hW gx tt_9 2 (by decide) rfl kw_366 ⟨rfl, rfl, rfl⟩ f_x_2 dX9_file_61 ?_
              have hTo := hT
              have zc_0 : (0 : Int32).toInt = 0 := by decide
              refine hx_goi (hx_runS (As := [.int i4, .int (0 : Int32), .int nw0]) (rest := []) ⟨hx, hb, hml, hown, hts⟩ hW (t_X9_isWithin_2 l dC dI dA L_35 h_36 H.size i4 (0 : Int32) nw0 hT) (va_cwS 3 hts (hx_gS kw_434 kw_432 kw_433 kw_94) rfl rfl rfl (by decide +kernel) ⟨Nat.le_of_ble_eq_true rfl, Nat.le_of_ble_eq_true rfl⟩) rfl hl.1 rfl (Nat.le_of_ble_eq_true rfl) dX9_file_64 ⟨Nat.le_of_ble_eq_true rfl, Nat.le_of_ble_eq_true rfl⟩) hW (fun r_43 L_41 h_42 H locs p_44 hW => ?_)
              obtain ⟨hr_45, hT, hs⟩ := p_44
              replace hT : hx_T T_tb L_41 h_42 := hT
              replace hs : hx_S T_tb [] L_35 h_36 L_41 h_42 := hs
              replace f_x_7 := (hs.o gx trivial rfl).2.trans f_x_7
              replace f_x_10 := (hs.o gx trivial rfl).2.trans f_x_10
              replace f_x_5 := (hs.o gx trivial rfl).2.trans f_x_5
              replace f_x_4 := (hs.o gx trivial rfl).2.trans f_x_4
              replace f_x_19 := (hs.o gx trivial rfl).2.trans f_x_19
              replace f_x_12 := (hs.o gx trivial rfl).2.trans f_x_12
              replace f_x_11 := (hs.o gx trivial rfl).1.trans f_x_11
              replace f_x_8 := (hs.o gx trivial rfl).1.trans f_x_8
              replace f_x_2 := (hs.o gx trivial rfl).1.trans f_x_2
              replace f_x_6 := (hs.o gx trivial rfl).1.trans f_x_6
              replace f_x_13 := (hs.o gx trivial rfl).1.trans f_x_13
              replace fx_33 := (hs.o gq_26 trivial rfl).1.trans fx_33
              replace pf_x_8 : ∀ j : Nat, (j : Int) < (h_42.2.1 x 8).toInt → h_42.2.2 qp j ≠ none := by
                intro j hj; rw [(hs.o gx trivial rfl).1] at hj; rw [(hs.a gqp rfl j).2]; exact pf_x_8 j hj
              replace pf_x_11 : ∀ j : Nat, (j : Int) < (h_42.2.1 x 11).toInt → h_42.2.2 qc j ≠ none := by
                intro j hj; rw [(hs.o gx trivial rfl).1] at hj; rw [(hs.a gqc rfl j).2]; exact pf_x_11 j hj
              replace pf_x_6 : ∀ j : Nat, (j : Int) < (h_42.2.1 x 6).toInt → h_42.2.2 qa j ≠ none := by
                intro j hj; rw [(hs.o gx trivial rfl).1] at hj; rw [(hs.a gqa rfl j).2]; exact pf_x_6 j hj
              replace cl_qp_7 : hx_col 40 h_42 qp 7 = df := (hx_col_S hs hTo gqp tt_44 tt_4 rfl rfl).trans cl_qp_7
              replace cl_qc_10 : hx_col 100 h_42 qc 10 = ff := (hx_col_S hs hTo gqc tt_45 tt_2 rfl rfl).trans cl_qc_10
              replace cl_qc_9 : hx_col 100 h_42 qc 9 = tf := (hx_col_S hs hTo gqc tt_45 tt_2 rfl rfl).trans cl_qc_9
              replace cl_qc_6 : hx_col 100 h_42 qc 6 = smf := (hx_col_S hs hTo gqc tt_45 tt_2 rfl rfl).trans cl_qc_6
              replace cl_qc_7 : hx_col 100 h_42 qc 7 = frf := (hx_col_S hs hTo gqc tt_45 tt_2 rfl rfl).trans cl_qc_7
              replace cl_qc_8 : hx_col 100 h_42 qc 8 = flf := (hx_col_S hs hTo gqc tt_45 tt_2 rfl rfl).trans cl_qc_8
              replace cl_qc_11 : hx_col 100 h_42 qc 11 = hrf := (hx_col_S hs hTo gqc tt_45 tt_2 rfl rfl).trans cl_qc_11
              replace cl_qc_12 : hx_col 100 h_42 qc 12 = udf := (hx_col_S hs hTo gqc tt_45 tt_2 rfl rfl).trans cl_qc_12
              replace cl_qc_13 : hx_col 100 h_42 qc 13 = odf := (hx_col_S hs hTo gqc tt_45 tt_2 rfl rfl).trans cl_qc_13
              replace cl_qc_14 : hx_col 100 h_42 qc 14 = wkf := (hx_col_S hs hTo gqc tt_45 tt_2 rfl rfl).trans cl_qc_14
              replace cl_qc_15 : hx_col 100 h_42 qc 15 = owf := (hx_col_S hs hTo gqc tt_45 tt_2 rfl rfl).trans cl_qc_15
              replace cl_qc_16 : hx_col 100 h_42 qc 16 = szf := (hx_col_S hs hTo gqc tt_45 tt_2 rfl rfl).trans cl_qc_16
              replace cl_qc_17 : hx_col 100 h_42 qc 17 = gdf := (hx_col_S hs hTo gqc tt_45 tt_2 rfl rfl).trans cl_qc_17
              replace cl_qc_18 : hx_col 100 h_42 qc 18 = svf := (hx_col_S hs hTo gqc tt_45 tt_2 rfl rfl).trans cl_qc_18
              replace nu_qc : hx_num 100 h_42 qc 0 (cn0.toInt) := hx_num_S hs hTo gqc tt_45 tt_2 rfl rfl nu_qc
              replace sb_ql_qc : hx_LQ 8 100 h_42 ql qc := hx_LQ_S hs (gql.S hM) gqc rfl rfl sb_ql_qc
              replace hDF : hw_DF h_42 qc qp 2 agf cn0.toInt := hw_DF_S hs hTo gqc gqp tt_45 tt_2 rfl rfl rfl hDF
              replace hDP : hw_DF h_42 qc qp 1 byf cn0.toInt := hw_DF_S hs hTo gqc gqp tt_45 tt_2 rfl rfl rfl hDP
              replace hRA : hv_RA h_42 qa w a0.toInt A := hv_RA_S hs hTo gqa gw tt_43 tt_0 rfl rfl rfl rfl rfl rfl (by omega) hRA
              replace hAC : hv_AC h_42 qc plf cn0.toInt A := hv_AC_S hs hTo gqc tt_45 tt_2 rfl tt_0 rfl rfl rfl rfl rfl rfl rfl hAC
              replace hFX : hv_FX 8 4 h_42 qc cF cn0.toInt := hv_FX_S hs hTo gqc tt_45 tt_2 rfl rfl rfl rfl hFX
              replace hBX : hv_FX 3 5 h_42 qc bF cn0.toInt := hv_FX_S hs hTo gqc tt_45 tt_2 rfl rfl rfl rfl hBX
              replace hHL : hv_HL h_42 qh qc hof m0.toInt cn0.toInt := hv_HL_S hs gqh gqc rfl rfl hHL
              replace fo_20 := (hs.a gqp rfl _).2.trans fo_20
              replace fo_30 := (hs.a gqp rfl _).2.trans fo_30
              replace hM := hM.tr (hs.mono (by decide))
              replace gx := gx.S hs
              replace gqp := gqp.S hs
              replace gqc := gqc.S hs
              replace gqa := gqa.S hs
              replace gw := gw.S hs
              replace gqh := gqh.S hs
              replace gq_6 := gq_6.S hs
              replace gq_26 := gq_26.S hs
              refine hb_if_eq (zx := r_43.toInt) (tgt := 81) hx hb rfl dX9_file_67 (by decide) (fun c_46 => ?_) (fun c_46 => ?_)
              · skip
                replace hr_45 := hr_45.resolve_right (fun z9 => absurd (c_46.symm.trans z9.1) (by decide))
                replace hr_45 := hr_45.2
                refine lv_iconst (v := -1) hx hb dX9_file_81 (by decide) ?_
                refine W.widen (k := 3) (n := 30) (Nat.le_of_ble_eq_true rfl) (Nat.le_of_ble_eq_true rfl) ?_
                exact hx_reti hx hb hr hlk hW ⟨⟨cn0, ff, tf, smf, frf, flf, hrf, udf, odf, wkf, owf, szf, gdf, svf, f_x_11, cl_qc_10, cl_qc_9, cl_qc_6, cl_qc_7, cl_qc_8, cl_qc_11, cl_qc_12, cl_qc_13, cl_qc_14, cl_qc_15, cl_qc_16, cl_qc_17, cl_qc_18, ⟨(hx_num_c nu_qc (by omega)), ⟨sb_ql_qc, ⟨⟨(Or.inl ⟨by decide, by omega, fun hc => by unfold hx_FC at hc; have h1 : (df i2.toNatClampNeg).toInt = 0 := hc.2.2.2.2.1; rw [← cx_33] at h1; omega⟩), (Or.inl ⟨by decide, rfl⟩), (Or.inl ⟨by decide, rfl⟩), (Or.inl ⟨by decide, rfl⟩), (Or.inl ⟨by decide, rfl⟩), (Or.inl ⟨by decide, rfl⟩), (Or.inl ⟨by decide, rfl⟩), (Or.inl ⟨by decide, rfl⟩), ⟨agf, byf, plf, cF, bF, pv9, (Or.inl ⟨by decide, rfl⟩), (Or.inl ⟨by decide, rfl⟩), ⟨hpv9, (Or.inl ⟨by decide, rfl⟩)⟩, (Or.inl ⟨by decide, rfl⟩), (Or.inl ⟨by decide, rfl⟩), hw_DF_e hDF rfl (by omega), hw_DF_e hDP rfl (by omega), hv_AC_e hAC rfl (by omega) rfl, hv_FX_e hFX rfl (by omega), hv_FX_e hBX rfl (by omega), hv_HL_e hHL rfl rfl (by omega)⟩⟩, ⟨(Or.inl ⟨by decide, rfl⟩), (Or.inl ⟨by decide, rfl⟩), (Or.inl ⟨by decide, rfl⟩), (Or.inl ⟨by decide, rfl⟩), (Or.inl ⟨by decide, rfl⟩), (Or.inl ⟨by decide, rfl⟩)⟩⟩⟩⟩⟩, hT, hM, pf_x_11⟩ dX9_file_82
              · skip
                replace hr_45 := hr_45.resolve_left (fun z9 => c_46 z9.1)
                replace c_46 := hr_45.1
                replace hr_45 := hr_45.2
                refine lv_iload hx hb dX9_file_70 (lv_at hl 8 rfl) ?_
                refine lv_iconst (v := 0) hx hb dX9_file_72 (by decide) ?_
                refine lv_bipush (v := 9) hx hb dX9_file_73 (by decide) ?_
                have hTo := hT
                have zc_9 : (9 : Int32).toInt = 9 := by decide
                refine hx_goi (hx_runS (As := [.int i6, .int (0 : Int32), .int (9 : Int32)]) (rest := []) ⟨hx, hb, hml, hown, hts⟩ hW (t_X9_isWithin_2 l dC dI dA L_41 h_42 H.size i6 (0 : Int32) (9 : Int32) hT) (va_cwS 3 hts (hx_gS kw_434 kw_432 kw_433 kw_94) rfl rfl rfl (by decide +kernel) ⟨Nat.le_of_ble_eq_true rfl, Nat.le_of_ble_eq_true rfl⟩) rfl hl.1 rfl (Nat.le_of_ble_eq_true rfl) dX9_file_75 ⟨Nat.le_of_ble_eq_true rfl, Nat.le_of_ble_eq_true rfl⟩) hW (fun r_49 L_47 h_48 H locs p_50 hW => ?_)
                obtain ⟨hr_51, hT, hs⟩ := p_50
                replace hT : hx_T T_tb L_47 h_48 := hT
                replace hs : hx_S T_tb [] L_41 h_42 L_47 h_48 := hs
                replace f_x_7 := (hs.o gx trivial rfl).2.trans f_x_7
                replace f_x_10 := (hs.o gx trivial rfl).2.trans f_x_10
                replace f_x_5 := (hs.o gx trivial rfl).2.trans f_x_5
                replace f_x_4 := (hs.o gx trivial rfl).2.trans f_x_4
                replace f_x_19 := (hs.o gx trivial rfl).2.trans f_x_19
                replace f_x_12 := (hs.o gx trivial rfl).2.trans f_x_12
                replace f_x_11 := (hs.o gx trivial rfl).1.trans f_x_11
                replace f_x_8 := (hs.o gx trivial rfl).1.trans f_x_8
                replace f_x_2 := (hs.o gx trivial rfl).1.trans f_x_2
                replace f_x_6 := (hs.o gx trivial rfl).1.trans f_x_6
                replace f_x_13 := (hs.o gx trivial rfl).1.trans f_x_13
                replace fx_33 := (hs.o gq_26 trivial rfl).1.trans fx_33
                replace pf_x_8 : ∀ j : Nat, (j : Int) < (h_48.2.1 x 8).toInt → h_48.2.2 qp j ≠ none := by
                  intro j hj; rw [(hs.o gx trivial rfl).1] at hj; rw [(hs.a gqp rfl j).2]; exact pf_x_8 j hj
                replace pf_x_11 : ∀ j : Nat, (j : Int) < (h_48.2.1 x 11).toInt → h_48.2.2 qc j ≠ none := by
                  intro j hj; rw [(hs.o gx trivial rfl).1] at hj; rw [(hs.a gqc rfl j).2]; exact pf_x_11 j hj
                replace pf_x_6 : ∀ j : Nat, (j : Int) < (h_48.2.1 x 6).toInt → h_48.2.2 qa j ≠ none := by
                  intro j hj; rw [(hs.o gx trivial rfl).1] at hj; rw [(hs.a gqa rfl j).2]; exact pf_x_6 j hj
                replace cl_qp_7 : hx_col 40 h_48 qp 7 = df := (hx_col_S hs hTo gqp tt_44 tt_4 rfl rfl).trans cl_qp_7
                replace cl_qc_10 : hx_col 100 h_48 qc 10 = ff := (hx_col_S hs hTo gqc tt_45 tt_2 rfl rfl).trans cl_qc_10
                replace cl_qc_9 : hx_col 100 h_48 qc 9 = tf := (hx_col_S hs hTo gqc tt_45 tt_2 rfl rfl).trans cl_qc_9
                replace cl_qc_6 : hx_col 100 h_48 qc 6 = smf := (hx_col_S hs hTo gqc tt_45 tt_2 rfl rfl).trans cl_qc_6
                replace cl_qc_7 : hx_col 100 h_48 qc 7 = frf := (hx_col_S hs hTo gqc tt_45 tt_2 rfl rfl).trans cl_qc_7
                replace cl_qc_8 : hx_col 100 h_48 qc 8 = flf := (hx_col_S hs hTo gqc tt_45 tt_2 rfl rfl).trans cl_qc_8
                replace cl_qc_11 : hx_col 100 h_48 qc 11 = hrf := (hx_col_S hs hTo gqc tt_45 tt_2 rfl rfl).trans cl_qc_11
                replace cl_qc_12 : hx_col 100 h_48 qc 12 = udf := (hx_col_S hs hTo gqc tt_45 tt_2 rfl rfl).trans cl_qc_12
                replace cl_qc_13 : hx_col 100 h_48 qc 13 = odf := (hx_col_S hs hTo gqc tt_45 tt_2 rfl rfl).trans cl_qc_13
                replace cl_qc_14 : hx_col 100 h_48 qc 14 = wkf := (hx_col_S hs hTo gqc tt_45 tt_2 rfl rfl).trans cl_qc_14
                replace cl_qc_15 : hx_col 100 h_48 qc 15 = owf := (hx_col_S hs hTo gqc tt_45 tt_2 rfl rfl).trans cl_qc_15
                replace cl_qc_16 : hx_col 100 h_48 qc 16 = szf := (hx_col_S hs hTo gqc tt_45 tt_2 rfl rfl).trans cl_qc_16
                replace cl_qc_17 : hx_col 100 h_48 qc 17 = gdf := (hx_col_S hs hTo gqc tt_45 tt_2 rfl rfl).trans cl_qc_17
                replace cl_qc_18 : hx_col 100 h_48 qc 18 = svf := (hx_col_S hs hTo gqc tt_45 tt_2 rfl rfl).trans cl_qc_18
                replace nu_qc : hx_num 100 h_48 qc 0 (cn0.toInt) := hx_num_S hs hTo gqc tt_45 tt_2 rfl rfl nu_qc
                replace sb_ql_qc : hx_LQ 8 100 h_48 ql qc := hx_LQ_S hs (gql.S hM) gqc rfl rfl sb_ql_qc
                replace hDF : hw_DF h_48 qc qp 2 agf cn0.toInt := hw_DF_S hs hTo gqc gqp tt_45 tt_2 rfl rfl rfl hDF
                replace hDP : hw_DF h_48 qc qp 1 byf cn0.toInt := hw_DF_S hs hTo gqc gqp tt_45 tt_2 rfl rfl rfl hDP
                replace hRA : hv_RA h_48 qa w a0.toInt A := hv_RA_S hs hTo gqa gw tt_43 tt_0 rfl rfl rfl rfl rfl rfl (by omega) hRA
                replace hAC : hv_AC h_48 qc plf cn0.toInt A := hv_AC_S hs hTo gqc tt_45 tt_2 rfl tt_0 rfl rfl rfl rfl rfl rfl rfl hAC
                replace hFX : hv_FX 8 4 h_48 qc cF cn0.toInt := hv_FX_S hs hTo gqc tt_45 tt_2 rfl rfl rfl rfl hFX
                replace hBX : hv_FX 3 5 h_48 qc bF cn0.toInt := hv_FX_S hs hTo gqc tt_45 tt_2 rfl rfl rfl rfl hBX
                replace hHL : hv_HL h_48 qh qc hof m0.toInt cn0.toInt := hv_HL_S hs gqh gqc rfl rfl hHL
                replace fo_20 := (hs.a gqp rfl _).2.trans fo_20
                replace fo_30 := (hs.a gqp rfl _).2.trans fo_30
                replace hM := hM.tr (hs.mono (by decide))
                replace gx := gx.S hs
                replace gqp := gqp.S hs
                replace gqc := gqc.S hs
                replace gqa := gqa.S hs
                replace gw := gw.S hs
                replace gqh := gqh.S hs
                replace gq_6 := gq_6.S hs
                replace gq_26 := gq_26.S hs
                refine hb_if_ne (zx := r_49.toInt) (tgt := 83) hx hb rfl dX9_file_78 (by decide) (fun c_52 => ?_) (fun c_52 => ?_)
                · skip
                  replace hr_51 := hr_51.resolve_left (fun z9 => c_52 z9.1)
                  replace c_52 := hr_51.1
                  replace hr_51 := hr_51.2
                  have hTo := hT
                  refine hk_new hx hb hts hC_2 hown hW 118 tt_118 rfl (by decide) kw_223 kw_716 kw_110 (Nat.le_of_ble_eq_true rfl) (Nat.le_of_ble_eq_true rfl) dX9_file_83 (fun q_54 H h_53 eh_53 hqq_54 hW hs gq_54 => ?_)
                  have nq_q_54 : ∀ a ∈ L, a ≠ q_54 := fun a ha z => hqq_54 (z ▸ (hM.1 a ha).1)
                  have hT : hx_T T_tb (L_47 ++ [q_54]) h_53 := by rw [eh_53]; exact hx_T_nw hT hqq_54 tt_118 rfl
                  replace f_x_7 := (hs.o gx trivial rfl).2.trans f_x_7
                  replace f_x_10 := (hs.o gx trivial rfl).2.trans f_x_10
                  replace f_x_5 := (hs.o gx trivial rfl).2.trans f_x_5
                  replace f_x_4 := (hs.o gx trivial rfl).2.trans f_x_4
                  replace f_x_19 := (hs.o gx trivial rfl).2.trans f_x_19
                  replace f_x_12 := (hs.o gx trivial rfl).2.trans f_x_12
                  replace f_x_11 := (hs.o gx trivial rfl).1.trans f_x_11
                  replace f_x_8 := (hs.o gx trivial rfl).1.trans f_x_8
                  replace f_x_2 := (hs.o gx trivial rfl).1.trans f_x_2
                  replace f_x_6 := (hs.o gx trivial rfl).1.trans f_x_6
                  replace f_x_13 := (hs.o gx trivial rfl).1.trans f_x_13
                  replace fx_33 := (hs.o gq_26 trivial rfl).1.trans fx_33
                  replace pf_x_8 : ∀ j : Nat, (j : Int) < (h_53.2.1 x 8).toInt → h_53.2.2 qp j ≠ none := by
                    intro j hj; rw [(hs.o gx trivial rfl).1] at hj; rw [(hs.a gqp rfl j).2]; exact pf_x_8 j hj
                  replace pf_x_11 : ∀ j : Nat, (j : Int) < (h_53.2.1 x 11).toInt → h_53.2.2 qc j ≠ none := by
                    intro j hj; rw [(hs.o gx trivial rfl).1] at hj; rw [(hs.a gqc rfl j).2]; exact pf_x_11 j hj
                  replace pf_x_6 : ∀ j : Nat, (j : Int) < (h_53.2.1 x 6).toInt → h_53.2.2 qa j ≠ none := by
                    intro j hj; rw [(hs.o gx trivial rfl).1] at hj; rw [(hs.a gqa rfl j).2]; exact pf_x_6 j hj
                  replace cl_qp_7 : hx_col 40 h_53 qp 7 = df := (hx_col_S hs hTo gqp tt_44 tt_4 rfl rfl).trans cl_qp_7
                  replace cl_qc_10 : hx_col 100 h_53 qc 10 = ff := (hx_col_S hs hTo gqc tt_45 tt_2 rfl rfl).trans cl_qc_10
                  replace cl_qc_9 : hx_col 100 h_53 qc 9 = tf := (hx_col_S hs hTo gqc tt_45 tt_2 rfl rfl).trans cl_qc_9
                  replace cl_qc_6 : hx_col 100 h_53 qc 6 = smf := (hx_col_S hs hTo gqc tt_45 tt_2 rfl rfl).trans cl_qc_6
                  replace cl_qc_7 : hx_col 100 h_53 qc 7 = frf := (hx_col_S hs hTo gqc tt_45 tt_2 rfl rfl).trans cl_qc_7
                  replace cl_qc_8 : hx_col 100 h_53 qc 8 = flf := (hx_col_S hs hTo gqc tt_45 tt_2 rfl rfl).trans cl_qc_8
                  replace cl_qc_11 : hx_col 100 h_53 qc 11 = hrf := (hx_col_S hs hTo gqc tt_45 tt_2 rfl rfl).trans cl_qc_11
                  replace cl_qc_12 : hx_col 100 h_53 qc 12 = udf := (hx_col_S hs hTo gqc tt_45 tt_2 rfl rfl).trans cl_qc_12
                  replace cl_qc_13 : hx_col 100 h_53 qc 13 = odf := (hx_col_S hs hTo gqc tt_45 tt_2 rfl rfl).trans cl_qc_13
                  replace cl_qc_14 : hx_col 100 h_53 qc 14 = wkf := (hx_col_S hs hTo gqc tt_45 tt_2 rfl rfl).trans cl_qc_14
                  replace cl_qc_15 : hx_col 100 h_53 qc 15 = owf := (hx_col_S hs hTo gqc tt_45 tt_2 rfl rfl).trans cl_qc_15
                  replace cl_qc_16 : hx_col 100 h_53 qc 16 = szf := (hx_col_S hs hTo gqc tt_45 tt_2 rfl rfl).trans cl_qc_16
                  replace cl_qc_17 : hx_col 100 h_53 qc 17 = gdf := (hx_col_S hs hTo gqc tt_45 tt_2 rfl rfl).trans cl_qc_17
                  replace cl_qc_18 : hx_col 100 h_53 qc 18 = svf := (hx_col_S hs hTo gqc tt_45 tt_2 rfl rfl).trans cl_qc_18
                  replace nu_qc : hx_num 100 h_53 qc 0 (cn0.toInt) := hx_num_S hs hTo gqc tt_45 tt_2 rfl rfl nu_qc
                  replace sb_ql_qc : hx_LQ 8 100 h_53 ql qc := hx_LQ_S hs (gql.S hM) gqc rfl rfl sb_ql_qc
                  replace hDF : hw_DF h_53 qc qp 2 agf cn0.toInt := hw_DF_S hs hTo gqc gqp tt_45 tt_2 rfl rfl rfl hDF
                  replace hDP : hw_DF h_53 qc qp 1 byf cn0.toInt := hw_DF_S hs hTo gqc gqp tt_45 tt_2 rfl rfl rfl hDP
                  replace hRA : hv_RA h_53 qa w a0.toInt A := hv_RA_S hs hTo gqa gw tt_43 tt_0 rfl rfl rfl rfl rfl rfl (by omega) hRA
                  replace hAC : hv_AC h_53 qc plf cn0.toInt A := hv_AC_S hs hTo gqc tt_45 tt_2 rfl tt_0 rfl rfl rfl rfl rfl rfl rfl hAC
                  replace hFX : hv_FX 8 4 h_53 qc cF cn0.toInt := hv_FX_S hs hTo gqc tt_45 tt_2 rfl rfl rfl rfl hFX
                  replace hBX : hv_FX 3 5 h_53 qc bF cn0.toInt := hv_FX_S hs hTo gqc tt_45 tt_2 rfl rfl rfl rfl hBX
                  replace hHL : hv_HL h_53 qh qc hof m0.toInt cn0.toInt := hv_HL_S hs gqh gqc rfl rfl hHL
                  replace fo_20 := (hs.a gqp rfl _).2.trans fo_20
                  replace fo_30 := (hs.a gqp rfl _).2.trans fo_30
                  replace hM := hM.tr (hs.mono (by decide))
                  replace gx := gx.S hs
                  replace gqp := gqp.S hs
                  replace gqc := gqc.S hs
                  replace gqa := gqa.S hs
                  replace gw := gw.S hs
                  replace gqh := gqh.S hs
                  replace gq_6 := gq_6.S hs
                  replace gq_26 := gq_26.S hs
                  have fz_55 : ∀ j, ([] : List Nat).contains j = false → h_53.2.1 q_54 j = 0 ∧ h_53.2.2 q_54 j = none := by rw [eh_53]; exact fun _ _ => ⟨hx_nw_i, hx_nw_r⟩
                  refine lv_dup hx hb dX9_file_86 rfl ?_
                  refine lv_aload_n hx hb dX9_file_87 rfl (lv_at hl 2 rfl) ?_
                  refine hk_geti hx hb hts hC_9 hown hW gx tt_9 11 (by decide) rfl kw_375 ⟨rfl, rfl, rfl⟩ f_x_11 dX9_file_88 ?_
                  refine lv_aload hx hb dX9_file_91 (lv_at hl 1 rfl) ?_
                  refine lv_aload hx hb dX9_file_93 (lv_at hl 0 rfl) ?_
                  refine lv_aload_n hx hb dX9_file_95 rfl (lv_at hl 2 rfl) ?_
                  refine lv_aload_n hx hb dX9_file_96 rfl (lv_at hl 2 rfl) ?_
                  refine hk_geti hx hb hts hC_9 hown hW gx tt_9 2 (by decide) rfl kw_366 ⟨rfl, rfl, rfl⟩ f_x_2 dX9_file_97 ?_
                  have hTo := hT
                  refine hx_goq (hx_runV (As := [.int nw0]) (rest := [.ref q_26, .ref q_6, .int cn0, .ref q_54, .ref q_54]) ⟨hx, hb, hml, hown, hts⟩ hW gx tt_9 (T := TX9) (N := 20) rfl (t_X9_inForce_v l dC dI dA (L_47 ++ [q_54]) h_53 H.size x nw0 hT gx qa gqa f_x_5 w gw f_x_4 a0 f_x_6 A hRA pf_x_6) (cwV 1 hts (hx_gV kw_597 kw_594 kw_596 kw_19 kw_94) rfl rfl rfl (by decide +kernel) ⟨Nat.le_of_ble_eq_true rfl, Nat.le_of_ble_eq_true rfl⟩) rfl hl.1 rfl (Nat.le_of_ble_eq_true rfl) dX9_file_100 ⟨Nat.le_of_ble_eq_true rfl, Nat.le_of_ble_eq_true rfl⟩) hW (fun r_58 L_56 h_57 H locs p_59 hW => ?_)
                  obtain ⟨hr_60, hT, hs⟩ := p_59
                  replace hT : hx_T T_tb L_56 h_57 := hT
                  replace hs : hx_S T_tb [] (L_47 ++ [q_54]) h_53 L_56 h_57 := hs
                  replace f_x_7 := (hs.o gx trivial rfl).2.trans f_x_7
                  replace f_x_10 := (hs.o gx trivial rfl).2.trans f_x_10
                  replace f_x_5 := (hs.o gx trivial rfl).2.trans f_x_5
                  replace f_x_4 := (hs.o gx trivial rfl).2.trans f_x_4
                  replace f_x_19 := (hs.o gx trivial rfl).2.trans f_x_19
                  replace f_x_12 := (hs.o gx trivial rfl).2.trans f_x_12
                  replace f_x_11 := (hs.o gx trivial rfl).1.trans f_x_11
                  replace f_x_8 := (hs.o gx trivial rfl).1.trans f_x_8
                  replace f_x_2 := (hs.o gx trivial rfl).1.trans f_x_2
                  replace f_x_6 := (hs.o gx trivial rfl).1.trans f_x_6
                  replace f_x_13 := (hs.o gx trivial rfl).1.trans f_x_13
                  replace fx_33 := (hs.o gq_26 trivial rfl).1.trans fx_33
                  replace pf_x_8 : ∀ j : Nat, (j : Int) < (h_57.2.1 x 8).toInt → h_57.2.2 qp j ≠ none := by
                    intro j hj; rw [(hs.o gx trivial rfl).1] at hj; rw [(hs.a gqp rfl j).2]; exact pf_x_8 j hj
                  replace pf_x_11 : ∀ j : Nat, (j : Int) < (h_57.2.1 x 11).toInt → h_57.2.2 qc j ≠ none := by
                    intro j hj; rw [(hs.o gx trivial rfl).1] at hj; rw [(hs.a gqc rfl j).2]; exact pf_x_11 j hj
                  replace pf_x_6 : ∀ j : Nat, (j : Int) < (h_57.2.1 x 6).toInt → h_57.2.2 qa j ≠ none := by
                    intro j hj; rw [(hs.o gx trivial rfl).1] at hj; rw [(hs.a gqa rfl j).2]; exact pf_x_6 j hj
                  replace fz_55 := hx_zr [] fz_55 hs gq_54 trivial rfl
                  replace cl_qp_7 : hx_col 40 h_57 qp 7 = df := (hx_col_S hs hTo gqp tt_44 tt_4 rfl rfl).trans cl_qp_7
                  replace cl_qc_10 : hx_col 100 h_57 qc 10 = ff := (hx_col_S hs hTo gqc tt_45 tt_2 rfl rfl).trans cl_qc_10
                  replace cl_qc_9 : hx_col 100 h_57 qc 9 = tf := (hx_col_S hs hTo gqc tt_45 tt_2 rfl rfl).trans cl_qc_9
                  replace cl_qc_6 : hx_col 100 h_57 qc 6 = smf := (hx_col_S hs hTo gqc tt_45 tt_2 rfl rfl).trans cl_qc_6
                  replace cl_qc_7 : hx_col 100 h_57 qc 7 = frf := (hx_col_S hs hTo gqc tt_45 tt_2 rfl rfl).trans cl_qc_7
                  replace cl_qc_8 : hx_col 100 h_57 qc 8 = flf := (hx_col_S hs hTo gqc tt_45 tt_2 rfl rfl).trans cl_qc_8
                  replace cl_qc_11 : hx_col 100 h_57 qc 11 = hrf := (hx_col_S hs hTo gqc tt_45 tt_2 rfl rfl).trans cl_qc_11
                  replace cl_qc_12 : hx_col 100 h_57 qc 12 = udf := (hx_col_S hs hTo gqc tt_45 tt_2 rfl rfl).trans cl_qc_12
                  replace cl_qc_13 : hx_col 100 h_57 qc 13 = odf := (hx_col_S hs hTo gqc tt_45 tt_2 rfl rfl).trans cl_qc_13
                  replace cl_qc_14 : hx_col 100 h_57 qc 14 = wkf := (hx_col_S hs hTo gqc tt_45 tt_2 rfl rfl).trans cl_qc_14
                  replace cl_qc_15 : hx_col 100 h_57 qc 15 = owf := (hx_col_S hs hTo gqc tt_45 tt_2 rfl rfl).trans cl_qc_15
                  replace cl_qc_16 : hx_col 100 h_57 qc 16 = szf := (hx_col_S hs hTo gqc tt_45 tt_2 rfl rfl).trans cl_qc_16
                  replace cl_qc_17 : hx_col 100 h_57 qc 17 = gdf := (hx_col_S hs hTo gqc tt_45 tt_2 rfl rfl).trans cl_qc_17
                  replace cl_qc_18 : hx_col 100 h_57 qc 18 = svf := (hx_col_S hs hTo gqc tt_45 tt_2 rfl rfl).trans cl_qc_18
                  replace nu_qc : hx_num 100 h_57 qc 0 (cn0.toInt) := hx_num_S hs hTo gqc tt_45 tt_2 rfl rfl nu_qc
                  replace sb_ql_qc : hx_LQ 8 100 h_57 ql qc := hx_LQ_S hs (gql.S hM) gqc rfl rfl sb_ql_qc
                  replace hDF : hw_DF h_57 qc qp 2 agf cn0.toInt := hw_DF_S hs hTo gqc gqp tt_45 tt_2 rfl rfl rfl hDF
                  replace hDP : hw_DF h_57 qc qp 1 byf cn0.toInt := hw_DF_S hs hTo gqc gqp tt_45 tt_2 rfl rfl rfl hDP
                  replace hRA : hv_RA h_57 qa w a0.toInt A := hv_RA_S hs hTo gqa gw tt_43 tt_0 rfl rfl rfl rfl rfl rfl (by omega) hRA
                  replace hAC : hv_AC h_57 qc plf cn0.toInt A := hv_AC_S hs hTo gqc tt_45 tt_2 rfl tt_0 rfl rfl rfl rfl rfl rfl rfl hAC
                  replace hFX : hv_FX 8 4 h_57 qc cF cn0.toInt := hv_FX_S hs hTo gqc tt_45 tt_2 rfl rfl rfl rfl hFX
                  replace hBX : hv_FX 3 5 h_57 qc bF cn0.toInt := hv_FX_S hs hTo gqc tt_45 tt_2 rfl rfl rfl rfl hBX
                  replace hHL : hv_HL h_57 qh qc hof m0.toInt cn0.toInt := hv_HL_S hs gqh gqc rfl rfl hHL
                  replace fo_20 := (hs.a gqp rfl _).2.trans fo_20
                  replace fo_30 := (hs.a gqp rfl _).2.trans fo_30
                  replace hM := hM.tr (hs.mono (by decide))
                  replace gx := gx.S hs
                  replace gqp := gqp.S hs
                  replace gqc := gqc.S hs
                  replace gqa := gqa.S hs
                  replace gw := gw.S hs
                  replace gqh := gqh.S hs
                  replace gq_6 := gq_6.S hs
                  replace gq_26 := gq_26.S hs
                  replace gq_54 := gq_54.S hs
                  obtain ⟨q_61, rfl, gq_61, hr_60B⟩ := hr_60
                  have gq_61 : hx_g L_56 h_57 q_61 0 := gq_61
                  obtain ⟨kk_62, kk_62E, kk_62Q⟩ := hr_60B
                  have kk_62Q : hv_AQ h_57 q_61 (((kk_62 : Nat) : Int) - 1) (A kk_62) := kk_62Q
                  have hTo := hT
                  refine hx_gov (hx_runI (As := [.int cn0, .ref q_6, .ref q_26, .ref q_61]) (rest := [.ref q_54]) ⟨hx, hb, hml, hown, hts⟩ hW (t_X2_init_v l dC dI dA L_56 h_57 H.size q_54 cn0 q_6 q_26 q_61 hT gq_54 gq_6 gq_26 gq_61 (fun j => fz_55 j rfl) ⟨by omega, by omega⟩) (cwI 4 hts (hx_gC kw_719) rfl rfl rfl (hts _ kw_110) (hts _ kw_717) (hts _ kw_718) rfl (by decide +kernel) ⟨Nat.le_of_ble_eq_true rfl, Nat.le_of_ble_eq_true rfl⟩) rfl hl.1 rfl (Nat.le_of_ble_eq_true rfl) dX9_file_103 ⟨Nat.le_of_ble_eq_true rfl, Nat.le_of_ble_eq_true rfl⟩) hW (fun L_63 h_64 H locs p_66 hW => ?_)
                  have hTo := hT
                  obtain ⟨hT, hs, gNq_54, po_67, po_68, po_69, po_70, po_71, po_72, po_73, po_74, po_75, po_76, po_77, po_78, po_79, po_80, po_81, po_82⟩ := p_66
                  replace hT : hx_T T_tb L_63 h_64 := hT
                  replace hs : hx_S T_tb [(118, 0), (118, 1), (118, 2), (118, 3), (118, 4), (118, 5), (118, 10), (118, 11), (118, 13), (118, 16), (118, 18)] (hx_X L_56 q_54) h_57 L_63 h_64 := hs
                  have gx := hx_gX gx (gx.ne gq_54 (by decide))
                  have gqp := hx_gX gqp (gqp.ne gq_54 (by decide))
                  have gqc := hx_gX gqc (gqc.ne gq_54 (by decide))
                  have gqa := hx_gX gqa (gqa.ne gq_54 (by decide))
                  have gw := hx_gX gw (gw.ne gq_54 (by decide))
                  have gqh := hx_gX gqh (gqh.ne gq_54 (by decide))
                  have gq_6 := hx_gX gq_6 (gq_6.ne gq_54 (by decide))
                  have gq_26 := hx_gX gq_26 (gq_26.ne gq_54 (by decide))
                  have gq_61 := hx_gX gq_61 (gq_61.ne gq_54 (by decide))
                  have gcX9 := gqc
                  have gxO9 := gq_54
                  replace f_x_7 := (hs.o gx trivial rfl).2.trans f_x_7
                  replace f_x_10 := (hs.o gx trivial rfl).2.trans f_x_10
                  replace f_x_5 := (hs.o gx trivial rfl).2.trans f_x_5
                  replace f_x_4 := (hs.o gx trivial rfl).2.trans f_x_4
                  replace f_x_19 := (hs.o gx trivial rfl).2.trans f_x_19
                  replace f_x_12 := (hs.o gx trivial rfl).2.trans f_x_12
                  replace f_x_11 := (hs.o gx trivial rfl).1.trans f_x_11
                  replace f_x_8 := (hs.o gx trivial rfl).1.trans f_x_8
                  replace f_x_2 := (hs.o gx trivial rfl).1.trans f_x_2
                  replace f_x_6 := (hs.o gx trivial rfl).1.trans f_x_6
                  replace f_x_13 := (hs.o gx trivial rfl).1.trans f_x_13
                  replace fx_33 := (hs.o gq_26 trivial rfl).1.trans fx_33
                  replace pf_x_8 : ∀ j : Nat, (j : Int) < (h_64.2.1 x 8).toInt → h_64.2.2 qp j ≠ none := by
                    intro j hj; rw [(hs.o gx trivial rfl).1] at hj; rw [(hs.a gqp rfl j).2]; exact pf_x_8 j hj
                  replace pf_x_11 : ∀ j : Nat, (j : Int) < (h_64.2.1 x 11).toInt → h_64.2.2 qc j ≠ none := by
                    intro j hj; rw [(hs.o gx trivial rfl).1] at hj; rw [(hs.a gqc rfl j).2]; exact pf_x_11 j hj
                  replace pf_x_6 : ∀ j : Nat, (j : Int) < (h_64.2.1 x 6).toInt → h_64.2.2 qa j ≠ none := by
                    intro j hj; rw [(hs.o gx trivial rfl).1] at hj; rw [(hs.a gqa rfl j).2]; exact pf_x_6 j hj
                  replace cl_qp_7 : hx_col 40 h_64 qp 7 = df := (hx_col_X hs hTo gqp gq_54 tt_44 tt_4 rfl rfl (by decide)).trans cl_qp_7
                  replace cl_qc_10 : hx_col 100 h_64 qc 10 = ff := (hx_col_X hs hTo gqc gq_54 tt_45 tt_2 rfl rfl (by decide)).trans cl_qc_10
                  replace cl_qc_9 : hx_col 100 h_64 qc 9 = tf := (hx_col_X hs hTo gqc gq_54 tt_45 tt_2 rfl rfl (by decide)).trans cl_qc_9
                  replace cl_qc_6 : hx_col 100 h_64 qc 6 = smf := (hx_col_X hs hTo gqc gq_54 tt_45 tt_2 rfl rfl (by decide)).trans cl_qc_6
                  replace cl_qc_7 : hx_col 100 h_64 qc 7 = frf := (hx_col_X hs hTo gqc gq_54 tt_45 tt_2 rfl rfl (by decide)).trans cl_qc_7
                  replace cl_qc_8 : hx_col 100 h_64 qc 8 = flf := (hx_col_X hs hTo gqc gq_54 tt_45 tt_2 rfl rfl (by decide)).trans cl_qc_8
                  replace cl_qc_11 : hx_col 100 h_64 qc 11 = hrf := (hx_col_X hs hTo gqc gq_54 tt_45 tt_2 rfl rfl (by decide)).trans cl_qc_11
                  replace cl_qc_12 : hx_col 100 h_64 qc 12 = udf := (hx_col_X hs hTo gqc gq_54 tt_45 tt_2 rfl rfl (by decide)).trans cl_qc_12
                  replace cl_qc_13 : hx_col 100 h_64 qc 13 = odf := (hx_col_X hs hTo gqc gq_54 tt_45 tt_2 rfl rfl (by decide)).trans cl_qc_13
                  replace cl_qc_14 : hx_col 100 h_64 qc 14 = wkf := (hx_col_X hs hTo gqc gq_54 tt_45 tt_2 rfl rfl (by decide)).trans cl_qc_14
                  replace cl_qc_15 : hx_col 100 h_64 qc 15 = owf := (hx_col_X hs hTo gqc gq_54 tt_45 tt_2 rfl rfl (by decide)).trans cl_qc_15
                  replace cl_qc_16 : hx_col 100 h_64 qc 16 = szf := (hx_col_X hs hTo gqc gq_54 tt_45 tt_2 rfl rfl (by decide)).trans cl_qc_16
                  replace cl_qc_17 : hx_col 100 h_64 qc 17 = gdf := (hx_col_X hs hTo gqc gq_54 tt_45 tt_2 rfl rfl (by decide)).trans cl_qc_17
                  replace cl_qc_18 : hx_col 100 h_64 qc 18 = svf := (hx_col_X hs hTo gqc gq_54 tt_45 tt_2 rfl rfl (by decide)).trans cl_qc_18
                  replace nu_qc : hx_num 100 h_64 qc 0 (cn0.toInt) := hx_num_X hs hTo gqc gq_54 tt_45 tt_2 rfl rfl (by decide) nu_qc
                  replace sb_ql_qc : hx_LQ 8 100 h_64 ql qc := hx_LQ_S hs (hx_gX (gql.S hM) ((gql.S hM).ne gq_54 (by decide))) gqc rfl rfl sb_ql_qc
                  replace hDF : hw_DF h_64 qc qp 2 agf cn0.toInt := hw_DF_X hs hTo gqc gqp gq_54 tt_45 tt_2 rfl rfl rfl (by decide) hDF
                  replace hDP : hw_DF h_64 qc qp 1 byf cn0.toInt := hw_DF_X hs hTo gqc gqp gq_54 tt_45 tt_2 rfl rfl rfl (by decide) hDP
                  replace hRA : hv_RA h_64 qa w a0.toInt A := hv_RA_X hs hTo gqa gw gq_54 tt_43 tt_0 rfl rfl rfl rfl rfl rfl (by decide) (by omega) hRA
                  replace hAC : hv_AC h_64 qc plf cn0.toInt A := hv_AC_X hs hTo gqc gq_54 tt_45 tt_2 rfl tt_0 rfl rfl rfl rfl rfl rfl rfl (by decide) (by decide) hAC
                  replace hFX : hv_FX 8 4 h_64 qc cF cn0.toInt := hv_FX_X hs hTo gqc gq_54 tt_45 tt_2 rfl rfl rfl rfl (by decide) hFX
                  replace hBX : hv_FX 3 5 h_64 qc bF cn0.toInt := hv_FX_X hs hTo gqc gq_54 tt_45 tt_2 rfl rfl rfl rfl (by decide) hBX
                  replace hHL : hv_HL h_64 qh qc hof m0.toInt cn0.toInt := hv_HL_X hs gqh gqc rfl rfl hHL
                  replace kk_62Q : hv_AQ h_64 q_61 (((kk_62 : Nat) : Int) - 1) (A kk_62) := hv_AQ_X hs hTo gq_61 gq_54 tt_0 rfl rfl rfl rfl rfl (by decide) kk_62Q
                  replace fo_20 := (hs.a gqp rfl _).2.trans fo_20
                  replace fo_30 := (hs.a gqp rfl _).2.trans fo_30
                  replace hM := hM.trX (hs.mono (by decide)) nq_q_54
                  replace gx := gx.S hs
                  replace gqp := gqp.S hs
                  replace gqc := gqc.S hs
                  replace gqa := gqa.S hs
                  replace gw := gw.S hs
                  replace gqh := gqh.S hs
                  replace gq_6 := gq_6.S hs
                  replace gq_26 := gq_26.S hs
                  replace gq_61 := gq_61.S hs
                  have gq_54 : hx_g L_63 h_64 q_54 2 := gNq_54
                  have po_67 : h_64.2.1 q_54 0 = cn0 := po_67
                  have po_68 : h_64.2.1 q_54 10 = -1 := po_68
                  have po_69 : h_64.2.1 q_54 11 = -1 := po_69
                  have po_70 : h_64.2.1 q_54 9 = 0 := po_70
                  have po_71 : h_64.2.1 q_54 12 = 0 := po_71
                  have po_72 : h_64.2.1 q_54 13 = -1 := po_72
                  have po_73 : h_64.2.1 q_54 16 = -1 := po_73
                  have po_74 : h_64.2.1 q_54 18 = -1 := po_74
                  have po_75 : h_64.2.1 q_54 14 = 0 := po_75
                  have po_76 : h_64.2.1 q_54 15 = 0 := po_76
                  have po_77 : h_64.2.1 q_54 17 = 0 := po_77
                  have po_78 : h_64.2.2 q_54 1 = some q_6 := po_78
                  have po_79 : h_64.2.2 q_54 2 = some q_26 := po_79
                  have po_80 : h_64.2.2 q_54 3 = some q_61 := po_80
                  obtain ⟨q_83, fq_83, gq_83, po_81⟩ := po_81
                  have fq_83 : h_64.2.2 q_54 4 = some q_83 := fq_83
                  have gq_83 : hx_g L_63 h_64 q_83 20 := gq_83
                  obtain ⟨po_81, po_81N⟩ := po_81
                  have po_81 : True := po_81
                  have po_81N : ∀ a ∈ hx_X L_56 q_54, a ≠ q_83 := po_81N
                  obtain ⟨fw_84, nfw_84⟩ : ∃ g : Nat → Int32, h_64.2.1 q_83 = g := ⟨_, rfl⟩
                  have hNF4 : hv_NF 4 h_64 qc q_83 cn0.toInt := hv_NF_i hs hTo gcX9 gxO9 tt_45 tt_2 rfl rfl rfl (by decide) po_81N
                  obtain ⟨q_85, fq_85, gq_85, po_82⟩ := po_82
                  have fq_85 : h_64.2.2 q_54 5 = some q_85 := fq_85
                  have gq_85 : hx_g L_63 h_64 q_85 21 := gq_85
                  obtain ⟨po_82, po_82N⟩ := po_82
                  have po_82 : (h_64.2.1 q_85 0 = -1 ∧ h_64.2.1 q_85 1 = -1 ∧ h_64.2.1 q_85 2 = -1) := po_82
                  have po_82N : ∀ a ∈ hx_X L_56 q_54, a ≠ q_85 := po_82N
                  obtain ⟨fw_86, nfw_86⟩ : ∃ g : Nat → Int32, h_64.2.1 q_85 = g := ⟨_, rfl⟩
                  rw [nfw_86] at po_82
                  have hNF5 : hv_NF 5 h_64 qc q_85 cn0.toInt := hv_NF_i hs hTo gcX9 gxO9 tt_45 tt_2 rfl rfl rfl (by decide) po_82N
                  refine lv_astore (lv' := [(9, .ref q_54), (8, .ref q_26), (7, .ref q_6), (0, .ref x), (1, .int i1), (2, .int i2), (3, .int i3), (4, .int i4), (5, .int i5), (6, .int i6)]) hx hb dX9_file_106 hl (by decide) rfl (fun ls hl => ?_)
                  refine lv_aload hx hb dX9_file_108 (lv_at hl 0 rfl) ?_
                  refine lv_iload_n hx hb dX9_file_110 rfl (lv_at hl 6 rfl) ?_
                  have hTo := hT
                  have numO9 : (h_64.2.1 q_54 0).toInt = cn0.toInt := by rw [po_67]
                  have noO9 := hw_num_no nu_qc numO9
                  have cl_qc_6O9 := cl_qc_6
                  refine hx_puti hx hb hts hC_2 hown hW hT (hx_S.rf (M := [(2, 6)])) gq_54 tt_2 6 (by decide) rfl kw_741 ⟨rfl, rfl, rfl⟩ rfl (x := i3) ⟨by omega, by omega⟩ rfl rfl rfl (List.mem_singleton.mpr rfl) dX9_file_111 (fun H locs h_87 eh_87 hW hT hs => ?_)
                  replace f_x_7 := (hs.o gx trivial rfl).2.trans f_x_7
                  replace f_x_10 := (hs.o gx trivial rfl).2.trans f_x_10
                  replace f_x_5 := (hs.o gx trivial rfl).2.trans f_x_5
                  replace f_x_4 := (hs.o gx trivial rfl).2.trans f_x_4
                  replace f_x_19 := (hs.o gx trivial rfl).2.trans f_x_19
                  replace f_x_12 := (hs.o gx trivial rfl).2.trans f_x_12
                  replace f_x_11 := (hs.o gx trivial rfl).1.trans f_x_11
                  replace f_x_8 := (hs.o gx trivial rfl).1.trans f_x_8
                  replace f_x_2 := (hs.o gx trivial rfl).1.trans f_x_2
                  replace f_x_6 := (hs.o gx trivial rfl).1.trans f_x_6
                  replace f_x_13 := (hs.o gx trivial rfl).1.trans f_x_13
                  replace fx_33 := (hs.o gq_26 trivial rfl).1.trans fx_33
                  replace po_67 := (hs.o gq_54 trivial rfl).1.trans po_67
                  replace po_68 := (hs.o gq_54 trivial rfl).1.trans po_68
                  replace po_69 := (hs.o gq_54 trivial rfl).1.trans po_69
                  replace po_70 := (hs.o gq_54 trivial rfl).1.trans po_70
                  replace po_71 := (hs.o gq_54 trivial rfl).1.trans po_71
                  replace po_72 := (hs.o gq_54 trivial rfl).1.trans po_72
                  replace po_73 := (hs.o gq_54 trivial rfl).1.trans po_73
                  replace po_74 := (hs.o gq_54 trivial rfl).1.trans po_74
                  replace po_75 := (hs.o gq_54 trivial rfl).1.trans po_75
                  replace po_76 := (hs.o gq_54 trivial rfl).1.trans po_76
                  replace po_77 := (hs.o gq_54 trivial rfl).1.trans po_77
                  replace po_78 := (hs.o gq_54 trivial rfl).2.trans po_78
                  replace po_79 := (hs.o gq_54 trivial rfl).2.trans po_79
                  replace po_80 := (hs.o gq_54 trivial rfl).2.trans po_80
                  replace fq_83 := (hs.o gq_54 trivial rfl).2.trans fq_83
                  replace fq_85 := (hs.o gq_54 trivial rfl).2.trans fq_85
                  replace pf_x_8 : ∀ j : Nat, (j : Int) < (h_87.2.1 x 8).toInt → h_87.2.2 qp j ≠ none := by
                    intro j hj; rw [(hs.o gx trivial rfl).1] at hj; rw [(hs.a gqp rfl j).2]; exact pf_x_8 j hj
                  replace pf_x_11 : ∀ j : Nat, (j : Int) < (h_87.2.1 x 11).toInt → h_87.2.2 qc j ≠ none := by
                    intro j hj; rw [(hs.o gx trivial rfl).1] at hj; rw [(hs.a gqc rfl j).2]; exact pf_x_11 j hj
                  replace pf_x_6 : ∀ j : Nat, (j : Int) < (h_87.2.1 x 6).toInt → h_87.2.2 qa j ≠ none := by
                    intro j hj; rw [(hs.o gx trivial rfl).1] at hj; rw [(hs.a gqa rfl j).2]; exact pf_x_6 j hj
                  replace cl_qp_7 : hx_col 40 h_87 qp 7 = df := (hx_col_S hs hTo gqp tt_44 tt_4 rfl rfl).trans cl_qp_7
                  replace cl_qc_10 : hx_col 100 h_87 qc 10 = ff := (hx_col_S hs hTo gqc tt_45 tt_2 rfl rfl).trans cl_qc_10
                  replace cl_qc_9 : hx_col 100 h_87 qc 9 = tf := (hx_col_S hs hTo gqc tt_45 tt_2 rfl rfl).trans cl_qc_9
                  replace cl_qc_7 : hx_col 100 h_87 qc 7 = frf := (hx_col_S hs hTo gqc tt_45 tt_2 rfl rfl).trans cl_qc_7
                  replace cl_qc_8 : hx_col 100 h_87 qc 8 = flf := (hx_col_S hs hTo gqc tt_45 tt_2 rfl rfl).trans cl_qc_8
                  replace cl_qc_11 : hx_col 100 h_87 qc 11 = hrf := (hx_col_S hs hTo gqc tt_45 tt_2 rfl rfl).trans cl_qc_11
                  replace cl_qc_12 : hx_col 100 h_87 qc 12 = udf := (hx_col_S hs hTo gqc tt_45 tt_2 rfl rfl).trans cl_qc_12
                  replace cl_qc_13 : hx_col 100 h_87 qc 13 = odf := (hx_col_S hs hTo gqc tt_45 tt_2 rfl rfl).trans cl_qc_13
                  replace cl_qc_14 : hx_col 100 h_87 qc 14 = wkf := (hx_col_S hs hTo gqc tt_45 tt_2 rfl rfl).trans cl_qc_14
                  replace cl_qc_15 : hx_col 100 h_87 qc 15 = owf := (hx_col_S hs hTo gqc tt_45 tt_2 rfl rfl).trans cl_qc_15
                  replace cl_qc_16 : hx_col 100 h_87 qc 16 = szf := (hx_col_S hs hTo gqc tt_45 tt_2 rfl rfl).trans cl_qc_16
                  replace cl_qc_17 : hx_col 100 h_87 qc 17 = gdf := (hx_col_S hs hTo gqc tt_45 tt_2 rfl rfl).trans cl_qc_17
                  replace cl_qc_18 : hx_col 100 h_87 qc 18 = svf := (hx_col_S hs hTo gqc tt_45 tt_2 rfl rfl).trans cl_qc_18
                  replace nu_qc : hx_num 100 h_87 qc 0 (cn0.toInt) := hx_num_S hs hTo gqc tt_45 tt_2 rfl rfl nu_qc
                  replace sb_ql_qc : hx_LQ 8 100 h_87 ql qc := hx_LQ_S hs (gql.S hM) gqc rfl rfl sb_ql_qc
                  replace hDF : hw_DF h_87 qc qp 2 agf cn0.toInt := hw_DF_S hs hTo gqc gqp tt_45 tt_2 rfl rfl rfl hDF
                  replace hDP : hw_DF h_87 qc qp 1 byf cn0.toInt := hw_DF_S hs hTo gqc gqp tt_45 tt_2 rfl rfl rfl hDP
                  replace hRA : hv_RA h_87 qa w a0.toInt A := hv_RA_S hs hTo gqa gw tt_43 tt_0 rfl rfl rfl rfl rfl rfl (by omega) hRA
                  replace hAC : hv_AC h_87 qc plf cn0.toInt A := hv_AC_S hs hTo gqc tt_45 tt_2 rfl tt_0 rfl rfl rfl rfl rfl rfl rfl hAC
                  replace hFX : hv_FX 8 4 h_87 qc cF cn0.toInt := hv_FX_S hs hTo gqc tt_45 tt_2 rfl rfl rfl rfl hFX
                  replace hBX : hv_FX 3 5 h_87 qc bF cn0.toInt := hv_FX_S hs hTo gqc tt_45 tt_2 rfl rfl rfl rfl hBX
                  replace hHL : hv_HL h_87 qh qc hof m0.toInt cn0.toInt := hv_HL_S hs gqh gqc rfl rfl hHL
                  replace kk_62Q : hv_AQ h_87 q_61 (((kk_62 : Nat) : Int) - 1) (A kk_62) := hv_AQ_S hs hTo gq_61 tt_0 rfl rfl rfl rfl rfl kk_62Q
                  replace hNF4 : hv_NF 4 h_87 qc q_83 cn0.toInt := hv_NF_S hs hTo gqc tt_45 tt_2 rfl rfl hNF4
                  replace hNF5 : hv_NF 5 h_87 qc q_85 cn0.toInt := hv_NF_S hs hTo gqc tt_45 tt_2 rfl rfl hNF5
                  replace fo_20 := (hs.a gqp rfl _).2.trans fo_20
                  replace fo_30 := (hs.a gqp rfl _).2.trans fo_30
                  replace nfw_84 : h_87.2.1 q_83 = fw_84 := (funext fun j => (hs.a gq_83 rfl j).1).trans nfw_84
                  replace nfw_86 : h_87.2.1 q_85 = fw_86 := (funext fun j => (hs.a gq_85 rfl j).1).trans nfw_86
                  replace hM := hM.tr (hs.mono (by decide))
                  replace gx := gx.S hs
                  replace gqp := gqp.S hs
                  replace gqc := gqc.S hs
                  replace gqa := gqa.S hs
                  replace gw := gw.S hs
                  replace gqh := gqh.S hs
                  replace gq_6 := gq_6.S hs
                  replace gq_26 := gq_26.S hs
                  replace gq_61 := gq_61.S hs
                  replace gq_54 := gq_54.S hs
                  replace gq_83 := gq_83.S hs
                  replace gq_85 := gq_85.S hs
                  have f_88 : h_87.2.1 q_54 6 = i3 := by rw [eh_87]; exact hx_pi_at _ _ _ _
                  have nc_89 : hx_col 100 h_87 qc 6 = smf := hw_col_k (h := h_64) (fun a9 k9 ne => by rw [eh_87]; exact hx_pi_ne _ _ (fun z => ne z.1)) (fun j => (congrArg (fun z : hx_h => z.2.2 qc j) eh_87).trans rfl) noO9 cl_qc_6O9
                  refine lv_aload hx hb dX9_file_114 (lv_at hl 0 rfl) ?_
                  refine lv_iload hx hb dX9_file_116 (lv_at hl 7 rfl) ?_
                  have hTo := hT
                  have numO9 : (h_87.2.1 q_54 0).toInt = cn0.toInt := by rw [po_67]
                  have noO9 := hw_num_no nu_qc numO9
                  have cl_qc_7O9 := cl_qc_7
                  refine hx_puti hx hb hts hC_2 hown hW hT (hx_S.rf (M := [(2, 7)])) gq_54 tt_2 7 (by decide) rfl kw_742 ⟨rfl, rfl, rfl⟩ rfl (x := i4) ⟨by omega, by omega⟩ rfl rfl rfl (List.mem_singleton.mpr rfl) dX9_file_118 (fun H locs h_90 eh_90 hW hT hs => ?_)
                  replace f_x_7 := (hs.o gx trivial rfl).2.trans f_x_7
                  replace f_x_10 := (hs.o gx trivial rfl).2.trans f_x_10
                  replace f_x_5 := (hs.o gx trivial rfl).2.trans f_x_5
                  replace f_x_4 := (hs.o gx trivial rfl).2.trans f_x_4
                  replace f_x_19 := (hs.o gx trivial rfl).2.trans f_x_19
                  replace f_x_12 := (hs.o gx trivial rfl).2.trans f_x_12
                  replace f_x_11 := (hs.o gx trivial rfl).1.trans f_x_11
                  replace f_x_8 := (hs.o gx trivial rfl).1.trans f_x_8
                  replace f_x_2 := (hs.o gx trivial rfl).1.trans f_x_2
                  replace f_x_6 := (hs.o gx trivial rfl).1.trans f_x_6
                  replace f_x_13 := (hs.o gx trivial rfl).1.trans f_x_13
                  replace fx_33 := (hs.o gq_26 trivial rfl).1.trans fx_33
                  replace po_67 := (hs.o gq_54 trivial rfl).1.trans po_67
                  replace po_68 := (hs.o gq_54 trivial rfl).1.trans po_68
                  replace po_69 := (hs.o gq_54 trivial rfl).1.trans po_69
                  replace po_70 := (hs.o gq_54 trivial rfl).1.trans po_70
                  replace po_71 := (hs.o gq_54 trivial rfl).1.trans po_71
                  replace po_72 := (hs.o gq_54 trivial rfl).1.trans po_72
                  replace po_73 := (hs.o gq_54 trivial rfl).1.trans po_73
                  replace po_74 := (hs.o gq_54 trivial rfl).1.trans po_74
                  replace po_75 := (hs.o gq_54 trivial rfl).1.trans po_75
                  replace po_76 := (hs.o gq_54 trivial rfl).1.trans po_76
                  replace po_77 := (hs.o gq_54 trivial rfl).1.trans po_77
                  replace po_78 := (hs.o gq_54 trivial rfl).2.trans po_78
                  replace po_79 := (hs.o gq_54 trivial rfl).2.trans po_79
                  replace po_80 := (hs.o gq_54 trivial rfl).2.trans po_80
                  replace fq_83 := (hs.o gq_54 trivial rfl).2.trans fq_83
                  replace fq_85 := (hs.o gq_54 trivial rfl).2.trans fq_85
                  replace f_88 := (hs.o gq_54 trivial rfl).1.trans f_88
                  replace pf_x_8 : ∀ j : Nat, (j : Int) < (h_90.2.1 x 8).toInt → h_90.2.2 qp j ≠ none := by
                    intro j hj; rw [(hs.o gx trivial rfl).1] at hj; rw [(hs.a gqp rfl j).2]; exact pf_x_8 j hj
                  replace pf_x_11 : ∀ j : Nat, (j : Int) < (h_90.2.1 x 11).toInt → h_90.2.2 qc j ≠ none := by
                    intro j hj; rw [(hs.o gx trivial rfl).1] at hj; rw [(hs.a gqc rfl j).2]; exact pf_x_11 j hj
                  replace pf_x_6 : ∀ j : Nat, (j : Int) < (h_90.2.1 x 6).toInt → h_90.2.2 qa j ≠ none := by
                    intro j hj; rw [(hs.o gx trivial rfl).1] at hj; rw [(hs.a gqa rfl j).2]; exact pf_x_6 j hj
                  replace cl_qp_7 : hx_col 40 h_90 qp 7 = df := (hx_col_S hs hTo gqp tt_44 tt_4 rfl rfl).trans cl_qp_7
                  replace cl_qc_10 : hx_col 100 h_90 qc 10 = ff := (hx_col_S hs hTo gqc tt_45 tt_2 rfl rfl).trans cl_qc_10
                  replace cl_qc_9 : hx_col 100 h_90 qc 9 = tf := (hx_col_S hs hTo gqc tt_45 tt_2 rfl rfl).trans cl_qc_9
                  replace cl_qc_8 : hx_col 100 h_90 qc 8 = flf := (hx_col_S hs hTo gqc tt_45 tt_2 rfl rfl).trans cl_qc_8
                  replace cl_qc_11 : hx_col 100 h_90 qc 11 = hrf := (hx_col_S hs hTo gqc tt_45 tt_2 rfl rfl).trans cl_qc_11
                  replace cl_qc_12 : hx_col 100 h_90 qc 12 = udf := (hx_col_S hs hTo gqc tt_45 tt_2 rfl rfl).trans cl_qc_12
                  replace cl_qc_13 : hx_col 100 h_90 qc 13 = odf := (hx_col_S hs hTo gqc tt_45 tt_2 rfl rfl).trans cl_qc_13
                  replace cl_qc_14 : hx_col 100 h_90 qc 14 = wkf := (hx_col_S hs hTo gqc tt_45 tt_2 rfl rfl).trans cl_qc_14
                  replace cl_qc_15 : hx_col 100 h_90 qc 15 = owf := (hx_col_S hs hTo gqc tt_45 tt_2 rfl rfl).trans cl_qc_15
                  replace cl_qc_16 : hx_col 100 h_90 qc 16 = szf := (hx_col_S hs hTo gqc tt_45 tt_2 rfl rfl).trans cl_qc_16
                  replace cl_qc_17 : hx_col 100 h_90 qc 17 = gdf := (hx_col_S hs hTo gqc tt_45 tt_2 rfl rfl).trans cl_qc_17
                  replace cl_qc_18 : hx_col 100 h_90 qc 18 = svf := (hx_col_S hs hTo gqc tt_45 tt_2 rfl rfl).trans cl_qc_18
                  replace nc_89 : hx_col 100 h_90 qc 6 = smf := (hx_col_S hs hTo gqc tt_45 tt_2 rfl rfl).trans nc_89
                  replace nu_qc : hx_num 100 h_90 qc 0 (cn0.toInt) := hx_num_S hs hTo gqc tt_45 tt_2 rfl rfl nu_qc
                  replace sb_ql_qc : hx_LQ 8 100 h_90 ql qc := hx_LQ_S hs (gql.S hM) gqc rfl rfl sb_ql_qc
                  replace hDF : hw_DF h_90 qc qp 2 agf cn0.toInt := hw_DF_S hs hTo gqc gqp tt_45 tt_2 rfl rfl rfl hDF
                  replace hDP : hw_DF h_90 qc qp 1 byf cn0.toInt := hw_DF_S hs hTo gqc gqp tt_45 tt_2 rfl rfl rfl hDP
                  replace hRA : hv_RA h_90 qa w a0.toInt A := hv_RA_S hs hTo gqa gw tt_43 tt_0 rfl rfl rfl rfl rfl rfl (by omega) hRA
                  replace hAC : hv_AC h_90 qc plf cn0.toInt A := hv_AC_S hs hTo gqc tt_45 tt_2 rfl tt_0 rfl rfl rfl rfl rfl rfl rfl hAC
                  replace hFX : hv_FX 8 4 h_90 qc cF cn0.toInt := hv_FX_S hs hTo gqc tt_45 tt_2 rfl rfl rfl rfl hFX
                  replace hBX : hv_FX 3 5 h_90 qc bF cn0.toInt := hv_FX_S hs hTo gqc tt_45 tt_2 rfl rfl rfl rfl hBX
                  replace hHL : hv_HL h_90 qh qc hof m0.toInt cn0.toInt := hv_HL_S hs gqh gqc rfl rfl hHL
                  replace kk_62Q : hv_AQ h_90 q_61 (((kk_62 : Nat) : Int) - 1) (A kk_62) := hv_AQ_S hs hTo gq_61 tt_0 rfl rfl rfl rfl rfl kk_62Q
                  replace hNF4 : hv_NF 4 h_90 qc q_83 cn0.toInt := hv_NF_S hs hTo gqc tt_45 tt_2 rfl rfl hNF4
                  replace hNF5 : hv_NF 5 h_90 qc q_85 cn0.toInt := hv_NF_S hs hTo gqc tt_45 tt_2 rfl rfl hNF5
                  replace fo_20 := (hs.a gqp rfl _).2.trans fo_20
                  replace fo_30 := (hs.a gqp rfl _).2.trans fo_30
                  replace nfw_84 : h_90.2.1 q_83 = fw_84 := (funext fun j => (hs.a gq_83 rfl j).1).trans nfw_84
                  replace nfw_86 : h_90.2.1 q_85 = fw_86 := (funext fun j => (hs.a gq_85 rfl j).1).trans nfw_86
                  replace hM := hM.tr (hs.mono (by decide))
                  replace gx := gx.S hs
                  replace gqp := gqp.S hs
                  replace gqc := gqc.S hs
                  replace gqa := gqa.S hs
                  replace gw := gw.S hs
                  replace gqh := gqh.S hs
                  replace gq_6 := gq_6.S hs
                  replace gq_26 := gq_26.S hs
                  replace gq_61 := gq_61.S hs
                  replace gq_54 := gq_54.S hs
                  replace gq_83 := gq_83.S hs
                  replace gq_85 := gq_85.S hs
                  have f_91 : h_90.2.1 q_54 7 = i4 := by rw [eh_90]; exact hx_pi_at _ _ _ _
                  have nc_92 : hx_col 100 h_90 qc 7 = frf := hw_col_k (h := h_87) (fun a9 k9 ne => by rw [eh_90]; exact hx_pi_ne _ _ (fun z => ne z.1)) (fun j => (congrArg (fun z : hx_h => z.2.2 qc j) eh_90).trans rfl) noO9 cl_qc_7O9
                  refine lv_aload hx hb dX9_file_121 (lv_at hl 0 rfl) ?_
                  refine lv_aload_n hx hb dX9_file_123 rfl (lv_at hl 3 rfl) ?_
                  refine hk_geti hx hb hts hC_9 hown hW gx tt_9 2 (by decide) rfl kw_366 ⟨rfl, rfl, rfl⟩ f_x_2 dX9_file_124 ?_
                  have hTo := hT
                  have numO9 : (h_90.2.1 q_54 0).toInt = cn0.toInt := by rw [po_67]
                  have noO9 := hw_num_no nu_qc numO9
                  have cl_qc_8O9 := cl_qc_8
                  refine hx_puti hx hb hts hC_2 hown hW hT (hx_S.rf (M := [(2, 8)])) gq_54 tt_2 8 (by decide) rfl kw_743 ⟨rfl, rfl, rfl⟩ rfl (x := nw0) ⟨by omega, by omega⟩ rfl rfl rfl (List.mem_singleton.mpr rfl) dX9_file_127 (fun H locs h_93 eh_93 hW hT hs => ?_)
                  replace f_x_7 := (hs.o gx trivial rfl).2.trans f_x_7
                  replace f_x_10 := (hs.o gx trivial rfl).2.trans f_x_10
                  replace f_x_5 := (hs.o gx trivial rfl).2.trans f_x_5
                  replace f_x_4 := (hs.o gx trivial rfl).2.trans f_x_4
                  replace f_x_19 := (hs.o gx trivial rfl).2.trans f_x_19
                  replace f_x_12 := (hs.o gx trivial rfl).2.trans f_x_12
                  replace f_x_11 := (hs.o gx trivial rfl).1.trans f_x_11
                  replace f_x_8 := (hs.o gx trivial rfl).1.trans f_x_8
                  replace f_x_2 := (hs.o gx trivial rfl).1.trans f_x_2
                  replace f_x_6 := (hs.o gx trivial rfl).1.trans f_x_6
                  replace f_x_13 := (hs.o gx trivial rfl).1.trans f_x_13
                  replace fx_33 := (hs.o gq_26 trivial rfl).1.trans fx_33
                  replace po_67 := (hs.o gq_54 trivial rfl).1.trans po_67
                  replace po_68 := (hs.o gq_54 trivial rfl).1.trans po_68
                  replace po_69 := (hs.o gq_54 trivial rfl).1.trans po_69
                  replace po_70 := (hs.o gq_54 trivial rfl).1.trans po_70
                  replace po_71 := (hs.o gq_54 trivial rfl).1.trans po_71
                  replace po_72 := (hs.o gq_54 trivial rfl).1.trans po_72
                  replace po_73 := (hs.o gq_54 trivial rfl).1.trans po_73
                  replace po_74 := (hs.o gq_54 trivial rfl).1.trans po_74
                  replace po_75 := (hs.o gq_54 trivial rfl).1.trans po_75
                  replace po_76 := (hs.o gq_54 trivial rfl).1.trans po_76
                  replace po_77 := (hs.o gq_54 trivial rfl).1.trans po_77
                  replace po_78 := (hs.o gq_54 trivial rfl).2.trans po_78
                  replace po_79 := (hs.o gq_54 trivial rfl).2.trans po_79
                  replace po_80 := (hs.o gq_54 trivial rfl).2.trans po_80
                  replace fq_83 := (hs.o gq_54 trivial rfl).2.trans fq_83
                  replace fq_85 := (hs.o gq_54 trivial rfl).2.trans fq_85
                  replace f_88 := (hs.o gq_54 trivial rfl).1.trans f_88
                  replace f_91 := (hs.o gq_54 trivial rfl).1.trans f_91
                  replace pf_x_8 : ∀ j : Nat, (j : Int) < (h_93.2.1 x 8).toInt → h_93.2.2 qp j ≠ none := by
                    intro j hj; rw [(hs.o gx trivial rfl).1] at hj; rw [(hs.a gqp rfl j).2]; exact pf_x_8 j hj
                  replace pf_x_11 : ∀ j : Nat, (j : Int) < (h_93.2.1 x 11).toInt → h_93.2.2 qc j ≠ none := by
                    intro j hj; rw [(hs.o gx trivial rfl).1] at hj; rw [(hs.a gqc rfl j).2]; exact pf_x_11 j hj
                  replace pf_x_6 : ∀ j : Nat, (j : Int) < (h_93.2.1 x 6).toInt → h_93.2.2 qa j ≠ none := by
                    intro j hj; rw [(hs.o gx trivial rfl).1] at hj; rw [(hs.a gqa rfl j).2]; exact pf_x_6 j hj
                  replace cl_qp_7 : hx_col 40 h_93 qp 7 = df := (hx_col_S hs hTo gqp tt_44 tt_4 rfl rfl).trans cl_qp_7
                  replace cl_qc_10 : hx_col 100 h_93 qc 10 = ff := (hx_col_S hs hTo gqc tt_45 tt_2 rfl rfl).trans cl_qc_10
                  replace cl_qc_9 : hx_col 100 h_93 qc 9 = tf := (hx_col_S hs hTo gqc tt_45 tt_2 rfl rfl).trans cl_qc_9
                  replace cl_qc_11 : hx_col 100 h_93 qc 11 = hrf := (hx_col_S hs hTo gqc tt_45 tt_2 rfl rfl).trans cl_qc_11
                  replace cl_qc_12 : hx_col 100 h_93 qc 12 = udf := (hx_col_S hs hTo gqc tt_45 tt_2 rfl rfl).trans cl_qc_12
                  replace cl_qc_13 : hx_col 100 h_93 qc 13 = odf := (hx_col_S hs hTo gqc tt_45 tt_2 rfl rfl).trans cl_qc_13
                  replace cl_qc_14 : hx_col 100 h_93 qc 14 = wkf := (hx_col_S hs hTo gqc tt_45 tt_2 rfl rfl).trans cl_qc_14
                  replace cl_qc_15 : hx_col 100 h_93 qc 15 = owf := (hx_col_S hs hTo gqc tt_45 tt_2 rfl rfl).trans cl_qc_15
                  replace cl_qc_16 : hx_col 100 h_93 qc 16 = szf := (hx_col_S hs hTo gqc tt_45 tt_2 rfl rfl).trans cl_qc_16
                  replace cl_qc_17 : hx_col 100 h_93 qc 17 = gdf := (hx_col_S hs hTo gqc tt_45 tt_2 rfl rfl).trans cl_qc_17
                  replace cl_qc_18 : hx_col 100 h_93 qc 18 = svf := (hx_col_S hs hTo gqc tt_45 tt_2 rfl rfl).trans cl_qc_18
                  replace nc_89 : hx_col 100 h_93 qc 6 = smf := (hx_col_S hs hTo gqc tt_45 tt_2 rfl rfl).trans nc_89
                  replace nc_92 : hx_col 100 h_93 qc 7 = frf := (hx_col_S hs hTo gqc tt_45 tt_2 rfl rfl).trans nc_92
                  replace nu_qc : hx_num 100 h_93 qc 0 (cn0.toInt) := hx_num_S hs hTo gqc tt_45 tt_2 rfl rfl nu_qc
                  replace sb_ql_qc : hx_LQ 8 100 h_93 ql qc := hx_LQ_S hs (gql.S hM) gqc rfl rfl sb_ql_qc
                  replace hDF : hw_DF h_93 qc qp 2 agf cn0.toInt := hw_DF_S hs hTo gqc gqp tt_45 tt_2 rfl rfl rfl hDF
                  replace hDP : hw_DF h_93 qc qp 1 byf cn0.toInt := hw_DF_S hs hTo gqc gqp tt_45 tt_2 rfl rfl rfl hDP
                  replace hRA : hv_RA h_93 qa w a0.toInt A := hv_RA_S hs hTo gqa gw tt_43 tt_0 rfl rfl rfl rfl rfl rfl (by omega) hRA
                  replace hAC : hv_AC h_93 qc plf cn0.toInt A := hv_AC_S hs hTo gqc tt_45 tt_2 rfl tt_0 rfl rfl rfl rfl rfl rfl rfl hAC
                  replace hFX : hv_FX 8 4 h_93 qc cF cn0.toInt := hv_FX_S hs hTo gqc tt_45 tt_2 rfl rfl rfl rfl hFX
                  replace hBX : hv_FX 3 5 h_93 qc bF cn0.toInt := hv_FX_S hs hTo gqc tt_45 tt_2 rfl rfl rfl rfl hBX
                  replace hHL : hv_HL h_93 qh qc hof m0.toInt cn0.toInt := hv_HL_S hs gqh gqc rfl rfl hHL
                  replace kk_62Q : hv_AQ h_93 q_61 (((kk_62 : Nat) : Int) - 1) (A kk_62) := hv_AQ_S hs hTo gq_61 tt_0 rfl rfl rfl rfl rfl kk_62Q
                  replace hNF4 : hv_NF 4 h_93 qc q_83 cn0.toInt := hv_NF_S hs hTo gqc tt_45 tt_2 rfl rfl hNF4
                  replace hNF5 : hv_NF 5 h_93 qc q_85 cn0.toInt := hv_NF_S hs hTo gqc tt_45 tt_2 rfl rfl hNF5
                  replace fo_20 := (hs.a gqp rfl _).2.trans fo_20
                  replace fo_30 := (hs.a gqp rfl _).2.trans fo_30
                  replace nfw_84 : h_93.2.1 q_83 = fw_84 := (funext fun j => (hs.a gq_83 rfl j).1).trans nfw_84
                  replace nfw_86 : h_93.2.1 q_85 = fw_86 := (funext fun j => (hs.a gq_85 rfl j).1).trans nfw_86
                  replace hM := hM.tr (hs.mono (by decide))
                  replace gx := gx.S hs
                  replace gqp := gqp.S hs
                  replace gqc := gqc.S hs
                  replace gqa := gqa.S hs
                  replace gw := gw.S hs
                  replace gqh := gqh.S hs
                  replace gq_6 := gq_6.S hs
                  replace gq_26 := gq_26.S hs
                  replace gq_61 := gq_61.S hs
                  replace gq_54 := gq_54.S hs
                  replace gq_83 := gq_83.S hs
                  replace gq_85 := gq_85.S hs
                  have f_94 : h_93.2.1 q_54 8 = nw0 := by rw [eh_93]; exact hx_pi_at _ _ _ _
                  have nc_95 : hx_col 100 h_93 qc 8 = flf := hw_col_k (h := h_90) (fun a9 k9 ne => by rw [eh_93]; exact hx_pi_ne _ _ (fun z => ne z.1)) (fun j => (congrArg (fun z : hx_h => z.2.2 qc j) eh_93).trans rfl) noO9 cl_qc_8O9
                  refine lv_aload hx hb dX9_file_130 (lv_at hl 0 rfl) ?_
                  refine hk_getr hx hb hts hC_2 hown hW gq_54 tt_2 4 (by decide) rfl kw_738 ⟨rfl, rfl, rfl⟩ fq_83 dX9_file_132 ?_
                  refine lv_iconst (v := 2) hx hb dX9_file_135 (by decide) ?_
                  refine lv_iload hx hb dX9_file_136 (lv_at hl 8 rfl) ?_
                  have jn_146 : ∀ (xj_96 : Int32) (ls : Array Slot), 0 ≤ xj_96.toInt → xj_96.toInt ≤ 1 → xj_96.toInt = i5.toInt → lv_has ls 10 [(9, .ref q_54), (8, .ref q_26), (7, .ref q_6), (0, .ref x), (1, .int i1), (2, .int i2), (3, .int i3), (4, .int i4), (5, .int i5), (6, .int i6)] → W p l e ({ frames := 2, cells := 3, slots := 30, locals := 36 }) s m ([.ref x, .int i1, .int i2, .int i3, .int i4, .int i5, .int i6] : List Value).toArray below meth c H locs 3 30 (MQ below (va_Qi (fun (r : Int32) (u : List Nat × hx_h) => (∃ (cn1 : Int32) (ff1 : Nat → Int32) (tf1 : Nat → Int32) (smf1 : Nat → Int32) (frf1 : Nat → Int32) (flf1 : Nat → Int32) (hrf1 : Nat → Int32) (udf1 : Nat → Int32) (odf1 : Nat → Int32) (wkf1 : Nat → Int32) (owf1 : Nat → Int32) (szf1 : Nat → Int32) (gdf1 : Nat → Int32) (svf1 : Nat → Int32), u.2.2.1 x 11 = cn1 ∧ hx_col 100 u.2 qc 10 = ff1 ∧ hx_col 100 u.2 qc 9 = tf1 ∧ hx_col 100 u.2 qc 6 = smf1 ∧ hx_col 100 u.2 qc 7 = frf1 ∧ hx_col 100 u.2 qc 8 = flf1 ∧ hx_col 100 u.2 qc 11 = hrf1 ∧ hx_col 100 u.2 qc 12 = udf1 ∧ hx_col 100 u.2 qc 13 = odf1 ∧ hx_col 100 u.2 qc 14 = wkf1 ∧ hx_col 100 u.2 qc 15 = owf1 ∧ hx_col 100 u.2 qc 16 = szf1 ∧ hx_col 100 u.2 qc 17 = gdf1 ∧ hx_col 100 u.2 qc 18 = svf1 ∧ ((hx_num 100 u.2 qc 0 (cn1.toInt)) ∧ ((hx_LQ 8 100 u.2 ql qc) ∧ (((hx_FS cn0.toInt pn0.toInt nw0.toInt i1.toInt i2.toInt i3.toInt i4.toInt i6.toInt df r.toInt cn1.toInt) ∧ hx_CD cn0.toInt r.toInt (-1) ff ff1 ∧ hx_CD cn0.toInt r.toInt 0 tf tf1 ∧ hx_CD cn0.toInt r.toInt i3 smf smf1 ∧ hx_CD cn0.toInt r.toInt i4 frf frf1 ∧ hx_CD cn0.toInt r.toInt nw0 flf flf1 ∧ hx_CD cn0.toInt r.toInt (-1) hrf hrf1 ∧ hx_CD cn0.toInt r.toInt 0 udf udf1 ∧ (∃ agf1 byf1 plf1 cF1 bF1 : Nat → Int32, ∃ pv : Int32, hw_UP r.toInt cn0.toInt i2 agf agf1 ∧ hw_UP r.toInt cn0.toInt i1 byf byf1 ∧ (pv.toInt = ((hv_IF A nw0.toInt a0.toInt.toNat : Nat) : Int) ∧ hw_UP r.toInt cn0.toInt pv plf plf1) ∧ hv_FU r.toInt cn0.toInt i5 i6 i3 cF cF1 ∧ hv_BU r.toInt cn0.toInt bF bF1 ∧ hw_DF u.2 qc qp 2 agf1 cn1.toInt ∧ hw_DF u.2 qc qp 1 byf1 cn1.toInt ∧ hv_AC u.2 qc plf1 cn1.toInt A ∧ hv_FX 8 4 u.2 qc cF1 cn1.toInt ∧ hv_FX 3 5 u.2 qc bF1 cn1.toInt ∧ hv_HL u.2 qh qc hof m0.toInt cn1.toInt)) ∧ (hx_CD cn0.toInt r.toInt (-1) odf odf1 ∧ hx_CD cn0.toInt r.toInt 0 wkf wkf1 ∧ hx_CD cn0.toInt r.toInt 0 owf owf1 ∧ hx_CD cn0.toInt r.toInt (-1) szf szf1 ∧ hx_CD cn0.toInt r.toInt 0 gdf gdf1 ∧ hx_CD cn0.toInt r.toInt (-1) svf svf1))))) ∧ hx_T T_tb u.1 u.2 ∧ hx_S T_tb [(2, 6), (2, 7), (2, 8), (9, 11), (20, 0), (45, 0), (118, 0), (118, 1), (118, 2), (118, 3), (118, 4), (118, 5), (118, 10), (118, 11), (118, 13), (118, 16), (118, 18)] L h u.1 u.2 ∧ (∀ j : Nat, (j : Int) < (u.2.2.1 x 11).toInt → u.2.2.2 qc j ≠ none)) (hx_E T_tb (P_ty dA) (dC, dI) vwCl (hx_A L sz)) (hx_A L sz)) ([.ref x, .int i1, .int i2, .int i3, .int i4, .int i5, .int i6] : List Value).toArray s 3 30 (hx_A L sz)) (F0 m 146 ls [.int xj_96, .int (2 : Int32), .ref q_83]) := by
                    intro xj_96 ls blxj_96 buxj_96 jcxj_96 hl
                    obtain rfl : i5 = xj_96 := Int32.toInt_inj.mp (by omega)
                    have hFXO9 := hFX
                    have hNFO9 := hNF4
                    have hTo := hT
                    have nfw_84O := nfw_84
                    have hTo := hT
                    refine hx_iast hx hb hW hT (hx_S.rf (M := [(20, 0)])) gq_83 tt_20 rfl (by decide) rfl (i32_r _) (List.mem_singleton.mpr rfl) dX9_file_146 (fun H locs h_97 eh_97 hW hT hs => ?_)
                    replace f_x_7 := (hs.o gx trivial rfl).2.trans f_x_7
                    replace f_x_10 := (hs.o gx trivial rfl).2.trans f_x_10
                    replace f_x_5 := (hs.o gx trivial rfl).2.trans f_x_5
                    replace f_x_4 := (hs.o gx trivial rfl).2.trans f_x_4
                    replace f_x_19 := (hs.o gx trivial rfl).2.trans f_x_19
                    replace f_x_12 := (hs.o gx trivial rfl).2.trans f_x_12
                    replace f_x_11 := (hs.o gx trivial rfl).1.trans f_x_11
                    replace f_x_8 := (hs.o gx trivial rfl).1.trans f_x_8
                    replace f_x_2 := (hs.o gx trivial rfl).1.trans f_x_2
                    replace f_x_6 := (hs.o gx trivial rfl).1.trans f_x_6
                    replace f_x_13 := (hs.o gx trivial rfl).1.trans f_x_13
                    replace fx_33 := (hs.o gq_26 trivial rfl).1.trans fx_33
                    replace po_67 := (hs.o gq_54 trivial rfl).1.trans po_67
                    replace po_68 := (hs.o gq_54 trivial rfl).1.trans po_68
                    replace po_69 := (hs.o gq_54 trivial rfl).1.trans po_69
                    replace po_70 := (hs.o gq_54 trivial rfl).1.trans po_70
                    replace po_71 := (hs.o gq_54 trivial rfl).1.trans po_71
                    replace po_72 := (hs.o gq_54 trivial rfl).1.trans po_72
                    replace po_73 := (hs.o gq_54 trivial rfl).1.trans po_73
                    replace po_74 := (hs.o gq_54 trivial rfl).1.trans po_74
                    replace po_75 := (hs.o gq_54 trivial rfl).1.trans po_75
                    replace po_76 := (hs.o gq_54 trivial rfl).1.trans po_76
                    replace po_77 := (hs.o gq_54 trivial rfl).1.trans po_77
                    replace po_78 := (hs.o gq_54 trivial rfl).2.trans po_78
                    replace po_79 := (hs.o gq_54 trivial rfl).2.trans po_79
                    replace po_80 := (hs.o gq_54 trivial rfl).2.trans po_80
                    replace fq_83 := (hs.o gq_54 trivial rfl).2.trans fq_83
                    replace fq_85 := (hs.o gq_54 trivial rfl).2.trans fq_85
                    replace f_88 := (hs.o gq_54 trivial rfl).1.trans f_88
                    replace f_91 := (hs.o gq_54 trivial rfl).1.trans f_91
                    replace f_94 := (hs.o gq_54 trivial rfl).1.trans f_94
                    replace pf_x_8 : ∀ j : Nat, (j : Int) < (h_97.2.1 x 8).toInt → h_97.2.2 qp j ≠ none := by
                      intro j hj; rw [(hs.o gx trivial rfl).1] at hj; rw [(hs.a gqp rfl j).2]; exact pf_x_8 j hj
                    replace pf_x_11 : ∀ j : Nat, (j : Int) < (h_97.2.1 x 11).toInt → h_97.2.2 qc j ≠ none := by
                      intro j hj; rw [(hs.o gx trivial rfl).1] at hj; rw [(hs.a gqc rfl j).2]; exact pf_x_11 j hj
                    replace pf_x_6 : ∀ j : Nat, (j : Int) < (h_97.2.1 x 6).toInt → h_97.2.2 qa j ≠ none := by
                      intro j hj; rw [(hs.o gx trivial rfl).1] at hj; rw [(hs.a gqa rfl j).2]; exact pf_x_6 j hj
                    replace cl_qp_7 : hx_col 40 h_97 qp 7 = df := (hx_col_S hs hTo gqp tt_44 tt_4 rfl rfl).trans cl_qp_7
                    replace cl_qc_10 : hx_col 100 h_97 qc 10 = ff := (hx_col_S hs hTo gqc tt_45 tt_2 rfl rfl).trans cl_qc_10
                    replace cl_qc_9 : hx_col 100 h_97 qc 9 = tf := (hx_col_S hs hTo gqc tt_45 tt_2 rfl rfl).trans cl_qc_9
                    replace cl_qc_11 : hx_col 100 h_97 qc 11 = hrf := (hx_col_S hs hTo gqc tt_45 tt_2 rfl rfl).trans cl_qc_11
                    replace cl_qc_12 : hx_col 100 h_97 qc 12 = udf := (hx_col_S hs hTo gqc tt_45 tt_2 rfl rfl).trans cl_qc_12
                    replace cl_qc_13 : hx_col 100 h_97 qc 13 = odf := (hx_col_S hs hTo gqc tt_45 tt_2 rfl rfl).trans cl_qc_13
                    replace cl_qc_14 : hx_col 100 h_97 qc 14 = wkf := (hx_col_S hs hTo gqc tt_45 tt_2 rfl rfl).trans cl_qc_14
                    replace cl_qc_15 : hx_col 100 h_97 qc 15 = owf := (hx_col_S hs hTo gqc tt_45 tt_2 rfl rfl).trans cl_qc_15
                    replace cl_qc_16 : hx_col 100 h_97 qc 16 = szf := (hx_col_S hs hTo gqc tt_45 tt_2 rfl rfl).trans cl_qc_16
                    replace cl_qc_17 : hx_col 100 h_97 qc 17 = gdf := (hx_col_S hs hTo gqc tt_45 tt_2 rfl rfl).trans cl_qc_17
                    replace cl_qc_18 : hx_col 100 h_97 qc 18 = svf := (hx_col_S hs hTo gqc tt_45 tt_2 rfl rfl).trans cl_qc_18
                    replace nc_89 : hx_col 100 h_97 qc 6 = smf := (hx_col_S hs hTo gqc tt_45 tt_2 rfl rfl).trans nc_89
                    replace nc_92 : hx_col 100 h_97 qc 7 = frf := (hx_col_S hs hTo gqc tt_45 tt_2 rfl rfl).trans nc_92
                    replace nc_95 : hx_col 100 h_97 qc 8 = flf := (hx_col_S hs hTo gqc tt_45 tt_2 rfl rfl).trans nc_95
                    replace nu_qc : hx_num 100 h_97 qc 0 (cn0.toInt) := hx_num_S hs hTo gqc tt_45 tt_2 rfl rfl nu_qc
                    replace sb_ql_qc : hx_LQ 8 100 h_97 ql qc := hx_LQ_S hs (gql.S hM) gqc rfl rfl sb_ql_qc
                    replace hDF : hw_DF h_97 qc qp 2 agf cn0.toInt := hw_DF_S hs hTo gqc gqp tt_45 tt_2 rfl rfl rfl hDF
                    replace hDP : hw_DF h_97 qc qp 1 byf cn0.toInt := hw_DF_S hs hTo gqc gqp tt_45 tt_2 rfl rfl rfl hDP
                    replace hRA : hv_RA h_97 qa w a0.toInt A := hv_RA_S hs hTo gqa gw tt_43 tt_0 rfl rfl rfl rfl rfl rfl (by omega) hRA
                    replace hAC : hv_AC h_97 qc plf cn0.toInt A := hv_AC_S hs hTo gqc tt_45 tt_2 rfl tt_0 rfl rfl rfl rfl rfl rfl rfl hAC
                    replace hBX : hv_FX 3 5 h_97 qc bF cn0.toInt := hv_FX_S hs hTo gqc tt_45 tt_2 rfl rfl rfl rfl hBX
                    replace hHL : hv_HL h_97 qh qc hof m0.toInt cn0.toInt := hv_HL_S hs gqh gqc rfl rfl hHL
                    replace kk_62Q : hv_AQ h_97 q_61 (((kk_62 : Nat) : Int) - 1) (A kk_62) := hv_AQ_S hs hTo gq_61 tt_0 rfl rfl rfl rfl rfl kk_62Q
                    replace hNF4 : hv_NF 4 h_97 qc q_83 cn0.toInt := hv_NF_S hs hTo gqc tt_45 tt_2 rfl rfl hNF4
                    replace hNF5 : hv_NF 5 h_97 qc q_85 cn0.toInt := hv_NF_S hs hTo gqc tt_45 tt_2 rfl rfl hNF5
                    replace fo_20 := (hs.a gqp rfl _).2.trans fo_20
                    replace fo_30 := (hs.a gqp rfl _).2.trans fo_30
                    replace nfw_86 : h_97.2.1 q_85 = fw_86 := (funext fun j => (hs.a gq_85 rfl j).1).trans nfw_86
                    replace hM := hM.tr (hs.mono (by decide))
                    replace gx := gx.S hs
                    replace gqp := gqp.S hs
                    replace gqc := gqc.S hs
                    replace gqa := gqa.S hs
                    replace gw := gw.S hs
                    replace gqh := gqh.S hs
                    replace gq_6 := gq_6.S hs
                    replace gq_26 := gq_26.S hs
                    replace gq_61 := gq_61.S hs
                    replace gq_54 := gq_54.S hs
                    replace gq_83 := gq_83.S hs
                    replace gq_85 := gq_85.S hs
                    obtain ⟨fa_98, dfa_98⟩ : ∃ g : Nat → Int32, g = hx_up fw_84 (2 : Int32).toNatClampNeg i5 := ⟨_, rfl⟩
                    have nfa_98 : h_97.2.1 q_83 = fa_98 := by rw [eh_97, dfa_98, ← nfw_84O]; exact hx_pi_fun _ _ _ _
                    have hFX_99 : hv_FX 8 4 h_97 qc cF cn0.toInt := hv_FX_o hFXO9 hNFO9 eh_97
                    refine lv_aload hx hb dX9_file_147 (lv_at hl 0 rfl) ?_
                    refine hk_getr hx hb hts hC_2 hown hW gq_54 tt_2 4 (by decide) rfl kw_738 ⟨rfl, rfl, rfl⟩ fq_83 dX9_file_149 ?_
                    refine lv_iconst (v := 3) hx hb dX9_file_152 (by decide) ?_
                    refine lv_iload hx hb dX9_file_153 (lv_at hl 9 rfl) ?_
                    have hFXO9 := hFX_99
                    have hNFO9 := hNF4
                    have hTo := hT
                    have nfa_98O := nfa_98
                    have hTo := hT
                    refine hx_iast hx hb hW hT (hx_S.rf (M := [(20, 0)])) gq_83 tt_20 rfl (by decide) rfl (i32_r _) (List.mem_singleton.mpr rfl) dX9_file_155 (fun H locs h_100 eh_100 hW hT hs => ?_)
                    replace f_x_7 := (hs.o gx trivial rfl).2.trans f_x_7
                    replace f_x_10 := (hs.o gx trivial rfl).2.trans f_x_10
                    replace f_x_5 := (hs.o gx trivial rfl).2.trans f_x_5
                    replace f_x_4 := (hs.o gx trivial rfl).2.trans f_x_4
                    replace f_x_19 := (hs.o gx trivial rfl).2.trans f_x_19
                    replace f_x_12 := (hs.o gx trivial rfl).2.trans f_x_12
                    replace f_x_11 := (hs.o gx trivial rfl).1.trans f_x_11
                    replace f_x_8 := (hs.o gx trivial rfl).1.trans f_x_8
                    replace f_x_2 := (hs.o gx trivial rfl).1.trans f_x_2
                    replace f_x_6 := (hs.o gx trivial rfl).1.trans f_x_6
                    replace f_x_13 := (hs.o gx trivial rfl).1.trans f_x_13
                    replace fx_33 := (hs.o gq_26 trivial rfl).1.trans fx_33
                    replace po_67 := (hs.o gq_54 trivial rfl).1.trans po_67
                    replace po_68 := (hs.o gq_54 trivial rfl).1.trans po_68
                    replace po_69 := (hs.o gq_54 trivial rfl).1.trans po_69
                    replace po_70 := (hs.o gq_54 trivial rfl).1.trans po_70
                    replace po_71 := (hs.o gq_54 trivial rfl).1.trans po_71
                    replace po_72 := (hs.o gq_54 trivial rfl).1.trans po_72
                    replace po_73 := (hs.o gq_54 trivial rfl).1.trans po_73
                    replace po_74 := (hs.o gq_54 trivial rfl).1.trans po_74
                    replace po_75 := (hs.o gq_54 trivial rfl).1.trans po_75
                    replace po_76 := (hs.o gq_54 trivial rfl).1.trans po_76
                    replace po_77 := (hs.o gq_54 trivial rfl).1.trans po_77
                    replace po_78 := (hs.o gq_54 trivial rfl).2.trans po_78
                    replace po_79 := (hs.o gq_54 trivial rfl).2.trans po_79
                    replace po_80 := (hs.o gq_54 trivial rfl).2.trans po_80
                    replace fq_83 := (hs.o gq_54 trivial rfl).2.trans fq_83
                    replace fq_85 := (hs.o gq_54 trivial rfl).2.trans fq_85
                    replace f_88 := (hs.o gq_54 trivial rfl).1.trans f_88
                    replace f_91 := (hs.o gq_54 trivial rfl).1.trans f_91
                    replace f_94 := (hs.o gq_54 trivial rfl).1.trans f_94
                    replace pf_x_8 : ∀ j : Nat, (j : Int) < (h_100.2.1 x 8).toInt → h_100.2.2 qp j ≠ none := by
                      intro j hj; rw [(hs.o gx trivial rfl).1] at hj; rw [(hs.a gqp rfl j).2]; exact pf_x_8 j hj
                    replace pf_x_11 : ∀ j : Nat, (j : Int) < (h_100.2.1 x 11).toInt → h_100.2.2 qc j ≠ none := by
                      intro j hj; rw [(hs.o gx trivial rfl).1] at hj; rw [(hs.a gqc rfl j).2]; exact pf_x_11 j hj
                    replace pf_x_6 : ∀ j : Nat, (j : Int) < (h_100.2.1 x 6).toInt → h_100.2.2 qa j ≠ none := by
                      intro j hj; rw [(hs.o gx trivial rfl).1] at hj; rw [(hs.a gqa rfl j).2]; exact pf_x_6 j hj
                    replace cl_qp_7 : hx_col 40 h_100 qp 7 = df := (hx_col_S hs hTo gqp tt_44 tt_4 rfl rfl).trans cl_qp_7
                    replace cl_qc_10 : hx_col 100 h_100 qc 10 = ff := (hx_col_S hs hTo gqc tt_45 tt_2 rfl rfl).trans cl_qc_10
                    replace cl_qc_9 : hx_col 100 h_100 qc 9 = tf := (hx_col_S hs hTo gqc tt_45 tt_2 rfl rfl).trans cl_qc_9
                    replace cl_qc_11 : hx_col 100 h_100 qc 11 = hrf := (hx_col_S hs hTo gqc tt_45 tt_2 rfl rfl).trans cl_qc_11
                    replace cl_qc_12 : hx_col 100 h_100 qc 12 = udf := (hx_col_S hs hTo gqc tt_45 tt_2 rfl rfl).trans cl_qc_12
                    replace cl_qc_13 : hx_col 100 h_100 qc 13 = odf := (hx_col_S hs hTo gqc tt_45 tt_2 rfl rfl).trans cl_qc_13
                    replace cl_qc_14 : hx_col 100 h_100 qc 14 = wkf := (hx_col_S hs hTo gqc tt_45 tt_2 rfl rfl).trans cl_qc_14
                    replace cl_qc_15 : hx_col 100 h_100 qc 15 = owf := (hx_col_S hs hTo gqc tt_45 tt_2 rfl rfl).trans cl_qc_15
                    replace cl_qc_16 : hx_col 100 h_100 qc 16 = szf := (hx_col_S hs hTo gqc tt_45 tt_2 rfl rfl).trans cl_qc_16
                    replace cl_qc_17 : hx_col 100 h_100 qc 17 = gdf := (hx_col_S hs hTo gqc tt_45 tt_2 rfl rfl).trans cl_qc_17
                    replace cl_qc_18 : hx_col 100 h_100 qc 18 = svf := (hx_col_S hs hTo gqc tt_45 tt_2 rfl rfl).trans cl_qc_18
                    replace nc_89 : hx_col 100 h_100 qc 6 = smf := (hx_col_S hs hTo gqc tt_45 tt_2 rfl rfl).trans nc_89
                    replace nc_92 : hx_col 100 h_100 qc 7 = frf := (hx_col_S hs hTo gqc tt_45 tt_2 rfl rfl).trans nc_92
                    replace nc_95 : hx_col 100 h_100 qc 8 = flf := (hx_col_S hs hTo gqc tt_45 tt_2 rfl rfl).trans nc_95
                    replace nu_qc : hx_num 100 h_100 qc 0 (cn0.toInt) := hx_num_S hs hTo gqc tt_45 tt_2 rfl rfl nu_qc
                    replace sb_ql_qc : hx_LQ 8 100 h_100 ql qc := hx_LQ_S hs (gql.S hM) gqc rfl rfl sb_ql_qc
                    replace hDF : hw_DF h_100 qc qp 2 agf cn0.toInt := hw_DF_S hs hTo gqc gqp tt_45 tt_2 rfl rfl rfl hDF
                    replace hDP : hw_DF h_100 qc qp 1 byf cn0.toInt := hw_DF_S hs hTo gqc gqp tt_45 tt_2 rfl rfl rfl hDP
                    replace hRA : hv_RA h_100 qa w a0.toInt A := hv_RA_S hs hTo gqa gw tt_43 tt_0 rfl rfl rfl rfl rfl rfl (by omega) hRA
                    replace hAC : hv_AC h_100 qc plf cn0.toInt A := hv_AC_S hs hTo gqc tt_45 tt_2 rfl tt_0 rfl rfl rfl rfl rfl rfl rfl hAC
                    replace hBX : hv_FX 3 5 h_100 qc bF cn0.toInt := hv_FX_S hs hTo gqc tt_45 tt_2 rfl rfl rfl rfl hBX
                    replace hHL : hv_HL h_100 qh qc hof m0.toInt cn0.toInt := hv_HL_S hs gqh gqc rfl rfl hHL
                    replace kk_62Q : hv_AQ h_100 q_61 (((kk_62 : Nat) : Int) - 1) (A kk_62) := hv_AQ_S hs hTo gq_61 tt_0 rfl rfl rfl rfl rfl kk_62Q
                    replace hNF4 : hv_NF 4 h_100 qc q_83 cn0.toInt := hv_NF_S hs hTo gqc tt_45 tt_2 rfl rfl hNF4
                    replace hNF5 : hv_NF 5 h_100 qc q_85 cn0.toInt := hv_NF_S hs hTo gqc tt_45 tt_2 rfl rfl hNF5
                    replace fo_20 := (hs.a gqp rfl _).2.trans fo_20
                    replace fo_30 := (hs.a gqp rfl _).2.trans fo_30
                    replace nfw_86 : h_100.2.1 q_85 = fw_86 := (funext fun j => (hs.a gq_85 rfl j).1).trans nfw_86
                    replace hM := hM.tr (hs.mono (by decide))
                    replace gx := gx.S hs
                    replace gqp := gqp.S hs
                    replace gqc := gqc.S hs
                    replace gqa := gqa.S hs
                    replace gw := gw.S hs
                    replace gqh := gqh.S hs
                    replace gq_6 := gq_6.S hs
                    replace gq_26 := gq_26.S hs
                    replace gq_61 := gq_61.S hs
                    replace gq_54 := gq_54.S hs
                    replace gq_83 := gq_83.S hs
                    replace gq_85 := gq_85.S hs
                    obtain ⟨fa_101, dfa_101⟩ : ∃ g : Nat → Int32, g = hx_up fa_98 (3 : Int32).toNatClampNeg i6 := ⟨_, rfl⟩
                    have nfa_101 : h_100.2.1 q_83 = fa_101 := by rw [eh_100, dfa_101, ← nfa_98O]; exact hx_pi_fun _ _ _ _
                    have hFX_102 : hv_FX 8 4 h_100 qc cF cn0.toInt := hv_FX_o hFXO9 hNFO9 eh_100
                    refine lv_aload hx hb dX9_file_156 (lv_at hl 0 rfl) ?_
                    refine hk_getr hx hb hts hC_2 hown hW gq_54 tt_2 4 (by decide) rfl kw_738 ⟨rfl, rfl, rfl⟩ fq_83 dX9_file_158 ?_
                    refine lv_bipush (v := 7) hx hb dX9_file_161 (by decide) ?_
                    refine lv_iload_n hx hb dX9_file_163 rfl (lv_at hl 6 rfl) ?_
                    have hFXO9 := hFX_102
                    have hNFO9 := hNF4
                    have hTo := hT
                    have nfa_101O := nfa_101
                    have hTo := hT
                    refine hx_iast hx hb hW hT (hx_S.rf (M := [(20, 0)])) gq_83 tt_20 rfl (by decide) rfl (i32_r _) (List.mem_singleton.mpr rfl) dX9_file_164 (fun H locs h_103 eh_103 hW hT hs => ?_)
                    replace f_x_7 := (hs.o gx trivial rfl).2.trans f_x_7
                    replace f_x_10 := (hs.o gx trivial rfl).2.trans f_x_10
                    replace f_x_5 := (hs.o gx trivial rfl).2.trans f_x_5
                    replace f_x_4 := (hs.o gx trivial rfl).2.trans f_x_4
                    replace f_x_19 := (hs.o gx trivial rfl).2.trans f_x_19
                    replace f_x_12 := (hs.o gx trivial rfl).2.trans f_x_12
                    replace f_x_11 := (hs.o gx trivial rfl).1.trans f_x_11
                    replace f_x_8 := (hs.o gx trivial rfl).1.trans f_x_8
                    replace f_x_2 := (hs.o gx trivial rfl).1.trans f_x_2
                    replace f_x_6 := (hs.o gx trivial rfl).1.trans f_x_6
                    replace f_x_13 := (hs.o gx trivial rfl).1.trans f_x_13
                    replace fx_33 := (hs.o gq_26 trivial rfl).1.trans fx_33
                    replace po_67 := (hs.o gq_54 trivial rfl).1.trans po_67
                    replace po_68 := (hs.o gq_54 trivial rfl).1.trans po_68
                    replace po_69 := (hs.o gq_54 trivial rfl).1.trans po_69
                    replace po_70 := (hs.o gq_54 trivial rfl).1.trans po_70
                    replace po_71 := (hs.o gq_54 trivial rfl).1.trans po_71
                    replace po_72 := (hs.o gq_54 trivial rfl).1.trans po_72
                    replace po_73 := (hs.o gq_54 trivial rfl).1.trans po_73
                    replace po_74 := (hs.o gq_54 trivial rfl).1.trans po_74
                    replace po_75 := (hs.o gq_54 trivial rfl).1.trans po_75
                    replace po_76 := (hs.o gq_54 trivial rfl).1.trans po_76
                    replace po_77 := (hs.o gq_54 trivial rfl).1.trans po_77
                    replace po_78 := (hs.o gq_54 trivial rfl).2.trans po_78
                    replace po_79 := (hs.o gq_54 trivial rfl).2.trans po_79
                    replace po_80 := (hs.o gq_54 trivial rfl).2.trans po_80
                    replace fq_83 := (hs.o gq_54 trivial rfl).2.trans fq_83
                    replace fq_85 := (hs.o gq_54 trivial rfl).2.trans fq_85
                    replace f_88 := (hs.o gq_54 trivial rfl).1.trans f_88
                    replace f_91 := (hs.o gq_54 trivial rfl).1.trans f_91
                    replace f_94 := (hs.o gq_54 trivial rfl).1.trans f_94
                    replace pf_x_8 : ∀ j : Nat, (j : Int) < (h_103.2.1 x 8).toInt → h_103.2.2 qp j ≠ none := by
                      intro j hj; rw [(hs.o gx trivial rfl).1] at hj; rw [(hs.a gqp rfl j).2]; exact pf_x_8 j hj
                    replace pf_x_11 : ∀ j : Nat, (j : Int) < (h_103.2.1 x 11).toInt → h_103.2.2 qc j ≠ none := by
                      intro j hj; rw [(hs.o gx trivial rfl).1] at hj; rw [(hs.a gqc rfl j).2]; exact pf_x_11 j hj
                    replace pf_x_6 : ∀ j : Nat, (j : Int) < (h_103.2.1 x 6).toInt → h_103.2.2 qa j ≠ none := by
                      intro j hj; rw [(hs.o gx trivial rfl).1] at hj; rw [(hs.a gqa rfl j).2]; exact pf_x_6 j hj
                    replace cl_qp_7 : hx_col 40 h_103 qp 7 = df := (hx_col_S hs hTo gqp tt_44 tt_4 rfl rfl).trans cl_qp_7
                    replace cl_qc_10 : hx_col 100 h_103 qc 10 = ff := (hx_col_S hs hTo gqc tt_45 tt_2 rfl rfl).trans cl_qc_10
                    replace cl_qc_9 : hx_col 100 h_103 qc 9 = tf := (hx_col_S hs hTo gqc tt_45 tt_2 rfl rfl).trans cl_qc_9
                    replace cl_qc_11 : hx_col 100 h_103 qc 11 = hrf := (hx_col_S hs hTo gqc tt_45 tt_2 rfl rfl).trans cl_qc_11
                    replace cl_qc_12 : hx_col 100 h_103 qc 12 = udf := (hx_col_S hs hTo gqc tt_45 tt_2 rfl rfl).trans cl_qc_12
                    replace cl_qc_13 : hx_col 100 h_103 qc 13 = odf := (hx_col_S hs hTo gqc tt_45 tt_2 rfl rfl).trans cl_qc_13
                    replace cl_qc_14 : hx_col 100 h_103 qc 14 = wkf := (hx_col_S hs hTo gqc tt_45 tt_2 rfl rfl).trans cl_qc_14
                    replace cl_qc_15 : hx_col 100 h_103 qc 15 = owf := (hx_col_S hs hTo gqc tt_45 tt_2 rfl rfl).trans cl_qc_15
                    replace cl_qc_16 : hx_col 100 h_103 qc 16 = szf := (hx_col_S hs hTo gqc tt_45 tt_2 rfl rfl).trans cl_qc_16
                    replace cl_qc_17 : hx_col 100 h_103 qc 17 = gdf := (hx_col_S hs hTo gqc tt_45 tt_2 rfl rfl).trans cl_qc_17
                    replace cl_qc_18 : hx_col 100 h_103 qc 18 = svf := (hx_col_S hs hTo gqc tt_45 tt_2 rfl rfl).trans cl_qc_18
                    replace nc_89 : hx_col 100 h_103 qc 6 = smf := (hx_col_S hs hTo gqc tt_45 tt_2 rfl rfl).trans nc_89
                    replace nc_92 : hx_col 100 h_103 qc 7 = frf := (hx_col_S hs hTo gqc tt_45 tt_2 rfl rfl).trans nc_92
                    replace nc_95 : hx_col 100 h_103 qc 8 = flf := (hx_col_S hs hTo gqc tt_45 tt_2 rfl rfl).trans nc_95
                    replace nu_qc : hx_num 100 h_103 qc 0 (cn0.toInt) := hx_num_S hs hTo gqc tt_45 tt_2 rfl rfl nu_qc
                    replace sb_ql_qc : hx_LQ 8 100 h_103 ql qc := hx_LQ_S hs (gql.S hM) gqc rfl rfl sb_ql_qc
                    replace hDF : hw_DF h_103 qc qp 2 agf cn0.toInt := hw_DF_S hs hTo gqc gqp tt_45 tt_2 rfl rfl rfl hDF
                    replace hDP : hw_DF h_103 qc qp 1 byf cn0.toInt := hw_DF_S hs hTo gqc gqp tt_45 tt_2 rfl rfl rfl hDP
                    replace hRA : hv_RA h_103 qa w a0.toInt A := hv_RA_S hs hTo gqa gw tt_43 tt_0 rfl rfl rfl rfl rfl rfl (by omega) hRA
                    replace hAC : hv_AC h_103 qc plf cn0.toInt A := hv_AC_S hs hTo gqc tt_45 tt_2 rfl tt_0 rfl rfl rfl rfl rfl rfl rfl hAC
                    replace hBX : hv_FX 3 5 h_103 qc bF cn0.toInt := hv_FX_S hs hTo gqc tt_45 tt_2 rfl rfl rfl rfl hBX
                    replace hHL : hv_HL h_103 qh qc hof m0.toInt cn0.toInt := hv_HL_S hs gqh gqc rfl rfl hHL
                    replace kk_62Q : hv_AQ h_103 q_61 (((kk_62 : Nat) : Int) - 1) (A kk_62) := hv_AQ_S hs hTo gq_61 tt_0 rfl rfl rfl rfl rfl kk_62Q
                    replace hNF4 : hv_NF 4 h_103 qc q_83 cn0.toInt := hv_NF_S hs hTo gqc tt_45 tt_2 rfl rfl hNF4
                    replace hNF5 : hv_NF 5 h_103 qc q_85 cn0.toInt := hv_NF_S hs hTo gqc tt_45 tt_2 rfl rfl hNF5
                    replace fo_20 := (hs.a gqp rfl _).2.trans fo_20
                    replace fo_30 := (hs.a gqp rfl _).2.trans fo_30
                    replace nfw_86 : h_103.2.1 q_85 = fw_86 := (funext fun j => (hs.a gq_85 rfl j).1).trans nfw_86
                    replace hM := hM.tr (hs.mono (by decide))
                    replace gx := gx.S hs
                    replace gqp := gqp.S hs
                    replace gqc := gqc.S hs
                    replace gqa := gqa.S hs
                    replace gw := gw.S hs
                    replace gqh := gqh.S hs
                    replace gq_6 := gq_6.S hs
                    replace gq_26 := gq_26.S hs
                    replace gq_61 := gq_61.S hs
                    replace gq_54 := gq_54.S hs
                    replace gq_83 := gq_83.S hs
                    replace gq_85 := gq_85.S hs
                    obtain ⟨fa_104, dfa_104⟩ : ∃ g : Nat → Int32, g = hx_up fa_101 (7 : Int32).toNatClampNeg i3 := ⟨_, rfl⟩
                    have nfa_104 : h_103.2.1 q_83 = fa_104 := by rw [eh_103, dfa_104, ← nfa_101O]; exact hx_pi_fun _ _ _ _
                    have hFX_105 : hv_FX 8 4 h_103 qc cF cn0.toInt := hv_FX_o hFXO9 hNFO9 eh_103
                    refine lv_aload_n hx hb dX9_file_165 rfl (lv_at hl 3 rfl) ?_
                    refine hk_getr hx hb hts hC_9 hown hW gx tt_9 10 (by decide) rfl kw_374 ⟨rfl, rfl, rfl⟩ f_x_10 dX9_file_166 ?_
                    refine lv_aload_n hx hb dX9_file_169 rfl (lv_at hl 3 rfl) ?_
                    refine hk_geti hx hb hts hC_9 hown hW gx tt_9 11 (by decide) rfl kw_375 ⟨rfl, rfl, rfl⟩ f_x_11 dX9_file_170 ?_
                    refine lv_aload hx hb dX9_file_173 (lv_at hl 0 rfl) ?_
                    have hDFO9 := hDF
                    have hDPO9 := hDP
                    have hACO9 := hAC
                    have hFXO9 := hFX_105
                    have hBXO9 := hBX
                    have hHLO9 := hHL
                    have hNFO9 := hNF4
                    have hNBO9 := hNF5
                    have hAQO9 := kk_62Q
                    have hTO9 := hT
                    have gqcO9 := gqc
                    have gqpO8 := gqp
                    have gqhO9 := gqh
                    have gqNO9 := gq_54
                    have fdO9 := po_79
                    have fpO9 := po_78
                    have faO9 := po_80
                    have ffO9 := fq_83
                    have fbO9 := fq_85
                    have foDO9 := fo_30
                    have foPO9 := fo_20
                    have nfO9 := nfa_104
                    have nbO9 := nfw_86
                    have hTo := hT
                    have cl_qc_10O := cl_qc_10
                    have po_68O := po_68
                    have cl_qc_9O := cl_qc_9
                    have po_70O := po_70
                    have cl_qc_11O := cl_qc_11
                    have po_69O := po_69
                    have cl_qc_12O := cl_qc_12
                    have po_71O := po_71
                    have cl_qc_13O := cl_qc_13
                    have po_72O := po_72
                    have cl_qc_14O := cl_qc_14
                    have po_75O := po_75
                    have cl_qc_15O := cl_qc_15
                    have po_76O := po_76
                    have cl_qc_16O := cl_qc_16
                    have po_73O := po_73
                    have cl_qc_17O := cl_qc_17
                    have po_77O := po_77
                    have cl_qc_18O := cl_qc_18
                    have po_74O := po_74
                    have nc_89O := nc_89
                    have f_88O := f_88
                    have nc_92O := nc_92
                    have f_91O := f_91
                    have nc_95O := nc_95
                    have f_94O := f_94
                    have nu_qcO := nu_qc
                    have po_67O := po_67
                    have sb_ql_qcO := sb_ql_qc
                    have gsO_ql := (gql.S hM)
                    have pf_x_11O := pf_x_11
                    refine hx_aast hx hb hW hT (hx_S.rf (M := [(45, 0)])) gqc tt_45 rfl gq_54 tt_2 rfl (by decide) ⟨by omega, by omega⟩ (List.mem_singleton.mpr rfl) dX9_file_175 (fun H locs h_106 eh_106 hW hT hs => ?_)
                    replace f_x_7 := (hs.o gx trivial rfl).2.trans f_x_7
                    replace f_x_10 := (hs.o gx trivial rfl).2.trans f_x_10
                    replace f_x_5 := (hs.o gx trivial rfl).2.trans f_x_5
                    replace f_x_4 := (hs.o gx trivial rfl).2.trans f_x_4
                    replace f_x_19 := (hs.o gx trivial rfl).2.trans f_x_19
                    replace f_x_12 := (hs.o gx trivial rfl).2.trans f_x_12
                    replace f_x_11 := (hs.o gx trivial rfl).1.trans f_x_11
                    replace f_x_8 := (hs.o gx trivial rfl).1.trans f_x_8
                    replace f_x_2 := (hs.o gx trivial rfl).1.trans f_x_2
                    replace f_x_6 := (hs.o gx trivial rfl).1.trans f_x_6
                    replace f_x_13 := (hs.o gx trivial rfl).1.trans f_x_13
                    replace fx_33 := (hs.o gq_26 trivial rfl).1.trans fx_33
                    replace po_67 := (hs.o gq_54 trivial rfl).1.trans po_67
                    replace po_68 := (hs.o gq_54 trivial rfl).1.trans po_68
                    replace po_69 := (hs.o gq_54 trivial rfl).1.trans po_69
                    replace po_70 := (hs.o gq_54 trivial rfl).1.trans po_70
                    replace po_71 := (hs.o gq_54 trivial rfl).1.trans po_71
                    replace po_72 := (hs.o gq_54 trivial rfl).1.trans po_72
                    replace po_73 := (hs.o gq_54 trivial rfl).1.trans po_73
                    replace po_74 := (hs.o gq_54 trivial rfl).1.trans po_74
                    replace po_75 := (hs.o gq_54 trivial rfl).1.trans po_75
                    replace po_76 := (hs.o gq_54 trivial rfl).1.trans po_76
                    replace po_77 := (hs.o gq_54 trivial rfl).1.trans po_77
                    replace po_78 := (hs.o gq_54 trivial rfl).2.trans po_78
                    replace po_79 := (hs.o gq_54 trivial rfl).2.trans po_79
                    replace po_80 := (hs.o gq_54 trivial rfl).2.trans po_80
                    replace fq_83 := (hs.o gq_54 trivial rfl).2.trans fq_83
                    replace fq_85 := (hs.o gq_54 trivial rfl).2.trans fq_85
                    replace f_88 := (hs.o gq_54 trivial rfl).1.trans f_88
                    replace f_91 := (hs.o gq_54 trivial rfl).1.trans f_91
                    replace f_94 := (hs.o gq_54 trivial rfl).1.trans f_94
                    replace pf_x_8 : ∀ j : Nat, (j : Int) < (h_106.2.1 x 8).toInt → h_106.2.2 qp j ≠ none := by
                      intro j hj; rw [(hs.o gx trivial rfl).1] at hj; rw [(hs.a gqp rfl j).2]; exact pf_x_8 j hj
                    replace pf_x_6 : ∀ j : Nat, (j : Int) < (h_106.2.1 x 6).toInt → h_106.2.2 qa j ≠ none := by
                      intro j hj; rw [(hs.o gx trivial rfl).1] at hj; rw [(hs.a gqa rfl j).2]; exact pf_x_6 j hj
                    replace cl_qp_7 : hx_col 40 h_106 qp 7 = df := (hx_col_S hs hTo gqp tt_44 tt_4 rfl rfl).trans cl_qp_7
                    replace hRA : hv_RA h_106 qa w a0.toInt A := hv_RA_S hs hTo gqa gw tt_43 tt_0 rfl rfl rfl rfl rfl rfl (by omega) hRA
                    replace kk_62Q : hv_AQ h_106 q_61 (((kk_62 : Nat) : Int) - 1) (A kk_62) := hv_AQ_S hs hTo gq_61 tt_0 rfl rfl rfl rfl rfl kk_62Q
                    replace fo_20 := (hs.a gqp rfl _).2.trans fo_20
                    replace fo_30 := (hs.a gqp rfl _).2.trans fo_30
                    replace nfw_86 : h_106.2.1 q_85 = fw_86 := (funext fun j => (hs.a gq_85 rfl j).1).trans nfw_86
                    replace nfa_104 : h_106.2.1 q_83 = fa_104 := (funext fun j => (hs.a gq_83 rfl j).1).trans nfa_104
                    replace hM := hM.tr (hs.mono (by decide))
                    replace gx := gx.S hs
                    replace gqp := gqp.S hs
                    replace gqc := gqc.S hs
                    replace gqa := gqa.S hs
                    replace gw := gw.S hs
                    replace gqh := gqh.S hs
                    replace gq_6 := gq_6.S hs
                    replace gq_26 := gq_26.S hs
                    replace gq_61 := gq_61.S hs
                    replace gq_54 := gq_54.S hs
                    replace gq_83 := gq_83.S hs
                    replace gq_85 := gq_85.S hs
                    have pf_x_11 : ∀ j : Nat, (j : Int) < (h_106.2.1 x 11).toInt → h_106.2.2 qc j ≠ none := hx_pfk pf_x_11O eh_106
                    have px_107 : ∀ j : Nat, (j : Int) < cn0.toInt + 1 → h_106.2.2 qc j ≠ none := hx_pfx pf_x_11O (by first | exact f_x_11 | exact ((hs.o gx trivial rfl).1.symm.trans f_x_11)) (by omega) eh_106
                    have sb_108 : hx_LQ 8 100 h_106 ql qc := hx_LQ_pr2 sb_ql_qcO nu_qcO eh_106 (by omega) (by omega) (gqc.ne (gql.S hM) (by decide))
                    obtain ⟨fc_109, dfc_109⟩ : ∃ g : Nat → Int32, g = hx_up ff cn0.toNatClampNeg (-1 : Int32) := ⟨_, rfl⟩
                    have nfc_109 : hx_col 100 h_106 qc 10 = fc_109 := by rw [dfc_109]; exact (hx_col_pr eh_106 (by unfold Int32.toNatClampNeg; omega)).trans (by rw [cl_qc_10O, po_68O])
                    obtain ⟨fc_110, dfc_110⟩ : ∃ g : Nat → Int32, g = hx_up tf cn0.toNatClampNeg (0 : Int32) := ⟨_, rfl⟩
                    have nfc_110 : hx_col 100 h_106 qc 9 = fc_110 := by rw [dfc_110]; exact (hx_col_pr eh_106 (by unfold Int32.toNatClampNeg; omega)).trans (by rw [cl_qc_9O, po_70O])
                    obtain ⟨fc_111, dfc_111⟩ : ∃ g : Nat → Int32, g = hx_up hrf cn0.toNatClampNeg (-1 : Int32) := ⟨_, rfl⟩
                    have nfc_111 : hx_col 100 h_106 qc 11 = fc_111 := by rw [dfc_111]; exact (hx_col_pr eh_106 (by unfold Int32.toNatClampNeg; omega)).trans (by rw [cl_qc_11O, po_69O])
                    obtain ⟨fc_112, dfc_112⟩ : ∃ g : Nat → Int32, g = hx_up udf cn0.toNatClampNeg (0 : Int32) := ⟨_, rfl⟩
                    have nfc_112 : hx_col 100 h_106 qc 12 = fc_112 := by rw [dfc_112]; exact (hx_col_pr eh_106 (by unfold Int32.toNatClampNeg; omega)).trans (by rw [cl_qc_12O, po_71O])
                    obtain ⟨fc_113, dfc_113⟩ : ∃ g : Nat → Int32, g = hx_up odf cn0.toNatClampNeg (-1 : Int32) := ⟨_, rfl⟩
                    have nfc_113 : hx_col 100 h_106 qc 13 = fc_113 := by rw [dfc_113]; exact (hx_col_pr eh_106 (by unfold Int32.toNatClampNeg; omega)).trans (by rw [cl_qc_13O, po_72O])
                    obtain ⟨fc_114, dfc_114⟩ : ∃ g : Nat → Int32, g = hx_up wkf cn0.toNatClampNeg (0 : Int32) := ⟨_, rfl⟩
                    have nfc_114 : hx_col 100 h_106 qc 14 = fc_114 := by rw [dfc_114]; exact (hx_col_pr eh_106 (by unfold Int32.toNatClampNeg; omega)).trans (by rw [cl_qc_14O, po_75O])
                    obtain ⟨fc_115, dfc_115⟩ : ∃ g : Nat → Int32, g = hx_up owf cn0.toNatClampNeg (0 : Int32) := ⟨_, rfl⟩
                    have nfc_115 : hx_col 100 h_106 qc 15 = fc_115 := by rw [dfc_115]; exact (hx_col_pr eh_106 (by unfold Int32.toNatClampNeg; omega)).trans (by rw [cl_qc_15O, po_76O])
                    obtain ⟨fc_116, dfc_116⟩ : ∃ g : Nat → Int32, g = hx_up szf cn0.toNatClampNeg (-1 : Int32) := ⟨_, rfl⟩
                    have nfc_116 : hx_col 100 h_106 qc 16 = fc_116 := by rw [dfc_116]; exact (hx_col_pr eh_106 (by unfold Int32.toNatClampNeg; omega)).trans (by rw [cl_qc_16O, po_73O])
                    obtain ⟨fc_117, dfc_117⟩ : ∃ g : Nat → Int32, g = hx_up gdf cn0.toNatClampNeg (0 : Int32) := ⟨_, rfl⟩
                    have nfc_117 : hx_col 100 h_106 qc 17 = fc_117 := by rw [dfc_117]; exact (hx_col_pr eh_106 (by unfold Int32.toNatClampNeg; omega)).trans (by rw [cl_qc_17O, po_77O])
                    obtain ⟨fc_118, dfc_118⟩ : ∃ g : Nat → Int32, g = hx_up svf cn0.toNatClampNeg (-1 : Int32) := ⟨_, rfl⟩
                    have nfc_118 : hx_col 100 h_106 qc 18 = fc_118 := by rw [dfc_118]; exact (hx_col_pr eh_106 (by unfold Int32.toNatClampNeg; omega)).trans (by rw [cl_qc_18O, po_74O])
                    obtain ⟨fc_119, dfc_119⟩ : ∃ g : Nat → Int32, g = hx_up smf cn0.toNatClampNeg i3 := ⟨_, rfl⟩
                    have nfc_119 : hx_col 100 h_106 qc 6 = fc_119 := by rw [dfc_119]; exact (hx_col_pr eh_106 (by unfold Int32.toNatClampNeg; omega)).trans (by rw [nc_89O, f_88O])
                    obtain ⟨fc_120, dfc_120⟩ : ∃ g : Nat → Int32, g = hx_up frf cn0.toNatClampNeg i4 := ⟨_, rfl⟩
                    have nfc_120 : hx_col 100 h_106 qc 7 = fc_120 := by rw [dfc_120]; exact (hx_col_pr eh_106 (by unfold Int32.toNatClampNeg; omega)).trans (by rw [nc_92O, f_91O])
                    obtain ⟨fc_121, dfc_121⟩ : ∃ g : Nat → Int32, g = hx_up flf cn0.toNatClampNeg nw0 := ⟨_, rfl⟩
                    have nfc_121 : hx_col 100 h_106 qc 8 = fc_121 := by rw [dfc_121]; exact (hx_col_pr eh_106 (by unfold Int32.toNatClampNeg; omega)).trans (by rw [nc_95O, f_94O])
                    have nu_122 : hx_num 100 h_106 qc 0 (cn0.toInt + 1) := hx_num_pr nu_qcO eh_106 (by omega) (by omega) (by rw [po_67O])
                    have hDFn : hw_DF h_106 qc qp 2 (hx_up agf cn0.toInt.toNat i2) (cn0.toInt + 1) := hw_DF_c hDFO9 hTO9 gqcO9 gqpO8 gqNO9 tt_45 (by decide) (by decide) eh_106 (by omega) (by omega) fdO9 foDO9 (by omega) (by omega) rfl
                    have hDPn : hw_DF h_106 qc qp 1 (hx_up byf cn0.toInt.toNat i1) (cn0.toInt + 1) := hw_DF_c hDPO9 hTO9 gqcO9 gqpO8 gqNO9 tt_45 (by decide) (by decide) eh_106 (by omega) (by omega) fpO9 foPO9 (by omega) (by omega) rfl
                    have hACn : hv_AC h_106 qc (hx_up plf cn0.toInt.toNat pv9) (cn0.toInt + 1) A := hv_AC_c hACO9 hTO9 gqcO9 gqNO9 tt_45 tt_2 rfl (by decide) eh_106 (by omega) (by omega) faO9 (by omega) (by rw [hpv9, ← kk_62E, Int.toNat_natCast]; exact hAQO9) rfl
                    have hFXn : hv_FX 8 4 h_106 qc (hv_u8 cF cn0.toInt.toNat fa_104) (cn0.toInt + 1) := hv_FX_c hFXO9 hNFO9 hTO9 gqcO9 gqNO9 tt_45 (by decide) eh_106 (by omega) (by omega) ffO9 (fun k hk => by rw [nfO9]; exact (hv_u8_at hk).symm) (fun c k hc hk => hv_u8_ne hk (by omega)) rfl
                    have hBXn : hv_FX 3 5 h_106 qc (hv_b3 bF cn0.toInt.toNat) (cn0.toInt + 1) := hv_FX_c hBXO9 hNBO9 hTO9 gqcO9 gqNO9 tt_45 (by decide) eh_106 (by omega) (by omega) fbO9 (fun k hk => by rw [nbO9, hv_b3_at hk]; exact hv_k3 po_82 hk) (fun c k hc hk => hv_b3_ne hk (by omega)) rfl
                    have hHLn : hv_HL h_106 qh qc hof m0.toInt (cn0.toInt + 1) := hv_HL_c hHLO9 (gqhO9.ne gqcO9 (by decide)) eh_106 (by omega) (by omega) rfl
                    refine lv_aload_n hx hb dX9_file_176 rfl (lv_at hl 3 rfl) ?_
                    refine lv_dup hx hb dX9_file_177 rfl ?_
                    refine hk_geti hx hb hts hC_9 hown hW gx tt_9 11 (by decide) rfl kw_375 ⟨rfl, rfl, rfl⟩ f_x_11 dX9_file_178 ?_
                    refine lv_iconst (v := 1) hx hb dX9_file_181 (by decide) ?_
                    refine lv_iadd hx hb dX9_file_182 ?_
                    have rg_123 := i32_r cn0
                    refine lv_topi (fun x_124 ex_124 => ?_)
                    have zx_124 : x_124.toInt = cn0.toInt + 1 := by rw [ex_124]; exact i32_add rfl (by decide) (by omega) (by omega)
                    have hTo := hT
                    refine hx_puti hx hb hts hC_9 hown hW hT (hx_S.rf (M := [(9, 11)])) gx tt_9 11 (by decide) rfl kw_375 ⟨rfl, rfl, rfl⟩ rfl (x := x_124) ⟨by omega, by omega⟩ rfl rfl rfl (List.mem_singleton.mpr rfl) dX9_file_183 (fun H locs h_125 eh_125 hW hT hs => ?_)
                    replace px_107 : ∀ j : Nat, (j : Int) < cn0.toInt + 1 → h_125.2.2 qc j ≠ none := fun j hj => by rw [(hs.a gqc rfl j).2]; exact px_107 j hj
                    replace f_x_7 := (hs.o gx trivial rfl).2.trans f_x_7
                    replace f_x_10 := (hs.o gx trivial rfl).2.trans f_x_10
                    replace f_x_5 := (hs.o gx trivial rfl).2.trans f_x_5
                    replace f_x_4 := (hs.o gx trivial rfl).2.trans f_x_4
                    replace f_x_19 := (hs.o gx trivial rfl).2.trans f_x_19
                    replace f_x_12 := (hs.o gx trivial rfl).2.trans f_x_12
                    replace f_x_8 := (hs.o gx trivial rfl).1.trans f_x_8
                    replace f_x_2 := (hs.o gx trivial rfl).1.trans f_x_2
                    replace f_x_6 := (hs.o gx trivial rfl).1.trans f_x_6
                    replace f_x_13 := (hs.o gx trivial rfl).1.trans f_x_13
                    replace fx_33 := (hs.o gq_26 trivial rfl).1.trans fx_33
                    replace po_67 := (hs.o gq_54 trivial rfl).1.trans po_67
                    replace po_68 := (hs.o gq_54 trivial rfl).1.trans po_68
                    replace po_69 := (hs.o gq_54 trivial rfl).1.trans po_69
                    replace po_70 := (hs.o gq_54 trivial rfl).1.trans po_70
                    replace po_71 := (hs.o gq_54 trivial rfl).1.trans po_71
                    replace po_72 := (hs.o gq_54 trivial rfl).1.trans po_72
                    replace po_73 := (hs.o gq_54 trivial rfl).1.trans po_73
                    replace po_74 := (hs.o gq_54 trivial rfl).1.trans po_74
                    replace po_75 := (hs.o gq_54 trivial rfl).1.trans po_75
                    replace po_76 := (hs.o gq_54 trivial rfl).1.trans po_76
                    replace po_77 := (hs.o gq_54 trivial rfl).1.trans po_77
                    replace po_78 := (hs.o gq_54 trivial rfl).2.trans po_78
                    replace po_79 := (hs.o gq_54 trivial rfl).2.trans po_79
                    replace po_80 := (hs.o gq_54 trivial rfl).2.trans po_80
                    replace fq_83 := (hs.o gq_54 trivial rfl).2.trans fq_83
                    replace fq_85 := (hs.o gq_54 trivial rfl).2.trans fq_85
                    replace f_88 := (hs.o gq_54 trivial rfl).1.trans f_88
                    replace f_91 := (hs.o gq_54 trivial rfl).1.trans f_91
                    replace f_94 := (hs.o gq_54 trivial rfl).1.trans f_94
                    replace pf_x_8 : ∀ j : Nat, (j : Int) < (h_125.2.1 x 8).toInt → h_125.2.2 qp j ≠ none := by
                      intro j hj; rw [(hs.o gx trivial rfl).1] at hj; rw [(hs.a gqp rfl j).2]; exact pf_x_8 j hj
                    replace pf_x_6 : ∀ j : Nat, (j : Int) < (h_125.2.1 x 6).toInt → h_125.2.2 qa j ≠ none := by
                      intro j hj; rw [(hs.o gx trivial rfl).1] at hj; rw [(hs.a gqa rfl j).2]; exact pf_x_6 j hj
                    replace cl_qp_7 : hx_col 40 h_125 qp 7 = df := (hx_col_S hs hTo gqp tt_44 tt_4 rfl rfl).trans cl_qp_7
                    replace nfc_109 : hx_col 100 h_125 qc 10 = fc_109 := (hx_col_S hs hTo gqc tt_45 tt_2 rfl rfl).trans nfc_109
                    replace nfc_110 : hx_col 100 h_125 qc 9 = fc_110 := (hx_col_S hs hTo gqc tt_45 tt_2 rfl rfl).trans nfc_110
                    replace nfc_111 : hx_col 100 h_125 qc 11 = fc_111 := (hx_col_S hs hTo gqc tt_45 tt_2 rfl rfl).trans nfc_111
                    replace nfc_112 : hx_col 100 h_125 qc 12 = fc_112 := (hx_col_S hs hTo gqc tt_45 tt_2 rfl rfl).trans nfc_112
                    replace nfc_113 : hx_col 100 h_125 qc 13 = fc_113 := (hx_col_S hs hTo gqc tt_45 tt_2 rfl rfl).trans nfc_113
                    replace nfc_114 : hx_col 100 h_125 qc 14 = fc_114 := (hx_col_S hs hTo gqc tt_45 tt_2 rfl rfl).trans nfc_114
                    replace nfc_115 : hx_col 100 h_125 qc 15 = fc_115 := (hx_col_S hs hTo gqc tt_45 tt_2 rfl rfl).trans nfc_115
                    replace nfc_116 : hx_col 100 h_125 qc 16 = fc_116 := (hx_col_S hs hTo gqc tt_45 tt_2 rfl rfl).trans nfc_116
                    replace nfc_117 : hx_col 100 h_125 qc 17 = fc_117 := (hx_col_S hs hTo gqc tt_45 tt_2 rfl rfl).trans nfc_117
                    replace nfc_118 : hx_col 100 h_125 qc 18 = fc_118 := (hx_col_S hs hTo gqc tt_45 tt_2 rfl rfl).trans nfc_118
                    replace nfc_119 : hx_col 100 h_125 qc 6 = fc_119 := (hx_col_S hs hTo gqc tt_45 tt_2 rfl rfl).trans nfc_119
                    replace nfc_120 : hx_col 100 h_125 qc 7 = fc_120 := (hx_col_S hs hTo gqc tt_45 tt_2 rfl rfl).trans nfc_120
                    replace nfc_121 : hx_col 100 h_125 qc 8 = fc_121 := (hx_col_S hs hTo gqc tt_45 tt_2 rfl rfl).trans nfc_121
                    replace nu_122 : hx_num 100 h_125 qc 0 (cn0.toInt + 1) := hx_num_S hs hTo gqc tt_45 tt_2 rfl rfl nu_122
                    replace sb_108 : hx_LQ 8 100 h_125 ql qc := hx_LQ_S hs (gql.S hM) gqc rfl rfl sb_108
                    replace hRA : hv_RA h_125 qa w a0.toInt A := hv_RA_S hs hTo gqa gw tt_43 tt_0 rfl rfl rfl rfl rfl rfl (by omega) hRA
                    replace kk_62Q : hv_AQ h_125 q_61 (((kk_62 : Nat) : Int) - 1) (A kk_62) := hv_AQ_S hs hTo gq_61 tt_0 rfl rfl rfl rfl rfl kk_62Q
                    replace hDFn : hw_DF h_125 qc qp 2 (hx_up agf cn0.toInt.toNat i2) (cn0.toInt + 1) := hw_DF_S hs hTo gqc gqp tt_45 tt_2 rfl rfl rfl hDFn
                    replace hDPn : hw_DF h_125 qc qp 1 (hx_up byf cn0.toInt.toNat i1) (cn0.toInt + 1) := hw_DF_S hs hTo gqc gqp tt_45 tt_2 rfl rfl rfl hDPn
                    replace hACn : hv_AC h_125 qc (hx_up plf cn0.toInt.toNat pv9) (cn0.toInt + 1) A := hv_AC_S hs hTo gqc tt_45 tt_2 rfl tt_0 rfl rfl rfl rfl rfl rfl rfl hACn
                    replace hFXn : hv_FX 8 4 h_125 qc (hv_u8 cF cn0.toInt.toNat fa_104) (cn0.toInt + 1) := hv_FX_S hs hTo gqc tt_45 tt_2 rfl rfl rfl rfl hFXn
                    replace hBXn : hv_FX 3 5 h_125 qc (hv_b3 bF cn0.toInt.toNat) (cn0.toInt + 1) := hv_FX_S hs hTo gqc tt_45 tt_2 rfl rfl rfl rfl hBXn
                    replace hHLn : hv_HL h_125 qh qc hof m0.toInt (cn0.toInt + 1) := hv_HL_S hs gqh gqc rfl rfl hHLn
                    replace fo_20 := (hs.a gqp rfl _).2.trans fo_20
                    replace fo_30 := (hs.a gqp rfl _).2.trans fo_30
                    replace nfw_86 : h_125.2.1 q_85 = fw_86 := (funext fun j => (hs.a gq_85 rfl j).1).trans nfw_86
                    replace nfa_104 : h_125.2.1 q_83 = fa_104 := (funext fun j => (hs.a gq_83 rfl j).1).trans nfa_104
                    replace hM := hM.tr (hs.mono (by decide))
                    replace gx := gx.S hs
                    replace gqp := gqp.S hs
                    replace gqc := gqc.S hs
                    replace gqa := gqa.S hs
                    replace gw := gw.S hs
                    replace gqh := gqh.S hs
                    replace gq_6 := gq_6.S hs
                    replace gq_26 := gq_26.S hs
                    replace gq_61 := gq_61.S hs
                    replace gq_54 := gq_54.S hs
                    replace gq_83 := gq_83.S hs
                    replace gq_85 := gq_85.S hs
                    have f_126 : h_125.2.1 x 11 = x_124 := by rw [eh_125]; exact hx_pi_at _ _ _ _
                    have pf_127 : ∀ j : Nat, (j : Int) < (h_125.2.1 x 11).toInt → h_125.2.2 qc j ≠ none := fun j hj => px_107 j (by rw [f_126] at hj; omega)
                    refine lv_aload hx hb dX9_file_186 (lv_at hl 0 rfl) ?_
                    refine hk_geti hx hb hts hC_2 hown hW gq_54 tt_2 0 (by decide) rfl kw_724 ⟨rfl, rfl, rfl⟩ po_67 dX9_file_188 ?_
                    refine W.widen (k := 3) (n := 30) (Nat.le_of_ble_eq_true rfl) (Nat.le_of_ble_eq_true rfl) ?_
                    exact hx_reti hx hb hr hlk hW ⟨⟨x_124, fc_109, fc_110, fc_119, fc_120, fc_121, fc_111, fc_112, fc_113, fc_114, fc_115, fc_116, fc_117, fc_118, f_126, nfc_109, nfc_110, nfc_119, nfc_120, nfc_121, nfc_111, nfc_112, nfc_113, nfc_114, nfc_115, nfc_116, nfc_117, nfc_118, ⟨(hx_num_c nu_122 (by omega)), ⟨sb_108, ⟨⟨(Or.inr ⟨by omega, by omega, by unfold hx_FC; exact ⟨by omega, by omega, by omega, by omega, (by show (df i2.toNatClampNeg).toInt = 0; rw [← cx_33]; omega), by omega, by omega, by omega⟩⟩), (Or.inr ⟨by omega, by omega, dfc_109⟩), (Or.inr ⟨by omega, by omega, dfc_110⟩), (Or.inr ⟨by omega, by omega, dfc_119⟩), (Or.inr ⟨by omega, by omega, dfc_120⟩), (Or.inr ⟨by omega, by omega, dfc_121⟩), (Or.inr ⟨by omega, by omega, dfc_111⟩), (Or.inr ⟨by omega, by omega, dfc_112⟩), ⟨hx_up agf cn0.toInt.toNat i2, hx_up byf cn0.toInt.toNat i1, hx_up plf cn0.toInt.toNat pv9, hv_u8 cF cn0.toInt.toNat fa_104, hv_b3 bF cn0.toInt.toNat, pv9, (Or.inr ⟨by omega, rfl⟩), (Or.inr ⟨by omega, rfl⟩), ⟨hpv9, (Or.inr ⟨by omega, rfl⟩)⟩, hv_FU_i (by omega) (by omega) dfa_98 dfa_101 dfa_104, (Or.inr ⟨by omega, rfl⟩), hw_DF_e hDFn rfl (by omega), hw_DF_e hDPn rfl (by omega), hv_AC_e hACn rfl (by omega) rfl, hv_FX_e hFXn rfl (by omega), hv_FX_e hBXn rfl (by omega), hv_HL_e hHLn rfl rfl (by omega)⟩⟩, ⟨(Or.inr ⟨by omega, by omega, dfc_113⟩), (Or.inr ⟨by omega, by omega, dfc_114⟩), (Or.inr ⟨by omega, by omega, dfc_115⟩), (Or.inr ⟨by omega, by omega, dfc_116⟩), (Or.inr ⟨by omega, by omega, dfc_117⟩), (Or.inr ⟨by omega, by omega, dfc_118⟩)⟩⟩⟩⟩⟩, hT, hM, pf_127⟩ dX9_file_191
                  refine hb_if_eq (zx := i5.toInt) (tgt := 145) hx hb rfl dX9_file_138 (by decide) (fun c_128 => ?_) (fun c_128 => ?_)
                  · skip
                    refine lv_iconst (v := 0) hx hb dX9_file_145 (by decide) ?_
                    have zj_146 : (0 : Int32).toInt = 0 := by decide
                    exact jn_146 (0 : Int32) ls (by decide) (by decide) (by omega) hl
                  · skip
                    refine lv_iconst (v := 1) hx hb dX9_file_141 (by decide) ?_
                    refine lv_goto (tgt := 146) hx hb dX9_file_142 (by decide) ?_
                    have zj_146 : (1 : Int32).toInt = 1 := by decide
                    exact jn_146 (1 : Int32) ls (by decide) (by decide) (by omega) hl
                · skip
                  replace hr_51 := hr_51.resolve_right (fun z9 => absurd (c_52.symm.trans z9.1) (by decide))
                  replace hr_51 := hr_51.2
                  refine lv_iconst (v := -1) hx hb dX9_file_81 (by decide) ?_
                  refine W.widen (k := 3) (n := 30) (Nat.le_of_ble_eq_true rfl) (Nat.le_of_ble_eq_true rfl) ?_
                  exact hx_reti hx hb hr hlk hW ⟨⟨cn0, ff, tf, smf, frf, flf, hrf, udf, odf, wkf, owf, szf, gdf, svf, f_x_11, cl_qc_10, cl_qc_9, cl_qc_6, cl_qc_7, cl_qc_8, cl_qc_11, cl_qc_12, cl_qc_13, cl_qc_14, cl_qc_15, cl_qc_16, cl_qc_17, cl_qc_18, ⟨(hx_num_c nu_qc (by omega)), ⟨sb_ql_qc, ⟨⟨(Or.inl ⟨by decide, by omega, fun hc => by unfold hx_FC at hc; have h1 : (df i2.toNatClampNeg).toInt = 0 := hc.2.2.2.2.1; rw [← cx_33] at h1; omega⟩), (Or.inl ⟨by decide, rfl⟩), (Or.inl ⟨by decide, rfl⟩), (Or.inl ⟨by decide, rfl⟩), (Or.inl ⟨by decide, rfl⟩), (Or.inl ⟨by decide, rfl⟩), (Or.inl ⟨by decide, rfl⟩), (Or.inl ⟨by decide, rfl⟩), ⟨agf, byf, plf, cF, bF, pv9, (Or.inl ⟨by decide, rfl⟩), (Or.inl ⟨by decide, rfl⟩), ⟨hpv9, (Or.inl ⟨by decide, rfl⟩)⟩, (Or.inl ⟨by decide, rfl⟩), (Or.inl ⟨by decide, rfl⟩), hw_DF_e hDF rfl (by omega), hw_DF_e hDP rfl (by omega), hv_AC_e hAC rfl (by omega) rfl, hv_FX_e hFX rfl (by omega), hv_FX_e hBX rfl (by omega), hv_HL_e hHL rfl rfl (by omega)⟩⟩, ⟨(Or.inl ⟨by decide, rfl⟩), (Or.inl ⟨by decide, rfl⟩), (Or.inl ⟨by decide, rfl⟩), (Or.inl ⟨by decide, rfl⟩), (Or.inl ⟨by decide, rfl⟩), (Or.inl ⟨by decide, rfl⟩)⟩⟩⟩⟩⟩, hT, hM, pf_x_11⟩ dX9_file_82
end
