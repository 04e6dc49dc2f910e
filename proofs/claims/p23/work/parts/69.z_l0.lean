/-! NEW ROWS: what is stored into them is nobody else's -/
theorem hx_S_pn {tb : List hx_d} {M : hx_m} {L L1 : List Nat} {h h1 h2 : hx_h} {q k : Nat} {x : Int32} (hM : hx_S tb M L h L1 h1) (nq : ∀ a ∈ L, a ≠ q) (e : h2 = hx_pi h1 q k x) : hx_S tb M L h L1 h2 := by
  subst e
  refine ⟨fun a ha => hM.1 a ha, fun a ha j hj => ?_⟩
  obtain ⟨y1, y2⟩ := hM.2 a ha j hj
  exact ⟨by rw [hx_pi_ne _ _ (fun z => nq a ha z.1)]; exact y1, y2⟩
theorem hv_bn3 {f f1 f2 f3 : Nat → Int32} {v : Int32} (d1 : f1 = hx_up f (0 : Int32).toNatClampNeg v) (d2 : f2 = hx_up f1 (1 : Int32).toNatClampNeg v) (d3 : f3 = hx_up f2 (2 : Int32).toNatClampNeg v) : f3 0 = v ∧ f3 1 = v ∧ f3 2 = v := by
  have k0 : (0 : Int32).toNatClampNeg = 0 := by decide
  have k1 : (1 : Int32).toNatClampNeg = 1 := by decide
  have k2 : (2 : Int32).toNatClampNeg = 2 := by decide
  rw [k0] at d1; rw [k1] at d2; rw [k2] at d3
  subst d1; subst d2; subst d3
  refine ⟨?_, ?_, ?_⟩
  · rw [hx_up_ne (by omega), hx_up_ne (by omega), hx_up_at]
  · rw [hx_up_ne (by omega), hx_up_at]
  · rw [hx_up_at]
/-! HEARD: both sides alike -/
theorem hv_HC_e {ff ff' hf df df' agf : Nat → Int32} {n i d len len' : Int} (e1 : hx_eqN 100 ff ff') (e2 : hx_eqN 40 df df') (ha : ∀ k, k < 100 → 0 ≤ (agf k).toInt ∧ (agf k).toInt ≤ 39) (hn : n ≤ 100) (el : len = len') : hv_HC ff hf df agf n i d len ↔ hv_HC ff' hf df' agf n i d len' := by
  by_cases hi : 0 ≤ i ∧ i < n
  · have k1 := e1 i.toNat (by omega)
    have b := ha i.toNat (by omega)
    have k2 := e2 (agf i.toNat).toInt.toNat (by omega)
    unfold hv_HC
    rw [k1, k2, el]
  · exact ⟨fun h => absurd h.1 hi, fun h => absurd h.1 hi⟩
theorem hv_fs_e {jf jf' df df' kf : Nat → Int32} {p q : Nat} (ej : hx_eqN 40 jf jf') (ed : hx_eqN 40 df df') : ∀ n, n ≤ 40 → hv_fs jf df kf p q n = hv_fs jf' df' kf p q n
  | 0, _ => rfl
  | n + 1, h => by
    have ih := hv_fs_e (kf := kf) (p := p) (q := q) ej ed n (by omega)
    have ef : hv_ft jf df kf p q n = hv_ft jf' df' kf p q n := by
      unfold hv_ft
      rw [ej n (by omega), ed n (by omega)]
    show (if hv_ft jf df kf p q n = true then hv_fs jf df kf p q n ++ [n] else hv_fs jf df kf p q n) = (if hv_ft jf' df' kf p q n = true then hv_fs jf' df' kf p q n ++ [n] else hv_fs jf' df' kf p q n)
    rw [ef, ih]
theorem hv_HS_2 {C C' : Prop} {i nw m0 m1 r m1' r' : Int32} {J J' : Int} {hf hf1 uf uf1 hof hof1 hf1' uf1' hof1' : Nat → Int32} (h : hv_HS C i nw m0 m1 r J hf hf1 uf uf1 hof hof1) (h' : hv_HS C' i nw m0 m1' r' J' hf hf1' uf uf1' hof hof1') (hC : C ↔ C') (e : C → r.toInt ≠ -1 → r'.toInt ≠ -1 → J = J') : r = r' ∧ m1 = m1' ∧ hf1 = hf1' ∧ uf1 = uf1' ∧ hof1 = hof1' := by
  rcases h with ⟨a1, a2, a3, a4, a5, a6⟩ | ⟨a1, a2, a0, a3, a4, a5, a6⟩ <;> rcases h' with ⟨b1, b2, b3, b4, b5, b6⟩ | ⟨b1, b2, b0, b3, b4, b5, b6⟩
  · exact ⟨Int32.toInt_inj.mp (a1.trans b1.symm), a3.trans b3.symm, a4.trans b4.symm, a5.trans b5.symm, a6.trans b6.symm⟩
  · exact absurd (hC.mpr b1) a2
  · exact absurd (hC.mp a1) b2
  · have er : r = r' := Int32.toInt_inj.mp (a2.trans ((e a1 (by omega) (by omega)).trans b2.symm))
    subst er
    exact ⟨rfl, Int32.toInt_inj.mp (a3.trans b3.symm), a4.trans b4.symm, a5.trans b5.symm, a6.trans b6.symm⟩
theorem hv_FR_h {cF cF1 rf rf1 nf wf sf hf hf1 : Nat → Int32} {n : Int} {c : Nat} {a0 a1 a4 a5 v : Int32} {a6 : Int} (H : hv_FR cF rf nf wf sf hf n) (hc : (c : Int) < n) (hh : (hf c).toInt = -1) (cu : hv_CU cF cF1 c a0 a1 a4 a5 a6) (cv : hv_CV rf rf1 c a0 a1 (nf c) (wf c) a4 a5 a6 (sf c)) (e : hf1 = hx_up hf c v) (hv : v.toInt ≠ -1) : hv_FR cF1 rf1 nf wf sf hf1 n ∧ ∀ k, k < 8 → cF1 (k + 8 * c) = rf1 (k + 8 * c) := by
  obtain ⟨u, u0, u1, u2, u3, u4, u5, u6, u7⟩ := cu
  obtain ⟨w, w0, w1, w2, w3, w4, w5, w6, w7⟩ := cv
  obtain ⟨t2, t3, t7⟩ := (H c hc).2 hh
  have key : ∀ k, k < 8 → cF1 (k + 8 * c) = rf1 (k + 8 * c) := by
    intro k hk
    rcases (show k = 0 ∨ k = 1 ∨ k = 2 ∨ k = 3 ∨ k = 4 ∨ k = 5 ∨ k = 6 ∨ k = 7 by omega) with z | z | z | z | z | z | z | z <;> subst z
    · exact u0.trans w0.symm
    · exact u1.trans w1.symm
    · exact (u2.trans t2).trans w2.symm
    · exact (u3.trans t3).trans w3.symm
    · exact u4.trans w4.symm
    · exact u5.trans w5.symm
    · exact Int32.toInt_inj.mp (u6.trans w6.symm)
    · exact (u7.trans t7).trans w7.symm
  refine ⟨fun d hd => ?_, key⟩
  subst e
  by_cases z : d = c
  · rw [z, hx_up_at]
    exact ⟨fun _ => key, fun q => absurd q hv⟩
  · rw [hx_up_ne z]
    obtain ⟨x1, x2⟩ := H d hd
    refine ⟨fun q k hk => ?_, fun q => ?_⟩
    · rw [u d k hk z, w d k hk z]; exact x1 q k hk
    · rw [u d 2 (by omega) z, u d 3 (by omega) z, u d 7 (by omega) z]; exact x2 q
theorem hv_HR {C C' P P' Q Q' : Prop} {i nw m0 m1 m1' r r' a0 a1 a4 a5 : Int32} {a6 n fr bo su sp : Int} {R : Nat → Int} {o : List hv_tok} {cF cF1 rf rf1 nf wf sf hf hf1 hf1' uf uf1 uf1' hof hof1 hof1' : Nat → Int32} (H : hv_FR cF rf nf wf sf hf n) (hnw : 0 ≤ nw.toInt) (h : hv_HS C i nw m0 m1 r (hv_jg (hv_F0 cF1 (8 * i.toNatClampNeg)) R o fr bo su sp) hf hf1 uf uf1 hof hof1) (h' : hv_HS C' i nw m0 m1' r' (hv_jg (hv_F0 rf1 (8 * i.toNatClampNeg)) R o fr bo su sp) hf hf1' uf uf1' hof hof1') (hC : C ↔ C') (hO : hv_OK o) (hc : C → (i.toNatClampNeg : Int) < n ∧ (hf i.toNatClampNeg).toInt = -1) (c : (r.toInt = -1 ∧ cF1 = cF ∧ P) ∨ (r.toInt ≠ -1 ∧ hv_CU cF cF1 i.toNatClampNeg a0 a1 a4 a5 a6 ∧ Q)) (c' : (r'.toInt = -1 ∧ rf1 = rf ∧ P') ∨ (r'.toInt ≠ -1 ∧ hv_CV rf rf1 i.toNatClampNeg a0 a1 (nf i.toNatClampNeg) (wf i.toNatClampNeg) a4 a5 a6 (sf i.toNatClampNeg) ∧ Q')) : (r = r' ∧ m1 = m1' ∧ hf1 = hf1' ∧ uf1 = uf1' ∧ hof1 = hof1') ∧ hv_FR cF1 rf1 nf wf sf hf1' n := by
  have hE : r = r' ∧ m1 = m1' ∧ hf1 = hf1' ∧ uf1 = uf1' ∧ hof1 = hof1' := by
    refine hv_HS_2 h h' hC (fun z1 z2 z3 => ?_)
    obtain ⟨y1, y2⟩ := hc z1
    rcases c with ⟨w, _⟩ | ⟨_, cu, _⟩
    · exact absurd w z2
    rcases c' with ⟨w, _⟩ | ⟨_, cv, _⟩
    · exact absurd w z3
    have hv : nw.toInt ≠ -1 := by omega
    have key := (hv_FR_h (hf1 := hx_up hf i.toNatClampNeg nw) H y1 y2 cu cv rfl hv).2
    exact hv_jg_e hO (fun k hk => congrArg Int32.toInt (key k hk))
  refine ⟨hE, ?_⟩
  rcases c with ⟨w, e1, _⟩ | ⟨w, cu, _⟩
  · rcases c' with ⟨w', e1', _⟩ | ⟨w', _⟩
    · rw [e1, e1']
      rcases h' with ⟨_, _, _, e4, _⟩ | ⟨_, b2, b0, _⟩
      · rw [e4]; exact H
      · exfalso; omega
    · exfalso; rw [hE.1] at w; exact w' w
  · rcases c' with ⟨w', _⟩ | ⟨w', cv, _⟩
    · exfalso; rw [hE.1] at w; exact w w'
    · rcases h' with ⟨b1, _⟩ | ⟨b1, _, _, _, e4, _⟩
      · exact absurd b1 w'
      · obtain ⟨y1, y2⟩ := hc (hC.mpr b1)
        exact (hv_FR_h H y1 y2 cu cv e4 (by omega)).1
theorem hv_BB {Y Y' X X' : Prop} {l l' : List Nat} {r r' : Int32} {p p' : Int} {k : Nat} {bF bF1 bf1 : Nat → Int32} (er : r = r') (el : l = l') (ep : p = p') (h : (r.toInt = -1 ∧ X ∧ bF1 = bF) ∨ (r.toInt ≠ -1 ∧ Y ∧ ∃ b0 b1 b2 : Int32, hv_BN l p b0 b1 b2 ∧ bF1 = hx_up (hx_up (hx_up bF (0 + 3 * k) b0) (1 + 3 * k) b1) (2 + 3 * k) b2)) (h' : (r'.toInt = -1 ∧ X' ∧ bf1 = bF) ∨ (r'.toInt ≠ -1 ∧ Y' ∧ ∃ b0 b1 b2 : Int32, hv_BN l' p' b0 b1 b2 ∧ bf1 = hx_up (hx_up (hx_up bF (3 * k) b0) (3 * k + 1) b1) (3 * k + 2) b2)) : bF1 = bf1 := by
  subst er; subst el; subst ep
  rcases h with ⟨z, _, e⟩ | ⟨z, _, b0, b1, b2, hb, e⟩ <;> rcases h' with ⟨z', _, e'⟩ | ⟨z', _, c0, c1, c2, hc, e'⟩
  · exact e.trans e'.symm
  · exact absurd z z'
  · exact absurd z' z
  · obtain ⟨q0, q1, q2⟩ := hv_BN_u hb hc
    rw [e, e', q0, q1, q2, show 0 + 3 * k = 3 * k by omega, show 1 + 3 * k = 3 * k + 1 by omega, show 2 + 3 * k = 3 * k + 2 by omega]
theorem hv_HS_hc {ff hf hf1 uf uf1 hof hof1 df agf : Nat → Int32} {c i nw m0 m1 r : Int32} {d len J : Int} (h : hv_HS (hv_HC ff hf df agf c.toInt i.toInt d len) i nw m0 m1 r J hf hf1 uf uf1 hof hof1) (hn : 0 ≤ nw.toInt) (hHC : m0.toInt = hx_hc hf c.toInt.toNat) : m1.toInt = hx_hc hf1 c.toInt.toNat ∧ (hf1 = hf ∨ ∃ (j : Nat) (v : Int32), hf1 = hx_up hf j v ∧ (ff j).toInt ≠ -1) := by
  rcases h with ⟨_, _, e1, e2, _, _⟩ | ⟨⟨⟨a, b⟩, f, g, _⟩, _, _, e1, e2, _, _⟩
  · rw [e1, e2]; exact ⟨hHC, Or.inl rfl⟩
  · exact ⟨hx_hear hHC a b rfl g (by omega) e2 e1, Or.inr ⟨_, _, e2, f⟩⟩
/-- whose number stands in the row of those heard was heard -/
def hv_HO (hof hf : Nat → Int32) (m n : Int) : Prop := ∀ j : Nat, (j : Int) < m → 0 ≤ (hof j).toInt ∧ (hof j).toInt < n ∧ (hf (hof j).toInt.toNat).toInt ≠ -1
theorem hv_HO_0 {hof hf : Nat → Int32} {m n : Int} (h : m = 0) : hv_HO hof hf m n := fun j hj => by exfalso; omega
theorem hv_HO_c {hof hf hf1 : Nat → Int32} {m n n1 : Int} (H : hv_HO hof hf m n) (n0 : 0 ≤ n) (p : (n1 = n ∧ hf1 = hf) ∨ (n1 = n + 1 ∧ hf1 = hx_up hf n.toNat (-1))) : hv_HO hof hf1 m n1 := by
  intro j hj
  obtain ⟨a, b, c⟩ := H j hj
  rcases p with ⟨e1, e2⟩ | ⟨e1, e2⟩
  · rw [e1, e2]; exact ⟨a, b, c⟩
  · rw [e1, e2]
    refine ⟨a, by omega, ?_⟩
    rw [hx_up_ne (by omega)]; exact c
theorem hv_HO_h {ff hf hf1 uf uf1 hof hof1 df agf : Nat → Int32} {i nw m0 m1 r : Int32} {n d len J : Int} (H : hv_HO hof hf m0.toInt n) (h : hv_HS (hv_HC ff hf df agf n i.toInt d len) i nw m0 m1 r J hf hf1 uf uf1 hof hof1) (hnw : 0 ≤ nw.toInt) (m0p : 0 ≤ m0.toInt) : hv_HO hof1 hf1 m1.toInt n := by
  rcases h with ⟨_, _, e1, e2, _, e3⟩ | ⟨⟨⟨a, b⟩, f, g, _⟩, _, _, e1, e2, _, e3⟩
  · rw [e1, e2, e3]; exact H
  · rw [e1, e2, e3]
    intro j hj
    have ei : i.toNatClampNeg = i.toInt.toNat := rfl
    by_cases z : j = m0.toInt.toNat
    · rw [z, hx_up_at]
      refine ⟨a, b, ?_⟩
      rw [← ei, hx_up_at]; omega
    · rw [hx_up_ne z]
      obtain ⟨x, y, w⟩ := H j (by omega)
      refine ⟨x, y, ?_⟩
      by_cases q : (hof j).toInt.toNat = i.toNatClampNeg
      · rw [q, hx_up_at]; omega
      · rw [hx_up_ne q]; exact w
/-! FILED: both sides alike -/
theorem hv_cdf {n r r2 : Int} {v : Int32} {d d1 g1 : Nat → Int32} (hr : r = r2) (p : hx_CD n r v d d1) (q : hx_CD n r2 v d g1) : d1 = g1 := by
  rcases p with ⟨a1, a2⟩ | ⟨a1, a2, a3⟩ <;> rcases q with ⟨b1, b2⟩ | ⟨b1, b2, b3⟩
  · exact a2.trans b2.symm
  · exfalso; omega
  · exfalso; omega
  · exact a3.trans b3.symm
theorem hv_cdfz {n r : Int} {d d1 : Nat → Int32} (p : hx_CD n r 0 d d1) (z : d n.toNat = 0) : d1 = d := by
  rcases p with ⟨_, a⟩ | ⟨_, _, a⟩
  · exact a
  · rw [a]
    funext j
    by_cases q : j = n.toNat
    · rw [q, hx_up_at, z]
    · rw [hx_up_ne q]
theorem hx_num_z2 {N : Nat} {h : hx_h} {q k k1 j : Nat} {n : Int} {f : Nat → Int32} (hn : hx_num N h q k n) (hc : hx_col N h q k1 = f) (hz : n ≤ (j : Int)) : f j = 0 := by
  by_cases hj : j < N
  · exact hx_num_z hn hc hj hz
  · rw [← hc]
    exact if_neg hj
theorem hx_col_0f {N : Nat} {h : hx_h} {q k r : Nat} (z : ∀ j, h.2.1 q j = 0 ∧ h.2.2 q j = none) (z2 : ∀ j, h.2.1 r j = 0) : hx_col N h q k = h.2.1 r := by
  funext j
  rw [z2 j]
  by_cases hj : j < N
  · exact (hx_col_0 (k := k) z z2 j hj).trans (z2 j)
  · exact if_neg hj
def hv_FU (r n : Int) (v2 v3 v7 : Int32) (f f1 : Nat → Int32) : Prop := (r = -1 ∧ f1 = f) ∨ (r ≠ -1 ∧ (∀ c k : Nat, (c : Int) < n → k < 8 → f1 (k + 8 * c) = f (k + 8 * c)) ∧ f1 (2 + 8 * n.toNat) = v2 ∧ f1 (3 + 8 * n.toNat) = v3 ∧ f1 (7 + 8 * n.toNat) = v7)
theorem hv_FU_i {r n : Int} {v2 v3 v7 : Int32} {cF f0 f1 f2 f3 : Nat → Int32} (hr : r ≠ -1) (h0 : 0 ≤ n) (d1 : f1 = hx_up f0 (2 : Int32).toNatClampNeg v2) (d2 : f2 = hx_up f1 (3 : Int32).toNatClampNeg v3) (d3 : f3 = hx_up f2 (7 : Int32).toNatClampNeg v7) : hv_FU r n v2 v3 v7 cF (hv_u8 cF n.toNat f3) := by
  have k2 : (2 : Int32).toNatClampNeg = 2 := by decide
  have k3 : (3 : Int32).toNatClampNeg = 3 := by decide
  have k7 : (7 : Int32).toNatClampNeg = 7 := by decide
  rw [k2] at d1; rw [k3] at d2; rw [k7] at d3
  subst d1; subst d2; subst d3
  refine Or.inr ⟨hr, fun c k hc hk => hv_u8_ne hk (by omega), ?_, ?_, ?_⟩
  · rw [hv_u8_at (by omega), hx_up_ne (by omega), hx_up_ne (by omega), hx_up_at]
  · rw [hv_u8_at (by omega), hx_up_ne (by omega), hx_up_at]
  · rw [hv_u8_at (by omega), hx_up_at]
def hv_b3 (f : Nat → Int32) (c : Nat) : Nat → Int32 := hx_up (hx_up (hx_up f (3 * c) (-1)) (3 * c + 1) (-1)) (3 * c + 2) (-1)
theorem hv_b3_at {f : Nat → Int32} {c k : Nat} (hk : k < 3) : hv_b3 f c (k + 3 * c) = -1 := by
  unfold hv_b3
  rcases (show k = 0 ∨ k = 1 ∨ k = 2 by omega) with z | z | z
  · rw [hx_up_ne (by omega), hx_up_ne (by omega), show k + 3 * c = 3 * c by omega, hx_up_at]
  · rw [hx_up_ne (by omega), show k + 3 * c = 3 * c + 1 by omega, hx_up_at]
  · rw [show k + 3 * c = 3 * c + 2 by omega, hx_up_at]
theorem hv_b3_ne {f : Nat → Int32} {c d k : Nat} (hk : k < 3) (h : d ≠ c) : hv_b3 f c (k + 3 * d) = f (k + 3 * d) := by
  unfold hv_b3
  rw [hx_up_ne (by omega), hx_up_ne (by omega), hx_up_ne (by omega)]
def hv_BU (r n : Int) (f f1 : Nat → Int32) : Prop := (r = -1 ∧ f1 = f) ∨ (r ≠ -1 ∧ f1 = hv_b3 f n.toNat)
theorem hv_BU_u {r r2 n : Int} {f g g2 : Nat → Int32} (e : r = r2) (p : hv_BU r n f g) (q : hv_BU r2 n f g2) : g = g2 := by
  rcases p with ⟨a1, a2⟩ | ⟨a1, a2⟩ <;> rcases q with ⟨b1, b2⟩ | ⟨b1, b2⟩
  · exact a2.trans b2.symm
  · exfalso; omega
  · exfalso; omega
  · exact a2.trans b2.symm
/-- the reference's three, one after another -/
def hv_b3k (f : Nat → Int32) (c : Nat) : Nat → Nat → Int32
  | 0 => f
  | k + 1 => hx_up (hv_b3k f c k) (3 * c + k) (-1)
theorem hv_b3k_s {f g g1 : Nat → Int32} {c ix : Nat} {k k1 : Int} (h : g = hv_b3k f c k.toNat) (h0 : 0 ≤ k) (ei : (ix : Int) = 3 * c + k) (e : g1 = hx_up g ix (-1)) (e1 : k1 = k + 1) : g1 = hv_b3k f c k1.toNat := by
  rw [show k1.toNat = k.toNat + 1 by omega, e, h, show ix = 3 * c + k.toNat by omega]; rfl
theorem hv_FR_f {cF cF1 rf nf nf1 wf wf1 sf sf1 hf hf1 : Nat → Int32} {r r' n n1 : Int} {v2 v3 v7 : Int32} (H : hv_FR cF rf nf wf sf hf n) (n0 : 0 ≤ n) (er : r = r') (fu : hv_FU r n v2 v3 v7 cF cF1) (p2 : hw_UP r' n v2 nf nf1) (p3 : hw_UP r' n v3 wf wf1) (p7 : hx_CD n r' v7 sf sf1) (ph : hx_CD n r' (-1) hf hf1) (pn : (r' = -1 ∧ n1 = n) ∨ (r' = n ∧ n1 = n + 1)) : hv_FR cF1 rf nf1 wf1 sf1 hf1 n1 := by
  subst er
  rcases pn with ⟨z, e⟩ | ⟨z, e⟩
  · rcases fu with ⟨_, f⟩ | ⟨y, _⟩
    · rcases p2 with ⟨_, b2⟩ | ⟨y, _⟩
      · rcases p3 with ⟨_, b3⟩ | ⟨y, _⟩
        · rcases p7 with ⟨_, b7⟩ | ⟨y, y0, _⟩
          · rcases ph with ⟨_, bh⟩ | ⟨y, y0, _⟩
            · rw [f, b2, b3, b7, bh, e]; exact H
            · exfalso; omega
          · exfalso; omega
        · exact absurd z y
      · exact absurd z y
    · exact absurd z y
  · have zr : r ≠ -1 := by omega
    rcases fu with ⟨y, _⟩ | ⟨_, f, f2, f3, f7⟩
    · exact absurd y zr
    rcases p2 with ⟨y, _⟩ | ⟨_, b2⟩
    · exact absurd y zr
    rcases p3 with ⟨y, _⟩ | ⟨_, b3⟩
    · exact absurd y zr
    rcases p7 with ⟨y, _⟩ | ⟨_, _, b7⟩
    · exact absurd y zr
    rcases ph with ⟨y, _⟩ | ⟨_, _, bh⟩
    · exact absurd y zr
    rw [b2, b3, b7, bh]
    intro d hd
    by_cases w : d = n.toNat
    · rw [w, hx_up_at, hx_up_at, hx_up_at, hx_up_at]
      exact ⟨fun q => absurd (by decide) q, fun _ => ⟨f2, f3, f7⟩⟩
    · rw [hx_up_ne w, hx_up_ne w, hx_up_ne w, hx_up_ne w]
      have hd' : (d : Int) < n := by omega
      obtain ⟨x1, x2⟩ := H d hd'
      refine ⟨fun q k hk => ?_, fun q => ?_⟩
      · rw [f d k hd' hk]; exact x1 q k hk
      · rw [f d 2 hd' (by omega), f d 3 hd' (by omega), f d 7 hd' (by omega)]; exact x2 q
/-- a store into a row that is no claim's -/
theorem hv_FX_o {h h1 : hx_h} {w kf qc t : Nat} {F : Nat → Int32} {n : Int} {k : Nat} {v : Int32} (H : hv_FX w kf h qc F n) (hN : hv_NF kf h qc t n) (eh : h1 = hx_pi h t k v) : hv_FX w kf h1 qc F n := by
  subst eh
  refine ⟨fun c1 hc1 hn1 o1 t1 fo1 ft1 k1 hk1 => ?_, fun c1 c' hc1 hc' hn hn' o1 o' t1 fo1 fo' ft1 ft' => H.2 c1 c' hc1 hc' hn hn' o1 o' t1 fo1 fo' ft1 ft'⟩
  replace fo1 : h.2.2 qc c1 = some o1 := fo1
  replace ft1 : h.2.2 o1 kf = some t1 := ft1
  have z : t1 ≠ t := hN c1 hc1 hn1 o1 t1 fo1 ft1
  rw [hx_pi_ne _ _ (fun q => z q.1)]
  exact H.1 c1 hc1 hn1 o1 t1 fo1 ft1 k1 hk1
/-! THE RULES: their bounds -/
def hv_AB (A : Nat → hv_act) : Prop := ∀ j : Nat, (∀ k, 0 ≤ (A j).2.1 k ∧ (A j).2.1 k ≤ 9999) ∧ hv_OK (A j).2.2
theorem hv_W0_b : ∀ k : Nat, 0 ≤ hv_W0 k ∧ hv_W0 k ≤ 9999 := by
  intro k
  show 0 ≤ (if k < 13 then (P_wo (k + 1)).toInt else 0) ∧ (if k < 13 then (P_wo (k + 1)).toInt else 0) ≤ 9999
  by_cases hk : k < 13
  · rw [if_pos hk]
    have h : (List.range 13).all (fun k => decide (0 ≤ (P_wo (k + 1)).toInt ∧ (P_wo (k + 1)).toInt ≤ 9999)) = true := by decide
    exact of_decide_eq_true (List.all_eq_true.mp h k (List.mem_range.mpr hk))
  · rw [if_neg hk]; omega
theorem hv_AB_0 : hv_AB (fun _ => hv_A0) := fun _ => ⟨hv_W0_b, hv_OK_0⟩
theorem hv_AU_o {A A1 : Nat → hv_act} {a0 a1 d : Int} {sp : Nat ⊕ hv_st} (h : hv_AU A a0 a1 d sp A1) (h0 : 0 ≤ a0) : ∀ k : Nat, (k : Int) ≤ a0 → A1 k = A k := by
  intro k hk
  rcases h with ⟨_, e⟩ | ⟨e1, x, sn, rd, o, es, e⟩
  · rw [e]
  · rw [e]; exact if_neg (by omega)
theorem hv_AB_u {A A1 : Nat → hv_act} {a0 a1 d : Int} {sp : Nat ⊕ hv_st} {adf rlf psf prf : Nat → Int32} (h : hv_AU A a0 a1 d sp A1) (hsp : ∀ q, sp = .inr q → hv_OK q.2.2.2) (hA : hv_AB A) (hCA : hv_CA adf rlf psf prf a1 A1) (h0 : 0 ≤ a0) (h8 : a1 ≤ 8) (hb : ∀ k, k < 117 → 0 ≤ (rlf k).toInt ∧ (rlf k).toInt ≤ 9999) : hv_AB A1 := by
  rcases h with ⟨_, e⟩ | ⟨e1, x, sn, rd, o, es, e⟩
  · rw [e]; exact hA
  · intro j
    by_cases z : j = a0.toNat + 1
    · have c := (hCA.2 j (by omega)).2.1
      have ej : A1 j = (d, rd, o) := by rw [e]; exact if_pos z
      rw [ej] at c ⊢
      have c' : hv_rR (fun k => rlf (13 * j + k)) = rd := c
      refine ⟨fun k => ?_, ?_⟩
      · show 0 ≤ rd k ∧ rd k ≤ 9999
        rw [← c']
        show 0 ≤ (if k < 13 then (rlf (13 * j + k)).toInt else 0) ∧ (if k < 13 then (rlf (13 * j + k)).toInt else 0) ≤ 9999
        by_cases hk : k < 13
        · rw [if_pos hk]; exact hb _ (by omega)
        · rw [if_neg hk]; omega
      · exact hsp _ es
    · have ej : A1 j = A j := by rw [e]; exact if_neg z
      rw [ej]; exact hA j
theorem hv_k3 {f : Nat → Int32} {v : Int32} (h : f 0 = v ∧ f 1 = v ∧ f 2 = v) {k : Nat} (hk : k < 3) : f k = v := by
  rcases (show k = 0 ∨ k = 1 ∨ k = 2 by omega) with z | z | z
  · rw [z]; exact h.1
  · rw [z]; exact h.2.1
  · rw [z]; exact h.2.2
