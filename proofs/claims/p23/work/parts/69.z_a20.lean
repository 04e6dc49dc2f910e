/-! CLAIMS AND THEIR ACTS, THEIR FACTS, THEIR BENCHES -/
def hv_AC (h : hx_h) (qc : Nat) (plf : Nat → Int32) (n : Int) (A : Nat → hv_act) : Prop := ∀ c : Nat, c < 100 → (c : Int) < n → ∀ o a, h.2.2 qc c = some o → h.2.2 o 3 = some a → 0 ≤ (plf c).toInt ∧ hv_AQ h a ((plf c).toInt - 1) (A (plf c).toInt.toNat)
/-- the arrays of so many numbers that the claims hold at a place -/
def hv_FX (w kf : Nat) (h : hx_h) (qc : Nat) (F : Nat → Int32) (n : Int) : Prop := (∀ c : Nat, c < 100 → (c : Int) < n → ∀ o t, h.2.2 qc c = some o → h.2.2 o kf = some t → ∀ k, k < w → h.2.1 t k = F (k + w * c)) ∧ ∀ c c' : Nat, c < 100 → c' < 100 → (c : Int) < n → (c' : Int) < n → ∀ o o' t, h.2.2 qc c = some o → h.2.2 qc c' = some o' → h.2.2 o kf = some t → h.2.2 o' kf = some t → c = c'
def hv_NF (kf : Nat) (h : hx_h) (qc t : Nat) (n : Int) : Prop := ∀ c : Nat, c < 100 → (c : Int) < n → ∀ o t', h.2.2 qc c = some o → h.2.2 o kf = some t' → t' ≠ t
section HVAC
variable {tb : List hx_d} {M : hx_m} {L L1 : List Nat} {h h1 : hx_h} {qc tc t0 ci ci2 x t9 tt tp : Nat} {nn b2 b3 b4 : Bool} {fs fs2 : List hx_f} {n : Int} {A : Nat → hv_act} {plf : Nat → Int32}
theorem hv_AQ_S {q : Nat} {m : Int} {a : hv_act} (hs : hx_S tb M L h L1 h1) (hT : hx_T tb L h) (g : hx_g L h q 0) (h0 : tb[0]? = some (.inl (ci, fs))) (f2 : fs[2]? = some (.inr (b2, [tt]))) (f3 : fs[3]? = some (.inr (b3, [tp]))) (m0 : M.any (fun q => q.1 == 0) = false) (mt : M.any (fun q => q.1 == tt) = false) (mp : M.any (fun q => q.1 == tp) = false) (H : hv_AQ h q m a) : hv_AQ h1 q m a := by
  have e := fun j => hs.all g m0 j
  refine hv_AQ_c H (e 0).1 (e 1).1 (e 4).1 (e 2).2 (e 3).2 (fun t ht => ?_) (fun p hp => ?_)
  · obtain ⟨a1, a2⟩ := (hT.gr g h0 f2).2 t ht
    have gt : hx_g L h t tt := ⟨a1, by simpa using a2⟩
    exact funext fun j => (hs.all gt mt j).1
  · obtain ⟨a1, a2⟩ := (hT.gr g h0 f3).2 p hp
    have gt : hx_g L h p tp := ⟨a1, by simpa using a2⟩
    exact funext fun j => (hs.all gt mp j).1
theorem hv_AQ_X {q : Nat} {m : Int} {a : hv_act} (hs : hx_S tb M (hx_X L x) h L1 h1) (hT : hx_T tb L h) (g : hx_g (hx_X L x) h q 0) (gx : hx_g L h x t9) (h0 : tb[0]? = some (.inl (ci, fs))) (f2 : fs[2]? = some (.inr (b2, [tt]))) (f3 : fs[3]? = some (.inr (b3, [tp]))) (m0 : M.any (fun q => q.1 == 0) = false) (mt : M.any (fun q => q.1 == tt) = false) (mp : M.any (fun q => q.1 == tp) = false) (ne : ((0 : Nat) ≠ t9 ∧ tt ≠ t9) ∧ tp ≠ t9) (H : hv_AQ h q m a) : hv_AQ h1 q m a := by
  have e := fun j => hs.all g m0 j
  have g' : hx_g L h q 0 := ⟨(hx_X_m.mp g.1).1, g.2⟩
  refine hv_AQ_c H (e 0).1 (e 1).1 (e 4).1 (e 2).2 (e 3).2 (fun t ht => ?_) (fun p hp => ?_)
  · obtain ⟨a1, a2⟩ := (hT.gr g' h0 f2).2 t ht
    have a3 : h.1 t = tt := by simpa using a2
    have gt : hx_g (hx_X L x) h t tt := ⟨hx_X_m.mpr ⟨a1, fun z => ne.1.2 (by rw [← a3, z, gx.2])⟩, a3⟩
    exact funext fun j => (hs.all gt mt j).1
  · obtain ⟨a1, a2⟩ := (hT.gr g' h0 f3).2 p hp
    have a3 : h.1 p = tp := by simpa using a2
    have gt : hx_g (hx_X L x) h p tp := ⟨hx_X_m.mpr ⟨a1, fun z => ne.2 (by rw [← a3, z, gx.2])⟩, a3⟩
    exact funext fun j => (hs.all gt mp j).1
theorem hv_AC_S (hs : hx_S tb M L h L1 h1) (hT : hx_T tb L h) (gc : hx_g L h qc tc) (hd : tb[tc]? = some (.inr (t0, 100, .inr (nn, [2])))) (h2 : tb[2]? = some (.inl (ci2, fs2))) (f23 : fs2[3]? = some (.inr (b4, [0]))) (h0 : tb[0]? = some (.inl (ci, fs))) (f2 : fs[2]? = some (.inr (b2, [tt]))) (f3 : fs[3]? = some (.inr (b3, [tp]))) (mc : M.any (fun q => q.1 == tc) = false) (m23 : M.contains (2, 3) = false) (m0 : M.any (fun q => q.1 == 0) = false) (mt : M.any (fun q => q.1 == tt) = false) (mp : M.any (fun q => q.1 == tp) = false) (H : hv_AC h qc plf n A) : hv_AC h1 qc plf n A := by
  intro c hc hcn o a fo fa
  rw [(hs.a gc mc c).2] at fo
  obtain ⟨c1, c2⟩ := (hT.er gc hd (k := c) hc).2 o fo
  have go : hx_g L h o 2 := ⟨c1, by simpa using c2⟩
  rw [(hs.o (k := 3) go (by rw [h2]; trivial) m23).2] at fa
  obtain ⟨d1, d2⟩ := (hT.gr go h2 f23).2 a fa
  have ga : hx_g L h a 0 := ⟨d1, by simpa using d2⟩
  obtain ⟨e1, e2⟩ := H c hc hcn o a fo fa
  exact ⟨e1, hv_AQ_S hs hT ga h0 f2 f3 m0 mt mp e2⟩
theorem hv_AC_X (hs : hx_S tb M (hx_X L x) h L1 h1) (hT : hx_T tb L h) (gc : hx_g (hx_X L x) h qc tc) (gx : hx_g L h x t9) (hd : tb[tc]? = some (.inr (t0, 100, .inr (nn, [2])))) (h2 : tb[2]? = some (.inl (ci2, fs2))) (f23 : fs2[3]? = some (.inr (b4, [0]))) (h0 : tb[0]? = some (.inl (ci, fs))) (f2 : fs[2]? = some (.inr (b2, [tt]))) (f3 : fs[3]? = some (.inr (b3, [tp]))) (mc : M.any (fun q => q.1 == tc) = false) (m23 : M.contains (2, 3) = false) (m0 : M.any (fun q => q.1 == 0) = false) (mt : M.any (fun q => q.1 == tt) = false) (mp : M.any (fun q => q.1 == tp) = false) (ne : ((0 : Nat) ≠ t9 ∧ tt ≠ t9) ∧ tp ≠ t9) (ne2 : (2 : Nat) ≠ t9) (H : hv_AC h qc plf n A) : hv_AC h1 qc plf n A := by
  intro c hc hcn o a fo fa
  rw [(hs.a gc mc c).2] at fo
  obtain ⟨c1, c2⟩ := (hT.er ⟨(hx_X_m.mp gc.1).1, gc.2⟩ hd (k := c) hc).2 o fo
  have c3 : h.1 o = 2 := by simpa using c2
  have go : hx_g (hx_X L x) h o 2 := ⟨hx_X_m.mpr ⟨c1, fun z => ne2 (by rw [← c3, z, gx.2])⟩, c3⟩
  rw [(hs.o (k := 3) go (by rw [h2]; trivial) m23).2] at fa
  obtain ⟨d1, d2⟩ := (hT.gr ⟨c1, c3⟩ h2 f23).2 a fa
  have d3 : h.1 a = 0 := by simpa using d2
  have ga : hx_g (hx_X L x) h a 0 := ⟨hx_X_m.mpr ⟨d1, fun z => ne.1.1 (by rw [← d3, z, gx.2])⟩, d3⟩
  obtain ⟨e1, e2⟩ := H c hc hcn o a fo fa
  exact ⟨e1, hv_AQ_X hs hT ga gx h0 f2 f3 m0 mt mp ne e2⟩
theorem hv_AC_0 (z : ∀ j, h.2.1 qc j = 0 ∧ h.2.2 qc j = none) : hv_AC h qc plf n A := fun c _ _ o a fo _ => by
  rw [(z c).2] at fo; cases fo
/-- one more claim -/
theorem hv_AC_c {p a0 : Nat} {m : Int} {i j : Int32} (H : hv_AC h qc plf n A) (hT : hx_T tb L h) (gc : hx_g L h qc tc) (gq : hx_g L h p 2) (hd : tb[tc]? = some (.inr (t0, 100, .inr (nn, [2])))) (h2 : tb[2]? = some (.inl (ci2, fs2))) (f23 : fs2[3]? = some (.inr (b4, [0]))) (ne : (2 : Nat) ≠ tc ∧ (0 : Nat) ≠ tc) (eh : h1 = hx_pr h qc i.toNatClampNeg (some p)) (h0 : 0 ≤ i.toInt) (hi : i.toInt = n) (fa0 : h.2.2 p 3 = some a0) (j0 : 0 ≤ j.toInt) (hq : hv_AQ h a0 (j.toInt - 1) (A j.toInt.toNat)) (hm : m = n + 1) : hv_AC h1 qc (hx_up plf n.toNat j) m A := by
  have e1 : i.toNatClampNeg = n.toNat := by unfold Int32.toNatClampNeg; omega
  subst eh; subst hm
  rw [e1]
  have key : ∀ (q : Nat) (m : Int) (a : hv_act), hx_g L h q 0 → hv_AQ h q m a → hv_AQ (hx_pr h qc n.toNat (some p)) q m a := by
    intro q m a g H
    have nq : q ≠ qc := fun z => ne.2 (by rw [← g.2, z, gc.2])
    exact hv_AQ_c H rfl rfl rfl (hx_pr_ne h (some p) (fun z => nq z.1)) (hx_pr_ne h (some p) (fun z => nq z.1)) (fun _ _ => rfl) (fun _ _ => rfl)
  intro c hc hcn o a fo fa
  by_cases z : c = n.toNat
  · subst z
    rw [hx_pr_at] at fo
    cases fo
    have q2 : p ≠ qc := fun z => ne.1 (by rw [← gq.2, z, gc.2])
    rw [hx_pr_ne h (some p) (fun z => q2 z.1), fa0] at fa
    cases fa
    rw [hx_up_at]
    obtain ⟨d1, d2⟩ := (hT.gr gq h2 f23).2 a0 fa0
    exact ⟨j0, key _ _ _ ⟨d1, by simpa using d2⟩ hq⟩
  · rw [hx_pr_ne h (some p) (fun w => z w.2)] at fo
    obtain ⟨c1, c2⟩ := (hT.er gc hd (k := c) hc).2 o fo
    have c3 : h.1 o = 2 := by simpa using c2
    have q2 : o ≠ qc := fun z => ne.1 (by rw [← c3, z, gc.2])
    rw [hx_pr_ne h (some p) (fun z => q2 z.1)] at fa
    obtain ⟨d1, d2⟩ := (hT.gr ⟨c1, c3⟩ h2 f23).2 a fa
    obtain ⟨e1, e2⟩ := H c hc (by omega) o a fo fa
    rw [hx_up_ne z]
    exact ⟨e1, key _ _ _ ⟨d1, by simpa using d2⟩ e2⟩
/-- one more act changes nothing of the claims' -/
theorem hv_AC_a {A1 : Nat → hv_act} {a0 : Int} (H : hv_AC h qc plf n A) (hp : ∀ c : Nat, (c : Int) < n → (plf c).toInt ≤ a0) (e : ∀ k : Nat, (k : Int) ≤ a0 → A1 k = A k) : hv_AC h qc plf n A1 := fun c hc hcn o a fo fa => by
  obtain ⟨e1, e2⟩ := H c hc hcn o a fo fa
  have := hp c hcn
  rw [e _ (by omega)]
  exact ⟨e1, e2⟩
theorem hv_AC_e {f g : Nat → Int32} {m : Int} {A1 : Nat → hv_act} (H : hv_AC h qc f n A) (e : f = g) (en : n = m) (ea : A = A1) : hv_AC h qc g m A1 := by
  subst e; subst en; subst ea; exact H
variable {w kf tf : Nat} {F : Nat → Int32}
theorem hv_FX_S (hs : hx_S tb M L h L1 h1) (hT : hx_T tb L h) (gc : hx_g L h qc tc) (hd : tb[tc]? = some (.inr (t0, 100, .inr (nn, [2])))) (h2 : tb[2]? = some (.inl (ci2, fs2))) (f2 : fs2[kf]? = some (.inr (b4, [tf]))) (mc : M.any (fun q => q.1 == tc) = false) (mk : M.contains (2, kf) = false) (mf : M.any (fun q => q.1 == tf) = false) (H : hv_FX w kf h qc F n) : hv_FX w kf h1 qc F n := by
  have key : ∀ c : Nat, c < 100 → ∀ o t, h1.2.2 qc c = some o → h1.2.2 o kf = some t → h.2.2 qc c = some o ∧ h.2.2 o kf = some t ∧ hx_g L h t tf := by
    intro c hc o t fo ft
    rw [(hs.a gc mc c).2] at fo
    obtain ⟨c1, c2⟩ := (hT.er gc hd (k := c) hc).2 o fo
    have go : hx_g L h o 2 := ⟨c1, by simpa using c2⟩
    rw [(hs.o (k := kf) go (by rw [h2]; trivial) mk).2] at ft
    obtain ⟨d1, d2⟩ := (hT.gr go h2 f2).2 t ft
    exact ⟨fo, ft, d1, by simpa using d2⟩
  refine ⟨fun c hc hcn o t fo ft k hk => ?_, fun c c' hc hc' hn hn' o o' t fo fo' ft ft' => ?_⟩
  · obtain ⟨a, b, g⟩ := key c hc o t fo ft
    rw [(hs.a g mf k).1]
    exact H.1 c hc hcn o t a b k hk
  · obtain ⟨a, b, _⟩ := key c hc o t fo ft
    obtain ⟨a', b', _⟩ := key c' hc' o' t fo' ft'
    exact H.2 c c' hc hc' hn hn' o o' t a a' b b'
theorem hv_FX_X (hs : hx_S tb M (hx_X L x) h L1 h1) (hT : hx_T tb L h) (gc : hx_g (hx_X L x) h qc tc) (gx : hx_g L h x t9) (hd : tb[tc]? = some (.inr (t0, 100, .inr (nn, [2])))) (h2 : tb[2]? = some (.inl (ci2, fs2))) (f2 : fs2[kf]? = some (.inr (b4, [tf]))) (mc : M.any (fun q => q.1 == tc) = false) (mk : M.contains (2, kf) = false) (mf : M.any (fun q => q.1 == tf) = false) (ne : (2 : Nat) ≠ t9 ∧ tf ≠ t9) (H : hv_FX w kf h qc F n) : hv_FX w kf h1 qc F n := by
  have key : ∀ c : Nat, c < 100 → ∀ o t, h1.2.2 qc c = some o → h1.2.2 o kf = some t → h.2.2 qc c = some o ∧ h.2.2 o kf = some t ∧ hx_g (hx_X L x) h t tf := by
    intro c hc o t fo ft
    rw [(hs.a gc mc c).2] at fo
    obtain ⟨c1, c2⟩ := (hT.er ⟨(hx_X_m.mp gc.1).1, gc.2⟩ hd (k := c) hc).2 o fo
    have c3 : h.1 o = 2 := by simpa using c2
    have go : hx_g (hx_X L x) h o 2 := ⟨hx_X_m.mpr ⟨c1, fun z => ne.1 (by rw [← c3, z, gx.2])⟩, c3⟩
    rw [(hs.o (k := kf) go (by rw [h2]; trivial) mk).2] at ft
    obtain ⟨d1, d2⟩ := (hT.gr ⟨c1, c3⟩ h2 f2).2 t ft
    have d3 : h.1 t = tf := by simpa using d2
    exact ⟨fo, ft, hx_X_m.mpr ⟨d1, fun z => ne.2 (by rw [← d3, z, gx.2])⟩, d3⟩
  refine ⟨fun c hc hcn o t fo ft k hk => ?_, fun c c' hc hc' hn hn' o o' t fo fo' ft ft' => ?_⟩
  · obtain ⟨a, b, g⟩ := key c hc o t fo ft
    rw [(hs.a g mf k).1]
    exact H.1 c hc hcn o t a b k hk
  · obtain ⟨a, b, _⟩ := key c hc o t fo ft
    obtain ⟨a', b', _⟩ := key c' hc' o' t fo' ft'
    exact H.2 c c' hc hc' hn hn' o o' t a a' b b'
theorem hv_FX_0 (z : ∀ j, h.2.1 qc j = 0 ∧ h.2.2 qc j = none) : hv_FX w kf h qc F n := by
  refine ⟨fun c _ _ o t fo _ => ?_, fun c _ _ _ _ _ o _ t fo _ _ _ => ?_⟩
  · rw [(z c).2] at fo; cases fo
  · rw [(z c).2] at fo; cases fo
theorem hv_FX_e {f g : Nat → Int32} {m : Int} (H : hv_FX w kf h qc f n) (e : f = g) (en : n = m) : hv_FX w kf h qc g m := by
  subst e; subst en; exact H
/-- a number of one claim's is told anew -/
theorem hv_FX_u {c o t k : Nat} {v : Int32} (H : hv_FX w kf h qc F n) (hT : hx_T tb L h) (gc : hx_g L h qc tc) (gt : hx_g L h t tf) (ne : tf ≠ tc ∧ (2 : Nat) ≠ tf) (hd : tb[tc]? = some (.inr (t0, 100, .inr (nn, [2])))) (hc : c < 100) (hcn : (c : Int) < n) (fo : h.2.2 qc c = some o) (ft : h.2.2 o kf = some t) (hk : k < w) (eh : h1 = hx_pi h t k v) : hv_FX w kf h1 qc (hx_up F (k + w * c) v) n := by
  subst eh
  refine ⟨fun c1 hc1 hn1 o1 t1 fo1 ft1 k1 hk1 => ?_, fun c1 c' hc1 hc' hn hn' o1 o' t1 fo1 fo' ft1 ft' => H.2 c1 c' hc1 hc' hn hn' o1 o' t1 fo1 fo' ft1 ft'⟩
  replace fo1 : h.2.2 qc c1 = some o1 := fo1
  replace ft1 : h.2.2 o1 kf = some t1 := ft1
  by_cases z : t1 = t
  · subst z
    have e := H.2 c1 c hc1 hc hn1 hcn o1 o t1 fo1 fo ft1 ft
    subst e
    by_cases y : k1 = k
    · subst y; rw [hx_pi_at, hx_up_at]
    · rw [hx_pi_ne _ _ (fun q => y q.2), hx_up_ne (by omega)]
      exact H.1 c1 hc1 hn1 o1 t1 fo1 ft1 k1 hk1
  · rw [hx_pi_ne _ _ (fun q => z q.1)]
    rw [hx_up_ne (fun q => z (by
      have : c1 = c ∧ k1 = k := by
        have e1 : (k1 + w * c1) % w = k1 := by rw [Nat.add_mul_mod_self_left]; exact Nat.mod_eq_of_lt hk1
        have e2 : (k + w * c) % w = k := by rw [Nat.add_mul_mod_self_left]; exact Nat.mod_eq_of_lt hk
        have e3 : k1 = k := by rw [← e1, q, e2]
        subst e3
        have e4 : w * c1 = w * c := by omega
        exact ⟨Nat.eq_of_mul_eq_mul_left (by omega) e4, rfl⟩
      obtain ⟨rfl, rfl⟩ := this
      rw [fo] at fo1
      cases fo1
      rw [ft] at ft1
      cases ft1; rfl))]
    exact H.1 c1 hc1 hn1 o1 t1 fo1 ft1 k1 hk1
/-- one more claim -/
theorem hv_FX_c {p t : Nat} {m : Int} {i : Int32} {G : Nat → Int32} (H : hv_FX w kf h qc F n) (hN : hv_NF kf h qc t n) (hT : hx_T tb L h) (gc : hx_g L h qc tc) (gq : hx_g L h p 2) (hd : tb[tc]? = some (.inr (t0, 100, .inr (nn, [2])))) (ne : (2 : Nat) ≠ tc) (eh : h1 = hx_pr h qc i.toNatClampNeg (some p)) (h0 : 0 ≤ i.toInt) (hi : i.toInt = n) (ft0 : h.2.2 p kf = some t) (hG : ∀ k, k < w → h.2.1 t k = G (k + w * n.toNat)) (hF : ∀ c k : Nat, (c : Int) < n → k < w → G (k + w * c) = F (k + w * c)) (hm : m = n + 1) : hv_FX w kf h1 qc G m := by
  have e1 : i.toNatClampNeg = n.toNat := by unfold Int32.toNatClampNeg; omega
  subst eh; subst hm
  rw [e1]
  have key : ∀ c : Nat, c < 100 → (c : Int) < n + 1 → ∀ o t1, (hx_pr h qc n.toNat (some p)).2.2 qc c = some o → (hx_pr h qc n.toNat (some p)).2.2 o kf = some t1 → (c = n.toNat ∧ o = p ∧ t1 = t) ∨ ((c : Int) < n ∧ h.2.2 qc c = some o ∧ h.2.2 o kf = some t1) := by
    intro c hc hcn o t1 fo ft
    by_cases z : c = n.toNat
    · subst z
      rw [hx_pr_at] at fo
      cases fo
      have q2 : p ≠ qc := fun z => ne (by rw [← gq.2, z, gc.2])
      rw [hx_pr_ne h (some p) (fun z => q2 z.1), ft0] at ft
      cases ft
      exact Or.inl ⟨rfl, rfl, rfl⟩
    · rw [hx_pr_ne h (some p) (fun w => z w.2)] at fo
      obtain ⟨c1, c2⟩ := (hT.er gc hd (k := c) hc).2 o fo
      have c3 : h.1 o = 2 := by simpa using c2
      have q2 : o ≠ qc := fun z => ne (by rw [← c3, z, gc.2])
      rw [hx_pr_ne h (some p) (fun z => q2 z.1)] at ft
      exact Or.inr ⟨by omega, fo, ft⟩
  refine ⟨fun c hc hcn o t1 fo ft k hk => ?_, fun c c' hc hc' hn hn' o o' t1 fo fo' ft ft' => ?_⟩
  · show h.2.1 t1 k = _
    rcases key c hc hcn o t1 fo ft with ⟨a, b, d⟩ | ⟨a, b, d⟩
    · subst a; subst d; exact hG k hk
    · rw [hF c k a hk]; exact H.1 c hc a o t1 b d k hk
  · rcases key c hc hn o t1 fo ft with ⟨a, b, d⟩ | ⟨a, b, d⟩ <;> rcases key c' hc' hn' o' t1 fo' ft' with ⟨a', b', d'⟩ | ⟨a', b', d'⟩
    · rw [a, a']
    · exact absurd d (hN c' hc' a' o' t1 b' d')
    · exact absurd d' (hN c hc a o t1 b d)
    · exact H.2 c c' hc hc' a a' o o' t1 b b' d d'
theorem hv_NF_S {t : Nat} (hs : hx_S tb M L h L1 h1) (hT : hx_T tb L h) (gc : hx_g L h qc tc) (hd : tb[tc]? = some (.inr (t0, 100, .inr (nn, [2])))) (h2 : tb[2]? = some (.inl (ci2, fs2))) (mc : M.any (fun q => q.1 == tc) = false) (mk : M.contains (2, kf) = false) (H : hv_NF kf h qc t n) : hv_NF kf h1 qc t n := by
  intro c hc hcn o t1 fo ft
  rw [(hs.a gc mc c).2] at fo
  obtain ⟨c1, c2⟩ := (hT.er gc hd (k := c) hc).2 o fo
  have go : hx_g L h o 2 := ⟨c1, by simpa using c2⟩
  rw [(hs.o (k := kf) go (by rw [h2]; trivial) mk).2] at ft
  exact H c hc hcn o t1 fo ft
/-- a new cell is none of theirs -/
theorem hv_NF_i {t : Nat} (hs : hx_S tb M (hx_X L x) h L1 h1) (hT : hx_T tb L h) (gc : hx_g (hx_X L x) h qc tc) (gx : hx_g L h x t9) (hd : tb[tc]? = some (.inr (t0, 100, .inr (nn, [2])))) (h2 : tb[2]? = some (.inl (ci2, fs2))) (f2 : fs2[kf]? = some (.inr (b4, [tf]))) (mc : M.any (fun q => q.1 == tc) = false) (mk : M.contains (2, kf) = false) (ne : (2 : Nat) ≠ t9 ∧ tf ≠ t9) (hf : ∀ a ∈ hx_X L x, a ≠ t) : hv_NF kf h1 qc t n := by
  intro c hc hcn o t1 fo ft
  rw [(hs.a gc mc c).2] at fo
  obtain ⟨c1, c2⟩ := (hT.er ⟨(hx_X_m.mp gc.1).1, gc.2⟩ hd (k := c) hc).2 o fo
  have c3 : h.1 o = 2 := by simpa using c2
  have go : hx_g (hx_X L x) h o 2 := ⟨hx_X_m.mpr ⟨c1, fun z => ne.1 (by rw [← c3, z, gx.2])⟩, c3⟩
  rw [(hs.o (k := kf) go (by rw [h2]; trivial) mk).2] at ft
  obtain ⟨d1, d2⟩ := (hT.gr ⟨c1, c3⟩ h2 f2).2 t1 ft
  have d3 : h.1 t1 = tf := by simpa using d2
  exact hf t1 (hx_X_m.mpr ⟨d1, fun z => ne.2 (by rw [← d3, z, gx.2])⟩)
end HVAC
/-- whom two claims are against or by, by their numbers -/
theorem hv_pid {h : hx_h} {qc qp pk k0 c1 c2 o1 o2 d1 d2 : Nat} {f : Nat → Int32} {n np : Int} (H : hw_DF h qc qp pk f n) (hn : hx_num 40 h qp k0 np) (l1 : c1 < 100) (l2 : c2 < 100) (n1 : (c1 : Int) < n) (n2 : (c2 : Int) < n) (f1 : h.2.2 qc c1 = some o1) (f2 : h.2.2 qc c2 = some o2) (g1 : h.2.2 o1 pk = some d1) (g2 : h.2.2 o2 pk = some d2) : d1 = d2 ↔ (f c1).toInt = (f c2).toInt := by
  obtain ⟨a1, b1, e1⟩ := H c1 l1 n1 o1 d1 f1 g1
  obtain ⟨a2, b2, e2⟩ := H c2 l2 n2 o2 d2 f2 g2
  constructor
  · intro e
    subst e
    have := hx_num_eq hn (by omega) (by omega) e1 e2
    omega
  · intro e
    rw [e, e2] at e1
    exact (Option.some.inj e1).symm
theorem hv_ki_t {kf : Nat → Int32} {j p : Nat} : hv_ki kf j p = true ↔ j = p ∨ ((kf j).toInt ≠ -1 ∧ (kf j).toInt = (kf p).toInt) := by
  unfold hv_ki
  rw [Bool.or_eq_true, Bool.and_eq_true, decide_eq_true_iff, decide_eq_true_iff, decide_eq_true_iff]
theorem hv_ki_f {kf : Nat → Int32} {j p : Nat} (h : ¬ (j = p ∨ ((kf j).toInt ≠ -1 ∧ (kf j).toInt = (kf p).toInt))) : hv_ki kf j p = false := by
  cases e : hv_ki kf j p with
  | false => rfl
  | true => exact absurd (hv_ki_t.mp e) h
theorem hv_ft_t {jf df kf : Nat → Int32} {p q j : Nat} : hv_ft jf df kf p q j = true ↔ (jf j).toInt ≠ 0 ∧ (df j).toInt = 0 ∧ hv_ki kf j p = false ∧ hv_ki kf j q = false := by
  unfold hv_ft
  rw [Bool.and_eq_true, Bool.and_eq_true, Bool.and_eq_true, decide_eq_true_iff, decide_eq_true_iff, Bool.not_eq_true', Bool.not_eq_true']
theorem hv_ft_f {jf df kf : Nat → Int32} {p q j : Nat} (h : ¬ ((jf j).toInt ≠ 0 ∧ (df j).toInt = 0 ∧ hv_ki kf j p = false ∧ hv_ki kf j q = false)) : hv_ft jf df kf p q j = false := by
  cases e : hv_ft jf df kf p q j with
  | false => rfl
  | true => exact absurd (hv_ft_t.mp e) h
theorem hv_n6b : (List.range 41).all (fun n => decide (((Int32.ofNat n) * (Int32.ofNat n - 1) * (Int32.ofNat n - 2) / 6).toInt = hv_T3 n)) = true := by decide +kernel
theorem hv_n6 {n a p b q s : Int32} (h0 : 0 ≤ n.toInt) (h1 : n.toInt ≤ 40) (ea : a.toInt = n.toInt - 1) (ep : p = n * a) (eb : b.toInt = n.toInt - 2) (eq : q = p * b) (es : s = q / 6) : s.toInt = hv_T3 n.toInt.toNat := by
  have h := List.all_eq_true.mp hv_n6b n.toInt.toNat (List.mem_range.mpr (by omega))
  rw [decide_eq_true_iff] at h
  have e0 : Int32.ofNat n.toInt.toNat = n := Int32.toInt_inj.mp (by rw [Int32.toInt_ofNat_of_lt (by omega)]; omega)
  have e1 : n - 1 = a := Int32.toInt_inj.mp ((i32_sub rfl (by decide) (by omega) (by omega)).trans ea.symm)
  have e2 : n - 2 = b := Int32.toInt_inj.mp ((i32_sub rfl (by decide) (by omega) (by omega)).trans eb.symm)
  rw [e0, e1, e2] at h
  rw [es, eq, ep]; exact h
