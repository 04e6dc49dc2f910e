section
/-! THE WALK on the class's side; whom the claims are against -/
theorem hw_abs_s (a b : Int) : hx_ab a b = hx_ab b a := by
  unfold hx_ab
  split <;> split <;> omega
theorem hw_fg_s {gx gy : Nat → Int32} {n i k : Int} : hx_fg gx gy n i k = hx_fg gx gy n k i := by
  unfold hx_fg
  rw [hw_abs_s (hx_cg gx n i), hw_abs_s (hx_cg gy n i)]
theorem hw_cg_lt {g : Nat → Int32} {n i : Int} {x : Int32} (h : i < n) (e : x = g i.toNat) : hx_cg g n i = x.toInt := by
  unfold hx_cg
  rw [if_neg (by omega), e]
theorem hw_cg_n {g : Nat → Int32} {n : Int} : hx_cg g n n = 50 := by
  unfold hx_cg
  rw [if_pos rfl]
/-- the last one walked to; none: the court -/
def hw_la (n i : Int) : Int := if i = -1 then n else i
theorem hw_la1 {n i : Int} (h : i = -1) : hw_la n i = n := by
  unfold hw_la
  rw [if_pos h]
theorem hw_la2 {n i : Int} (h : 0 ≤ i) : hw_la n i = i := by
  unfold hw_la
  rw [if_neg (by omega)]
theorem hw_min {r x y : Int32} (e : r = if y < x then y else x) : (r.toInt = x.toInt ∧ x.toInt ≤ y.toInt) ∨ (r.toInt = y.toInt ∧ y.toInt ≤ x.toInt) := by
  by_cases z : y < x
  · rw [if_pos z] at e
    rw [Int32.lt_iff_toInt_lt] at z
    exact Or.inr ⟨by rw [e], by omega⟩
  · rw [if_neg z] at e
    rw [Int32.lt_iff_toInt_lt] at z
    exact Or.inl ⟨by rw [e], by omega⟩
theorem hw_E_w {F H : Int → Int → Int} {n l i : Int} (h : hw_E F H n l i) : hw_E F H n l 0 := ⟨h.1, fun i' a b => absurd b (by omega)⟩
theorem hw_E_le {F H : Int → Int → Int} {n l l0 : Int} (h : hw_E F H n l 0) (e : l0 ≤ l) : hw_E F H n l0 0 := ⟨fun l' i' a b => h.1 l' i' a (by omega), fun i' a b => absurd b (by omega)⟩
theorem hw_E_l {F H : Int → Int → Int} {n l l1 i : Int} (h : hw_E F H n l i) (e : l = l1) : hw_E F H n l1 i := by
  subst e
  exact h
theorem hw_p2n1 {n : Int} (n0 : 1 ≤ n) (n1 : n ≤ 8) : (2 : Int) ≤ 2 ^ n.toNat := by
  have h : (List.range 9).all (fun n => decide (n = 0) || decide ((2 : Int) ≤ 2 ^ n)) = true := by decide +kernel
  have h := List.all_eq_true.mp h n.toNat (List.mem_range.mpr (by omega))
  simp only [Bool.or_eq_true, decide_eq_true_eq] at h
  omega
theorem hw_bt0 {k : Int} : hx_bt 0 k = false := by simp [hx_bt]
theorem hw_mn0 {F H : Int → Int → Int} {n l i V : Int} (e : l = 0) (h : V = F i n) : hx_mn F H n l i V := by
  subst e
  exact ⟨fun _ => h, fun w => absurd rfl w, fun k _ _ kb => by rw [hw_bt0] at kb; cases kb⟩
theorem hw_mn_00 {gx gy : Nat → Int32} {H : Int → Int → Int} {n V : Int} (e : n = 0) (hV : V = 0) : hx_mn (hx_fg gx gy n) H n (2 ^ n.toNat - 1) n V := by
  subst e; subst hV
  refine hw_mn0 (by decide) ?_
  unfold hx_fg
  rw [hw_cg_n, hw_cg_n]
  decide
theorem hw_mn_c {F H : Int → Int → Int} {n l l1 i i1 V : Int} (h : hx_mn F H n l i V) (el : l = l1) (ei : i = i1) : hx_mn F H n l1 i1 V := by
  subst el; subst ei
  exact h
theorem hw_pc {l k : Int} (h0 : 0 ≤ l) (h1 : l ≤ 255) (k0 : 0 ≤ k) (k1 : k < 8) (hb : hx_bt l k = true) : hx_pc (l - hx_p2 k) = hx_pc l - 1 := by
  have h := List.all_eq_true.mp (List.all_eq_true.mp hx_bcb l.toNat (List.mem_range.mpr (by omega))) k.toNat (List.mem_range.mpr (by omega))
  have l1 : ((l.toNat : Nat) : Int) = l := by omega
  have l2 : ((k.toNat : Nat) : Int) = k := by omega
  simp only [hx_bck, Bool.and_eq_true, decide_eq_true_eq, Bool.or_eq_true, Bool.not_eq_true', l1, l2] at h
  rcases h.2 with d | d
  · rw [hb] at d; cases d
  · exact d.2
theorem hw_bf {n b k : Int} (n0 : 0 ≤ n) (n1 : n ≤ 8) (b0 : 0 ≤ b) (b1 : b < 2 ^ n.toNat) (k0 : 0 ≤ k) (k1 : k < n) (h : hx_bt (2 ^ n.toNat - 1 - b) k = true) : hx_bt b k = false := by
  rw [hx_btc n0 n1 b0 b1 k0 k1] at h
  simpa using h
theorem hw_bf2 {n b k : Int} (n0 : 0 ≤ n) (n1 : n ≤ 8) (b0 : 0 ≤ b) (b1 : b < 2 ^ n.toNat) (k0 : 0 ≤ k) (k1 : k < n) (h : hx_bt b k = true) : hx_bt (2 ^ n.toNat - 1 - b) k = false := by
  rw [hx_btc n0 n1 b0 b1 k0 k1, h]; rfl
theorem hw_bt2 {n b k : Int} (n0 : 0 ≤ n) (n1 : n ≤ 8) (b0 : 0 ≤ b) (b1 : b < 2 ^ n.toNat) (k0 : 0 ≤ k) (k1 : k < n) (h : hx_bt b k = false) : hx_bt (2 ^ n.toNat - 1 - b) k = true := by
  rw [hx_btc n0 n1 b0 b1 k0 k1, h]; rfl
theorem hw_lk {n : Int} {F : Int → Int → Int} {a : Nat → Int32} {B K : Int32} (n0 : 0 ≤ n) (n1 : n ≤ 8) (b0 : 0 ≤ B.toInt) (b1 : B.toInt < 2 ^ n.toNat) (k0 : 0 ≤ K.toInt) (k1 : K.toInt < n) (hb : hx_bt B.toInt K.toInt = false) (hE : hw_E F (hw_HC n a) n (2 ^ n.toNat - 1 - B.toInt) 0) : (B ||| ((1 : Int32) <<< (K &&& 31))).toInt = B.toInt + hx_p2 K.toInt ∧ 1 ≤ hx_p2 K.toInt ∧ B.toInt + hx_p2 K.toInt ≤ 2 ^ n.toNat - 1 ∧ hx_bt (2 ^ n.toNat - 1 - B.toInt) K.toInt = true ∧ 0 ≤ hw_HC n a (2 ^ n.toNat - 1 - B.toInt - hx_p2 K.toInt) K.toInt ∧ hw_HC n a (2 ^ n.toNat - 1 - B.toInt - hx_p2 K.toInt) K.toInt ≤ 198 * (2 ^ n.toNat - 1 - B.toInt - hx_p2 K.toInt + 1) := by
  have hn := hx_p2n n0 n1
  have h1 := hx_orc (B := B) (K := K) b0 (by omega) k0 (by omega) hb
  have hbl := hw_bt2 n0 n1 b0 b1 k0 k1 hb
  have hd := hx_sub_d n0 n1 (by omega) (by omega) k0 k1 hbl
  have hm := hE.1 _ _ hd.1 hd.2.1 k0 k1 hd.2.2.2
  exact ⟨h1.1, h1.2.1, by have := hd.1; omega, hbl, hm.1, hm.2.1⟩
theorem hw_HCv {n l i : Int} {a : Nat → Int32} {ix : Nat} {v : Int32} (e : v = a ix) (h : (ix : Int) = 8 * (2 ^ n.toNat - 1 - l) + i) : v.toInt = hw_HC n a l i := by
  subst e
  unfold hw_HC
  rw [show (8 * (2 ^ n.toNat - 1 - l) + i).toNat = ix by omega]
theorem hw_wd {n i : Int} {f g : Nat → Int32} {r1 r2 : Int32} (e : hx_eqN n.toNat f g) (p : (r1.toInt = -1 ∧ ¬ (0 ≤ i ∧ i < n)) ∨ ((0 ≤ i ∧ i < n) ∧ r1 = f i.toNat)) (q : (r2.toInt = -1 ∧ ¬ (0 ≤ i ∧ i < n)) ∨ ((0 ≤ i ∧ i < n) ∧ r2 = g i.toNat)) : r1.toInt = r2.toInt := by
  rcases p with ⟨a1, a2⟩ | ⟨a1, a2⟩ <;> rcases q with ⟨b1, b2⟩ | ⟨b1, b2⟩
  · omega
  · exact absurd b1 a2
  · exact absurd a1 b2
  · rw [a2, b2, e i.toNat (by omega)]
section HWS
variable {tb : List hx_d} {M : hx_m} {L L1 : List Nat} {h h1 : hx_h}
theorem hx_dc_S {q t t0 N u v pd px ci ci2 : Nat} {nn : Bool} {b : Bool} {fs fs2 : List hx_f} {g : Nat → Int32} {n : Int} (hs : hx_S tb M L h L1 h1) (hT : hx_T tb L h) (gq : hx_g L h q t) (hd : tb[t]? = some (.inr (t0, N, .inr (nn, [u])))) (hu : tb[u]? = some (.inl (ci, fs))) (hf : fs[pd]? = some (.inr (b, [v]))) (hv : tb[v]? = some (.inl (ci2, fs2))) (m1 : M.any (fun q => q.1 == t) = false) (m2 : M.contains (u, pd) = false) (m3 : M.contains (v, px) = false) (hn : n ≤ N) (H : hx_dc h q pd px g n) : hx_dc h1 q pd px g n := by
  intro k hk c d fc fd
  have hkN : k < N := by omega
  rw [(hs.a gq m1 k).2] at fc
  obtain ⟨c1, c2⟩ := (hT.er gq hd (k := k) hkN).2 c fc
  have gc : hx_g L h c u := ⟨c1, by simpa using c2⟩
  rw [(hs.o (k := pd) gc (by rw [hu]; trivial) m2).2] at fd
  obtain ⟨d1, d2⟩ := (hT.gr gc hu hf).2 d fd
  have gd : hx_g L h d v := ⟨d1, by simpa using d2⟩
  rw [(hs.o (k := px) gd (by rw [hv]; trivial) m3).1]
  exact H k hk c d fc fd
end HWS
/-- whom the claims are against, by their places: those of the numbers in agf -/
def hw_DF (h : hx_h) (qc qp pk : Nat) (agf : Nat → Int32) (n : Int) : Prop := ∀ c : Nat, c < 100 → (c : Int) < n → ∀ o d, h.2.2 qc c = some o → h.2.2 o pk = some d → 0 ≤ (agf c).toInt ∧ (agf c).toInt < 40 ∧ h.2.2 qp (agf c).toInt.toNat = some d
theorem hw_DF_S {tb : List hx_d} {M : hx_m} {L L1 : List Nat} {h h1 : hx_h} {qc qp pk t t2 t0 u ci : Nat} {nn : Bool} {fs : List hx_f} {agf : Nat → Int32} {n : Int} (hs : hx_S tb M L h L1 h1) (hT : hx_T tb L h) (gc : hx_g L h qc t) (gp : hx_g L h qp t2) (hd : tb[t]? = some (.inr (t0, 100, .inr (nn, [u])))) (hu : tb[u]? = some (.inl (ci, fs))) (m1 : M.any (fun q => q.1 == t) = false) (m2 : M.any (fun q => q.1 == t2) = false) (m3 : M.contains (u, pk) = false) (H : hw_DF h qc qp pk agf n) : hw_DF h1 qc qp pk agf n := by
  intro c hc hcn o d fo fd
  rw [(hs.a gc m1 c).2] at fo
  obtain ⟨c1, c2⟩ := (hT.er gc hd (k := c) hc).2 o fo
  have go : hx_g L h o u := ⟨c1, by simpa using c2⟩
  rw [(hs.o (k := pk) go (by rw [hu]; trivial) m3).2] at fd
  obtain ⟨a, b, e⟩ := H c hc hcn o d fo fd
  exact ⟨a, b, by rw [(hs.a gp m2 _).2]; exact e⟩
theorem hw_DF_X {tb : List hx_d} {M : hx_m} {L L1 : List Nat} {h h1 : hx_h} {qc qp pk x t t2 t9 t0 u ci : Nat} {nn : Bool} {fs : List hx_f} {agf : Nat → Int32} {n : Int} (hs : hx_S tb M (hx_X L x) h L1 h1) (hT : hx_T tb L h) (gc : hx_g (hx_X L x) h qc t) (gp : hx_g (hx_X L x) h qp t2) (gx : hx_g L h x t9) (hd : tb[t]? = some (.inr (t0, 100, .inr (nn, [u])))) (hu : tb[u]? = some (.inl (ci, fs))) (m1 : M.any (fun q => q.1 == t) = false) (m2 : M.any (fun q => q.1 == t2) = false) (m3 : M.contains (u, pk) = false) (ne : u ≠ t9) (H : hw_DF h qc qp pk agf n) : hw_DF h1 qc qp pk agf n := by
  intro c hc hcn o d fo fd
  rw [(hs.a gc m1 c).2] at fo
  obtain ⟨c1, c2⟩ := (hT.er ⟨(hx_X_m.mp gc.1).1, gc.2⟩ hd (k := c) hc).2 o fo
  have c2 : h.1 o = u := by simpa using c2
  have go : hx_g (hx_X L x) h o u := ⟨hx_X_m.mpr ⟨c1, fun z => ne (by rw [← c2, z, gx.2])⟩, c2⟩
  rw [(hs.o (k := pk) go (by rw [hu]; trivial) m3).2] at fd
  obtain ⟨a, b, e⟩ := H c hc hcn o d fo fd
  exact ⟨a, b, by rw [(hs.a gp m2 _).2]; exact e⟩
/-- one more person -/
theorem hw_DF_p {tb : List hx_d} {L : List Nat} {h h1 : hx_h} {qc qp pk p t t0 u k tp : Nat} {nn : Bool} {agf : Nat → Int32} {n np : Int} {i : Int32} (H : hw_DF h qc qp pk agf n) (hT : hx_T tb L h) (gc : hx_g L h qc t) (gp : hx_g L h qp tp) (hd : tb[t]? = some (.inr (t0, 100, .inr (nn, [u])))) (ne : t ≠ tp) (ne2 : u ≠ tp) (hn : hx_num 40 h qp k np) (eh : h1 = hx_pr h qp i.toNatClampNeg (some p)) (h0 : 0 ≤ i.toInt) (hi : i.toInt = np) : hw_DF h1 qc qp pk agf n := by
  have ei : ((i.toNatClampNeg : Nat) : Int) = i.toInt := by unfold Int32.toNatClampNeg; omega
  subst eh
  intro c hc hcn o d fo fd
  have q1 : qc ≠ qp := fun z => ne (by rw [← gc.2, z, gp.2])
  rw [hx_pr_ne h (some p) (fun z => q1 z.1)] at fo
  obtain ⟨c1, c2⟩ := (hT.er gc hd (k := c) hc).2 o fo
  have c2 : h.1 o = u := by simpa using c2
  have q2 : o ≠ qp := fun z => ne2 (by rw [← c2, z, gp.2])
  rw [hx_pr_ne h (some p) (fun z => q2 z.1)] at fd
  obtain ⟨a, b, e⟩ := H c hc hcn o d fo fd
  refine ⟨a, b, ?_⟩
  rw [hx_pr_ne h (some p) (fun z => ?_)]
  · exact e
  · have w := (hn (agf c).toInt.toNat (by omega)).2 (by have := z.2; omega)
    rw [w] at e; cases e
/-- one more claim -/
theorem hw_DF_c {tb : List hx_d} {L : List Nat} {h h1 : hx_h} {qc qp pk p d0 t t0 u tp : Nat} {nn : Bool} {agf : Nat → Int32} {n m : Int} {i j : Int32} (H : hw_DF h qc qp pk agf n) (hT : hx_T tb L h) (gc : hx_g L h qc t) (gp : hx_g L h qp tp) (gq : hx_g L h p u) (hd : tb[t]? = some (.inr (t0, 100, .inr (nn, [u])))) (ne : t ≠ tp) (ne2 : u ≠ t) (eh : h1 = hx_pr h qc i.toNatClampNeg (some p)) (h0 : 0 ≤ i.toInt) (hi : i.toInt = n) (fd : h.2.2 p pk = some d0) (fj : h.2.2 qp j.toNatClampNeg = some d0) (j0 : 0 ≤ j.toInt) (j1 : j.toInt < 40) (hm : m = n + 1) : hw_DF h1 qc qp pk (hx_up agf n.toNat j) m := by
  have ei : ((i.toNatClampNeg : Nat) : Int) = i.toInt := by unfold Int32.toNatClampNeg; omega
  have e1 : i.toNatClampNeg = n.toNat := by omega
  subst eh; subst hm
  rw [e1]
  have q1 : qp ≠ qc := fun z => ne (by rw [← gc.2, ← z, gp.2])
  intro c hc hcn o d fo fd1
  by_cases z : c = n.toNat
  · subst z
    rw [hx_pr_at] at fo
    cases fo
    have q2 : p ≠ qc := fun z => ne2 (by rw [← gq.2, z, gc.2])
    rw [hx_pr_ne h (some p) (fun z => q2 z.1), fd] at fd1
    cases fd1
    rw [hx_up_at]
    refine ⟨j0, j1, ?_⟩
    rw [hx_pr_ne h (some p) (fun z => q1 z.1)]
    exact fj
  · rw [hx_pr_ne h (some p) (fun w => z w.2)] at fo
    obtain ⟨c1, c2⟩ := (hT.er gc hd (k := c) hc).2 o fo
    have c2 : h.1 o = u := by simpa using c2
    have q2 : o ≠ qc := fun z => ne2 (by rw [← c2, z, gc.2])
    rw [hx_pr_ne h (some p) (fun z => q2 z.1)] at fd1
    obtain ⟨a, b, e⟩ := H c hc (by omega) o d fo fd1
    rw [hx_up_ne z]
    refine ⟨a, b, ?_⟩
    rw [hx_pr_ne h (some p) (fun z => q1 z.1)]
    exact e
theorem hw_DF_e {h : hx_h} {qc qp pk : Nat} {f g : Nat → Int32} {n m : Int} (H : hw_DF h qc qp pk f n) (e : f = g) (en : n = m) : hw_DF h qc qp pk g m := by
  subst e; subst en
  exact H
theorem hw_DF_0 {h : hx_h} {qc qp pk : Nat} {f : Nat → Int32} {n : Int} (z : ∀ j, h.2.1 qc j = 0 ∧ h.2.2 qc j = none) : hw_DF h qc qp pk f n := fun c _ _ o d fo _ => by
  rw [(z c).2] at fo; cases fo
/-- what becomes of a number that a claim is given -/
def hw_UP (r n : Int) (v : Int32) (f g : Nat → Int32) : Prop := (r = -1 ∧ g = f) ∨ (r ≠ -1 ∧ g = hx_up f n.toNat v)
theorem hw_UP_u {r r2 n : Int} {v : Int32} {f g g2 : Nat → Int32} (e : r = r2) (p : hw_UP r n v f g) (q : hw_UP r2 n v f g2) : g = g2 := by
  rcases p with ⟨a1, a2⟩ | ⟨a1, a2⟩ <;> rcases q with ⟨b1, b2⟩ | ⟨b1, b2⟩
  · rw [a2, b2]
  · exfalso; omega
  · exfalso; omega
  · rw [a2, b2]
theorem hw_dc_of {h : hx_h} {ql qc qp px k0 : Nat} {agf lf lm cx fx : Nat → Int32} {n c0 : Int} (hn : n ≤ 8) (hnu : hx_num 100 h qc k0 c0) (hLQ : hx_LQ 8 100 h ql qc) (cl : hx_col 8 h ql k0 = lf) (el : hx_eqN 8 lf lm) (hDF : hw_DF h qc qp 2 agf c0) (cx1 : hx_col 40 h qp px = cx) (ex : hx_eqN 40 cx fx) : hx_dc h ql 2 px (fun k => fx (agf (lm k).toInt.toNat).toInt.toNat) n := by
  intro k hk c d fc fd
  obtain ⟨c', hc', ec⟩ := hLQ k (by omega) c fc
  have hlt : (c' : Int) < c0 := by
    rcases (show (c' : Int) < c0 ∨ c0 ≤ (c' : Int) by omega) with z | z
    · exact z
    · rw [(hnu c' hc').2 z] at ec; cases ec
  obtain ⟨p, fp, en⟩ := (hnu c' hc').1 hlt
  rw [ec] at fp
  cases fp
  have e1 : lm k = h.2.1 c k0 := by rw [← el k (by omega), ← cl]; exact hx_col_at fc (by omega)
  have e2 : (lm k).toInt.toNat = c' := by rw [e1, en]; omega
  obtain ⟨a, b, e⟩ := hDF c' hc' hlt c d ec fd
  show h.2.1 d px = fx (agf (lm k).toInt.toNat).toInt.toNat
  rw [e2, ← ex _ (by omega), ← cx1]
  exact (hx_col_at e (by omega)).symm
theorem hw_B {agf lm fx : Nat → Int32} {n : Int} (hn : n ≤ 8) (b1 : ∀ k, k < 8 → 0 ≤ (lm k).toInt ∧ (lm k).toInt ≤ 99) (b2 : ∀ k, k < 100 → 0 ≤ (agf k).toInt ∧ (agf k).toInt ≤ 39) (b3 : ∀ k, k < 40 → 0 ≤ (fx k).toInt ∧ (fx k).toInt ≤ 99) : ∀ k : Nat, (k : Int) < n → 0 ≤ ((fun k => fx (agf (lm k).toInt.toNat).toInt.toNat) k).toInt ∧ ((fun k => fx (agf (lm k).toInt.toNat).toInt.toNat) k).toInt ≤ 99 := fun k hk => by
  have a1 := b1 k (by omega)
  have a2 := b2 (lm k).toInt.toNat (by omega)
  exact b3 (agf (lm k).toInt.toNat).toInt.toNat (by omega)
/-! A PERSON is told his household -/
theorem hw_col_k {N : Nat} {h h1 : hx_h} {q k x : Nat} {f : Nat → Int32} (e : ∀ a k, a ≠ x → h1.2.1 a k = h.2.1 a k) (er : ∀ j, h1.2.2 q j = h.2.2 q j) (hno : ∀ j, j < N → h.2.2 q j ≠ some x) (c : hx_col N h q k = f) : hx_col N h1 q k = f := by
  rw [← c]
  funext j
  unfold hx_col
  by_cases hj : j < N
  · rw [if_pos hj, if_pos hj, er j]
    cases hr : h.2.2 q j with
    | none => rfl
    | some p => exact e p k (fun z => hno j hj (by rw [hr, z]))
  · rw [if_neg hj, if_neg hj]
theorem hw_col_u {N : Nat} {h h1 : hx_h} {q k k0 x i : Nat} {v : Int32} {n : Int} {f : Nat → Int32} (e : ∀ a k, a ≠ x → h1.2.1 a k = h.2.1 a k) (er : ∀ j, h1.2.2 q j = h.2.2 q j) (hn : hx_num N h q k0 n) (fo : h.2.2 q i = some x) (hi : i < N) (ev : h1.2.1 x k = v) (c : hx_col N h q k = f) : hx_col N h1 q k = hx_up f i v := by
  rw [← c]
  funext j
  by_cases hji : j = i
  · subst hji
    rw [hx_up_at, hx_col_at (h := h1) (p := x) (by rw [er]; exact fo) hi, ev]
  · rw [hx_up_ne hji]
    unfold hx_col
    by_cases hj : j < N
    · rw [if_pos hj, if_pos hj, er j]
      cases hr : h.2.2 q j with
      | none => rfl
      | some p => exact e p k (fun z => hji (hx_num_eq hn hj hi (by rw [hr, z]) fo))
    · rw [if_neg hj, if_neg hj]
/-- one who has not come into the array yet has the number of none in it -/
theorem hw_num_no {N : Nat} {h : hx_h} {q k x : Nat} {n : Int} (hn : hx_num N h q k n) (hx : (h.2.1 x k).toInt = n) : ∀ j, j < N → h.2.2 q j ≠ some x := by
  intro j hj f
  rcases (show (j : Int) < n ∨ n ≤ (j : Int) by omega) with z | z
  · obtain ⟨p, fp, e⟩ := (hn j hj).1 z
    rw [f] at fp
    cases fp
    omega
  · rw [(hn j hj).2 z] at f; cases f
def hw_AD (r i : Int) (v : Int32) (d d1 : Nat → Int32) : Prop := (r = 0 ∧ d1 = d) ∨ (r = 1 ∧ d1 = hx_up d i.toNat v)
theorem hw_adk {N : Nat} {r r2 i : Int} {v : Int32} {d d1 g g1 : Nat → Int32} (er : r = r2) (e : hx_eqN N d g) (p : hw_AD r i v d d1) (q : hw_AD r2 i v g g1) : hx_eqN N d1 g1 := by
  rcases p with ⟨a1, a2⟩ | ⟨a1, a2⟩ <;> rcases q with ⟨b1, b2⟩ | ⟨b1, b2⟩
  · rw [a2, b2]; exact e
  · exfalso; omega
  · exfalso; omega
  · rw [a2, b2]; exact hx_eqN_up e
end
section
/-! THE READER OF TEXTS, AS A FUNCTION OF THE TEXT: blanks, words, digits -/
def hv_sc (P : Nat → Bool) : Nat → Nat → Nat
  | 0, p => p
  | k + 1, p => if P p = true then hv_sc P k (p + 1) else p
theorem hv_sc_a {P : Nat → Bool} : ∀ (k p : Nat), p ≤ hv_sc P k p ∧ hv_sc P k p ≤ p + k ∧ (∀ j, p ≤ j → j < hv_sc P k p → P j = true) ∧ (hv_sc P k p < p + k → P (hv_sc P k p) = false) := by
  intro k
  induction k with
  | zero => intro p; exact ⟨Nat.le_refl _, Nat.le_refl _, fun j h1 h2 => absurd h2 (Nat.not_lt.mpr h1), fun h => absurd h (Nat.lt_irrefl _)⟩
  | succ k ih =>
    intro p
    by_cases e : P p = true
    · have hs : hv_sc P (k + 1) p = hv_sc P k (p + 1) := by
        show (if P p = true then hv_sc P k (p + 1) else p) = _
        rw [if_pos e]
      obtain ⟨a, b, c, d⟩ := ih (p + 1)
      rw [hs]
      refine ⟨by omega, by omega, fun j h1 h2 => ?_, fun h => d (by omega)⟩
      by_cases z : j = p
      · rw [z]; exact e
      · exact c j (by omega) h2
    · have hs : hv_sc P (k + 1) p = p := by
        show (if P p = true then hv_sc P k (p + 1) else p) = _
        rw [if_neg e]
      rw [hs]
      exact ⟨Nat.le_refl _, by omega, fun j h1 h2 => by exfalso; omega, fun _ => by simpa using e⟩
def hv_sn (P : Nat → Bool) (n p : Nat) : Nat := hv_sc P (n - p) p
section HVS
variable {P : Nat → Bool} {n p : Nat}
theorem hv_sn_s (h : p < n) (e : P p = true) : hv_sn P n p = hv_sn P n (p + 1) := by
  unfold hv_sn
  rw [show n - p = (n - (p + 1)) + 1 by omega]
  show (if P p = true then hv_sc P (n - (p + 1)) (p + 1) else p) = _
  rw [if_pos e]
theorem hv_sn_e (h : p < n → P p = false) : hv_sn P n p = p := by
  unfold hv_sn
  rcases Nat.lt_or_ge p n with z | z
  · rw [show n - p = (n - (p + 1)) + 1 by omega]
    show (if P p = true then hv_sc P (n - (p + 1)) (p + 1) else p) = _
    rw [if_neg (by rw [h z]; decide)]
  · rw [show n - p = 0 by omega]; rfl
theorem hv_sn_ge : p ≤ hv_sn P n p := (hv_sc_a _ _).1
theorem hv_sn_le (h : p ≤ n) : hv_sn P n p ≤ n := by
  have := (hv_sc_a (P := P) (n - p) p).2.1
  unfold hv_sn
  omega
theorem hv_sn_in {j : Nat} (h1 : p ≤ j) (h2 : j < hv_sn P n p) : P j = true := (hv_sc_a _ _).2.2.1 j h1 h2
theorem hv_sn_st (h : hv_sn P n p < n) : P (hv_sn P n p) = false := by
  rcases Nat.lt_or_ge p n with z | z
  · exact (hv_sc_a (P := P) (n - p) p).2.2.2 (by unfold hv_sn at h; omega)
  · rw [hv_sn_e (fun h => by omega)] at h; exfalso; omega
theorem hv_sn_id : hv_sn P n (hv_sn P n p) = hv_sn P n p := hv_sn_e (fun h => hv_sn_st h)
theorem hv_sn_lt (h : p < hv_sn P n p) : hv_sn P n p ≤ n := by
  rcases Nat.lt_or_ge p n with z | z
  · exact hv_sn_le (by omega)
  · rw [hv_sn_e (fun h => by omega)] at h; exfalso; omega
end HVS
def hv_bl (T : Nat → Int32) (q : Nat) : Bool := decide ((T q).toInt = 32)
def hv_lt (T : Nat → Int32) (q : Nat) : Bool := decide (97 ≤ (T q).toInt ∧ (T q).toInt ≤ 122)
def hv_dg (T : Nat → Int32) (q : Nat) : Bool := decide (48 ≤ (T q).toInt ∧ (T q).toInt ≤ 57)
def hv_sk (T : Nat → Int32) (n p : Nat) : Nat := hv_sn (hv_bl T) n p
def hv_we (T : Nat → Int32) (n p : Nat) : Nat := hv_sn (hv_lt T) n p
def hv_de (T : Nat → Int32) (n p : Nat) : Nat := hv_sn (hv_dg T) n p
def hv_tx (T : Nat → Int32) : Nat → Nat → List Int
  | _, 0 => []
  | p, k + 1 => (T p).toInt :: hv_tx T (p + 1) k
theorem hv_tx_len {T : Nat → Int32} : ∀ (k p : Nat), (hv_tx T p k).length = k := by
  intro k
  induction k with
  | zero => intro p; rfl
  | succ k ih => intro p; show (hv_tx T (p + 1) k).length + 1 = k + 1; rw [ih]
theorem hv_tx_get {T : Nat → Int32} : ∀ (k p i : Nat), i < k → (hv_tx T p k).getD i 0 = (T (p + i)).toInt := by
  intro k
  induction k with
  | zero => intro p i h; exfalso; omega
  | succ k ih =>
    intro p i h
    cases i with
    | zero => rfl
    | succ i =>
      show (hv_tx T (p + 1) k).getD i 0 = _
      rw [ih (p + 1) i (by omega), show p + 1 + i = p + (i + 1) by omega]
theorem hv_tx_eq {T : Nat → Int32} : ∀ (l : List Int) (p : Nat), (∀ i, i < l.length → (T (p + i)).toInt = l.getD i 0) → hv_tx T p l.length = l := by
  intro l
  induction l with
  | nil => intro p _; rfl
  | cons a l ih =>
    intro p h
    show (T p).toInt :: hv_tx T (p + 1) l.length = a :: l
    have h0 : (T p).toInt = a := h 0 (by simp)
    rw [h0, ih (p + 1) (fun i hi => by
      have := h (i + 1) (by simp; exact hi)
      rw [show p + 1 + i = p + (i + 1) by omega, this]
      rfl)]
def hv_wl : List (List Int) := [[111, 114], [97, 110, 100], [110, 111, 116],
  [111, 97, 116, 104], [100, 101, 110, 105, 101, 100], [110, 111, 116, 101], [119, 105, 116, 110, 101, 115, 115], [111, 119, 110], [111, 116, 104, 101, 114], [97, 108, 105, 107, 101], [99, 108, 97, 105, 109, 101, 100],
  [109, 111, 115, 116], [115, 112, 108, 105, 116], [119, 101, 101, 107], [107, 101, 101, 112], [108, 97, 116, 101], [103, 97, 111, 108], [108, 111, 110, 103, 101, 115, 116], [97, 103, 101], [99, 111, 115, 116], [112, 114, 111, 118, 101],
  [115, 117, 109, 109, 111, 110, 115], [104, 101, 97, 114, 105, 110, 103], [111, 114, 100, 101, 114], [115, 101, 105, 122, 117, 114, 101]]
def hv_fi (l : List Int) : List (List Int) → Int → Int
  | [], _ => -1
  | w :: ws, i => if l = w then i else hv_fi l ws (i + 1)
def hv_ix (l : List Int) : Int := hv_fi l hv_wl 0
theorem hv_fi_c {l : List Int} : ∀ (ws : List (List Int)) (i : Int), (hv_fi l ws i = -1 ∧ ∀ k : Nat, k < ws.length → l ≠ ws.getD k []) ∨ ∃ k : Nat, k < ws.length ∧ hv_fi l ws i = i + (k : Int) ∧ l = ws.getD k [] := by
  intro ws
  induction ws with
  | nil => intro i; exact Or.inl ⟨rfl, fun k hk => absurd hk (Nat.not_lt_zero _)⟩
  | cons w ws ih =>
    intro i
    by_cases e : l = w
    · refine Or.inr ⟨0, by simp, ?_, e⟩
      show (if l = w then i else hv_fi l ws (i + 1)) = i + ((0 : Nat) : Int)
      rw [if_pos e]; omega
    · have hs : hv_fi l (w :: ws) i = hv_fi l ws (i + 1) := by
        show (if l = w then i else hv_fi l ws (i + 1)) = _
        rw [if_neg e]
      rw [hs]
      rcases ih (i + 1) with ⟨h1, h2⟩ | ⟨k, h1, h2, h3⟩
      · refine Or.inl ⟨h1, fun k hk => ?_⟩
        cases k with
        | zero => exact e
        | succ k => exact h2 k (by simpa using hk)
      · exact Or.inr ⟨k + 1, by simp; exact h1, by rw [h2]; omega, h3⟩
def hv_wd (T : Nat → Int32) (n p : Nat) : Int := hv_ix (hv_tx T p (hv_we T n p - p))
theorem hv_ix_w : ∀ w : Nat, w < 25 → hv_ix (hv_wl.getD w []) = (w : Int) := by decide +kernel
theorem hv_ix_l : ∀ w : Nat, w < 25 → 2 ≤ (hv_wl.getD w []).length ∧ (hv_wl.getD w []).length ≤ 7 ∧ (1 ≤ w → 3 ≤ (hv_wl.getD w []).length) := by decide +kernel
theorem hv_ix_c (l : List Int) : (hv_ix l = -1 ∧ ∀ k : Nat, k < 25 → l ≠ hv_wl.getD k []) ∨ ∃ k : Nat, k < 25 ∧ hv_ix l = (k : Int) ∧ l = hv_wl.getD k [] := by
  rcases hv_fi_c (l := l) hv_wl 0 with z | ⟨k, a, b, c⟩
  · exact Or.inl z
  · exact Or.inr ⟨k, a, by show hv_fi l hv_wl 0 = _; rw [b]; omega, c⟩
section HVW
variable {T : Nat → Int32} {n p : Nat}
theorem hv_wd_b : -1 ≤ hv_wd T n p ∧ hv_wd T n p ≤ 24 := by
  rcases hv_ix_c (hv_tx T p (hv_we T n p - p)) with ⟨a, _⟩ | ⟨k, a, b, _⟩
  · unfold hv_wd; omega
  · unfold hv_wd; omega
theorem hv_wd_k {w : Nat} (h : hv_wd T n p = (w : Int)) : w < 25 ∧ hv_tx T p (hv_we T n p - p) = hv_wl.getD w [] ∧ hv_we T n p = p + (hv_wl.getD w []).length ∧ hv_we T n p ≤ n := by
  unfold hv_wd at h
  rcases hv_ix_c (hv_tx T p (hv_we T n p - p)) with ⟨a, _⟩ | ⟨k, a, b, c⟩
  · exfalso; omega
  · have e : k = w := by omega
    subst e
    have hl := congrArg List.length c
    rw [hv_tx_len] at hl
    have h2 := hv_ix_l k a
    have hg : p ≤ hv_we T n p := hv_sn_ge
    exact ⟨a, c, by omega, hv_sn_lt (p := p) (by show p < hv_we T n p; omega)⟩
theorem hv_wd_3 (h : 1 ≤ hv_wd T n p) : p + 3 ≤ hv_we T n p ∧ hv_we T n p ≤ n ∧ hv_we T n p ≤ p + 7 := by
  have hb := hv_wd_b (T := T) (n := n) (p := p)
  obtain ⟨a, b, c, d⟩ := hv_wd_k (T := T) (n := n) (p := p) (w := (hv_wd T n p).toNat) (by omega)
  have h2 := hv_ix_l _ a
  have h3 := h2.2.2 (by omega)
  omega
theorem hv_wd_0 (h : hv_wd T n p = 0) : hv_we T n p = p + 2 ∧ hv_we T n p ≤ n := by
  obtain ⟨a, b, c, d⟩ := hv_wd_k (T := T) (n := n) (p := p) (w := 0) (by omega)
  have h2 : (hv_wl.getD 0 []).length = 2 := rfl
  omega
theorem hv_wd_1 (h : hv_wd T n p = 1) : hv_we T n p = p + 3 ∧ hv_we T n p ≤ n := by
  obtain ⟨a, b, c, d⟩ := hv_wd_k (T := T) (n := n) (p := p) (w := 1) (by omega)
  have h2 : (hv_wl.getD 1 []).length = 3 := rfl
  omega
theorem hv_wd_2 (h : hv_wd T n p = 2) : hv_we T n p = p + 3 ∧ hv_we T n p ≤ n := by
  obtain ⟨a, b, c, d⟩ := hv_wd_k (T := T) (n := n) (p := p) (w := 2) (by omega)
  have h2 : (hv_wl.getD 2 []).length = 3 := rfl
  omega
/-- no word where no letter is -/
theorem hv_wd_n (h : p < n → hv_lt T p = false) : hv_wd T n p = -1 := by
  have e : hv_we T n p = p := hv_sn_e h
  unfold hv_wd
  rw [e, Nat.sub_self]
  rcases hv_ix_c (hv_tx T p 0) with ⟨a, _⟩ | ⟨k, a, b, c⟩
  · exact a
  · have hl := congrArg List.length c
    rw [hv_tx_len] at hl
    have h2 := hv_ix_l k a
    exfalso; omega
theorem hv_sk_ge : p ≤ hv_sk T n p := hv_sn_ge
theorem hv_sk_le (h : p ≤ n) : hv_sk T n p ≤ n := hv_sn_le h
theorem hv_sk_id : hv_sk T n (hv_sk T n p) = hv_sk T n p := hv_sn_id
theorem hv_sk_e (h : n ≤ p) : hv_sk T n p = p := hv_sn_e (fun z => by exfalso; omega)
theorem hv_de_gt (h : p < n) (e : hv_dg T p = true) : p + 1 ≤ hv_de T n p ∧ hv_de T n p ≤ n := by
  have h1 : hv_de T n p = hv_de T n (p + 1) := hv_sn_s h e
  have h2 : p + 1 ≤ hv_de T n (p + 1) := hv_sn_ge
  have h3 : hv_de T n (p + 1) ≤ n := hv_sn_le (by omega)
  omega
end HVW
def hv_dv (T : Nat → Int32) (p : Nat) : Nat → Int
  | 0 => 0
  | k + 1 => 10 * hv_dv T p k + ((T (p + k)).toInt - 48)
theorem hv_dv_b {T : Nat → Int32} {p : Nat} : ∀ k, (∀ j, p ≤ j → j < p + k → hv_dg T j = true) → 0 ≤ hv_dv T p k ∧ hv_dv T p k < 10 ^ k := by
  intro k
  induction k with
  | zero => intro _; exact ⟨Int.le_refl _, by show (0 : Int) < 10 ^ 0; decide⟩
  | succ k ih =>
    intro h
    have h1 := ih (fun j a b => h j a (by omega))
    have h2 := h (p + k) (by omega) (by omega)
    simp only [hv_dg, decide_eq_true_eq] at h2
    show 0 ≤ 10 * hv_dv T p k + ((T (p + k)).toInt - 48) ∧ 10 * hv_dv T p k + ((T (p + k)).toInt - 48) < 10 ^ (k + 1)
    rw [Int.pow_succ]
    omega
/-! THE RESULTS -/
abbrev hv_tok : Type := Int × Nat × Int
abbrev hv_R : Type := Nat ⊕ (Nat × Nat × List hv_tok)
def hv_bd {α β : Type} (r : Nat ⊕ α) (f : α → Nat ⊕ β) : Nat ⊕ β := match r with
  | .inl x => .inl x
  | .inr a => f a
theorem hv_bd_l {α β : Type} {x : Nat} {f : α → Nat ⊕ β} : hv_bd (.inl x) f = .inl x := rfl
theorem hv_bd_r {α β : Type} {a : α} {f : α → Nat ⊕ β} : hv_bd (.inr a) f = f a := rfl
theorem hv_bd_i {α β : Type} {r : Nat ⊕ α} {f : α → Nat ⊕ β} {q : β} (h : hv_bd r f = .inr q) : ∃ a, r = .inr a ∧ f a = .inr q := by
  cases r with
  | inl x => cases h
  | inr a => exact ⟨a, rfl, h⟩
/-- a SIGN: its number and how many bytes; none: 0 -/
def hv_sg (T : Nat → Int32) (n q : Nat) : Nat × Nat :=
  if q < n then
    if (T q).toInt = 61 then (2, 1)
    else if (T q).toInt = 60 then (if q + 1 < n ∧ (T (q + 1)).toInt = 61 then (1, 2) else (0, 1))
    else if (T q).toInt = 62 then (if q + 1 < n ∧ (T (q + 1)).toInt = 61 then (3, 2) else (4, 1))
    else (0, 0)
  else (0, 0)
def hv_rt (T : Nat → Int32) (n : Nat) (w : Int) (s u t : Nat) (o : List hv_tok) : hv_R :=
  if 3 ≤ hv_wd T n u ∧ hv_wd T n u ≤ 10 then .inr (hv_we T n u, t + 1, (w - 2, s, 10000 + (hv_wd T n u - 3)) :: o)
  else if u < n ∧ hv_dg T u = true then (if hv_de T n u - u ≤ 4 then .inr (hv_de T n u, t + 1, (w - 2, s, hv_dv T u (hv_de T n u - u)) :: o) else .inl (2 + 8 * u))
  else .inl (1 + 8 * u)
def hv_lf (T : Nat → Int32) (n : Nat) (w : Int) (q t : Nat) (o : List hv_tok) : hv_R :=
  if (hv_sg T n q).2 = 0 then .inl (1 + 8 * q) else hv_rt T n w (hv_sg T n q).1 (hv_sk T n (q + (hv_sg T n q).2)) t o
def hv_term (T : Nat → Int32) (n p t : Nat) (o : List hv_tok) : hv_R :=
  if 3 ≤ hv_wd T n p ∧ hv_wd T n p ≤ 10 then (if 20 ≤ t then .inl (5 + 8 * p) else hv_lf T n (hv_wd T n p) (hv_sk T n (hv_we T n p)) t o) else .inl (1 + 8 * p)
def hv_j (b : Bool) (s : Nat) (o : List hv_tok) : List hv_tok := if b = true then (0, s, 0) :: o else o
def hv_lp (T : Nat → Int32) (n : Nat) (one : Nat → Nat → List hv_tok → hv_R) : Nat → Bool → Bool → Nat → Nat → List hv_tok → hv_R
  | 0, _, _, _, _, _ => .inl 0
  | f + 1, a, w, p, t, o => hv_bd (one p t o) (fun q =>
    if hv_wd T n (hv_sk T n q.1) = 1 then hv_lp T n one f true w (hv_sk T n q.1 + 3) q.2.1 (hv_j a 1 q.2.2)
    else if hv_wd T n (hv_sk T n q.1) = 0 then hv_lp T n one f false true (hv_sk T n q.1 + 2) q.2.1 (hv_j w 0 (hv_j a 1 q.2.2))
    else .inr (hv_sk T n q.1, q.2.1, hv_j w 0 (hv_j a 1 q.2.2)))
theorem hv_lp_s {T : Nat → Int32} {n : Nat} {one : Nat → Nat → List hv_tok → hv_R} {f : Nat} {a w : Bool} {p t : Nat} {o : List hv_tok} : hv_lp T n one (f + 1) a w p t o = hv_bd (one p t o) (fun q =>
    if hv_wd T n (hv_sk T n q.1) = 1 then hv_lp T n one f true w (hv_sk T n q.1 + 3) q.2.1 (hv_j a 1 q.2.2)
    else if hv_wd T n (hv_sk T n q.1) = 0 then hv_lp T n one f false true (hv_sk T n q.1 + 2) q.2.1 (hv_j w 0 (hv_j a 1 q.2.2))
    else .inr (hv_sk T n q.1, q.2.1, hv_j w 0 (hv_j a 1 q.2.2))) := rfl
def hv_par (T : Nat → Int32) (n : Nat) (q : Nat × Nat × List hv_tok) : hv_R :=
  if hv_sk T n q.1 < n ∧ (T (hv_sk T n q.1)).toInt = 41 then .inr (hv_sk T n q.1 + 1, q.2.1, q.2.2) else .inl (1 + 8 * hv_sk T n q.1)
def hv_one (T : Nat → Int32) (n : Nat) : Nat → Nat → Nat → List hv_tok → hv_R
  | 0, p, t, o => if hv_wd T n (hv_sk T n p) = 2 then .inl (4 + 8 * hv_sk T n p) else if hv_sk T n p < n ∧ (T (hv_sk T n p)).toInt = 40 then .inl (4 + 8 * hv_sk T n p) else hv_term T n (hv_sk T n p) t o
  | D + 1, p, t, o => if hv_wd T n (hv_sk T n p) = 2 then hv_bd (hv_one T n D (hv_sk T n p + 3) t o) (fun q => .inr (q.1, q.2.1, (0, 2, 0) :: q.2.2))
    else if hv_sk T n p < n ∧ (T (hv_sk T n p)).toInt = 40 then hv_bd (hv_lp T n (hv_one T n D) (n + 2) false false (hv_sk T n p + 1) t o) (hv_par T n)
    else hv_term T n (hv_sk T n p) t o
def hv_LE (T : Nat → Int32) (n D : Nat) (a w : Bool) (p t : Nat) (o : List hv_tok) : hv_R := hv_lp T n (hv_one T n D) (n + 2) a w p t o
/-- how far it comes, and how much is written -/
def hv_G (n p t : Nat) (o : List hv_tok) (q : Nat × Nat × List hv_tok) : Prop := p < q.1 ∧ q.1 ≤ n ∧ t ≤ q.2.1 ∧ q.2.1 ≤ max t 20 ∧ 3 * q.2.2.length + 3 + p + t ≤ 3 * o.length + q.1 + q.2.1
section HVB
variable {T : Nat → Int32} {n : Nat}
theorem hv_sg_b (q : Nat) : ((hv_sg T n q).2 = 0 ∨ (1 ≤ (hv_sg T n q).2 ∧ q + (hv_sg T n q).2 ≤ n)) ∧ (hv_sg T n q).2 ≤ 2 ∧ (hv_sg T n q).1 ≤ 4 := by
  unfold hv_sg
  repeat' split
  all_goals (dsimp only; omega)
theorem hv_term_b {p t : Nat} {o : List hv_tok} {q : Nat × Nat × List hv_tok} (h : hv_term T n p t o = .inr q) : p < q.1 ∧ q.1 ≤ n ∧ q.2.1 = t + 1 ∧ t < 20 ∧ q.2.2.length = o.length + 1 ∧ p + 5 ≤ q.1 ∧ hv_G n p t o q := by
  have key : p + 5 ≤ q.1 ∧ q.1 ≤ n ∧ q.2.1 = t + 1 ∧ t < 20 ∧ q.2.2.length = o.length + 1 := by
    unfold hv_term at h
    split at h
    · next hw =>
      split at h
      · cases h
      · next ht =>
        have hl := hv_wd_3 (T := T) (n := n) (p := p) (by omega)
        have hs1 := hv_sk_ge (T := T) (n := n) (p := hv_we T n p)
        unfold hv_lf at h
        split at h
        · cases h
        · next hz =>
          have hsg := hv_sg_b (T := T) (n := n) (hv_sk T n (hv_we T n p))
          have hs2 := hv_sk_ge (T := T) (n := n) (p := hv_sk T n (hv_we T n p) + (hv_sg T n (hv_sk T n (hv_we T n p))).2)
          unfold hv_rt at h
          split at h
          · next hv =>
            have hl2 := hv_wd_3 (T := T) (n := n) (p := hv_sk T n (hv_sk T n (hv_we T n p) + (hv_sg T n (hv_sk T n (hv_we T n p))).2)) (by omega)
            have h2 := Sum.inr.inj h
            subst h2
            show p + 5 ≤ hv_we T n _ ∧ hv_we T n _ ≤ n ∧ t + 1 = t + 1 ∧ t < 20 ∧ o.length + 1 = o.length + 1
            omega
          · split at h
            · next hd =>
              have hl2 := hv_de_gt (T := T) hd.1 hd.2
              split at h
              · have h2 := Sum.inr.inj h
                subst h2
                show p + 5 ≤ hv_de T n _ ∧ hv_de T n _ ≤ n ∧ t + 1 = t + 1 ∧ t < 20 ∧ o.length + 1 = o.length + 1
                omega
              · cases h
            · cases h
    · cases h
  obtain ⟨a, b, c, d, e⟩ := key
  exact ⟨by omega, b, c, d, e, a, by unfold hv_G; omega⟩
/-- what waits to be written: an and, an or -/
def hv_w1 (a : Bool) : Nat := if a = true then 1 else 0
theorem hv_w1_j {a : Bool} {s : Nat} {o : List hv_tok} : (hv_j a s o).length = o.length + hv_w1 a := by
  unfold hv_j hv_w1
  split <;> simp
theorem hv_lp_b {one : Nat → Nat → List hv_tok → hv_R} (hone : ∀ p t o q, one p t o = .inr q → hv_G n p t o q) : ∀ (f : Nat) (a w : Bool) (p t : Nat) (o : List hv_tok) (q : Nat × Nat × List hv_tok), hv_lp T n one f a w p t o = .inr q → p < q.1 ∧ q.1 ≤ n ∧ t ≤ q.2.1 ∧ q.2.1 ≤ max t 20 ∧ 3 * q.2.2.length + 3 + p + t ≤ 3 * o.length + 3 * hv_w1 a + 3 * hv_w1 w + q.1 + q.2.1 ∧ hv_sk T n q.1 = q.1 ∧ hv_wd T n q.1 ≠ 0 ∧ hv_wd T n q.1 ≠ 1 := by
  intro f
  induction f with
  | zero => intro a w p t o q h; cases h
  | succ f ih =>
    intro a w p t o q h
    rw [hv_lp_s] at h
    obtain ⟨r, h1, h2⟩ := hv_bd_i h
    obtain ⟨g1, g2, g3, g4, g5⟩ := hone p t o r h1
    have hs := hv_sk_ge (T := T) (n := n) (p := r.1)
    have hsn := hv_sk_le (T := T) (n := n) (p := r.1) g2
    have j1 := hv_w1_j (a := a) (s := 1) (o := r.2.2)
    have j2 := hv_w1_j (a := w) (s := 0) (o := hv_j a 1 r.2.2)
    have wf : hv_w1 false = 0 := rfl
    have wt : hv_w1 true = 1 := rfl
    split at h2
    · next e =>
      have hl := hv_wd_1 e
      have := ih _ _ _ _ _ _ h2
      refine ⟨by omega, this.2.1, by omega, by omega, ?_, this.2.2.2.2.2⟩
      have h5 := this.2.2.2.2.1
      rw [j1, wt] at h5
      omega
    · next e1 =>
      split at h2
      · next e =>
        have hl := hv_wd_0 e
        have := ih _ _ _ _ _ _ h2
        refine ⟨by omega, this.2.1, by omega, by omega, ?_, this.2.2.2.2.2⟩
        have h5 := this.2.2.2.2.1
        rw [j2, j1, wt, wf] at h5
        omega
      · next e0 =>
        cases h2
        refine ⟨by show p < hv_sk T n r.1; omega, hsn, g3, g4, ?_, hv_sk_id, e0, e1⟩
        show 3 * (hv_j w 0 (hv_j a 1 r.2.2)).length + 3 + p + t ≤ 3 * o.length + 3 * hv_w1 a + 3 * hv_w1 w + hv_sk T n r.1 + r.2.1
        rw [j2, j1]
        omega
theorem hv_one_b : ∀ (D p t : Nat) (o : List hv_tok) (q : Nat × Nat × List hv_tok), hv_one T n D p t o = .inr q → hv_G n p t o q := by
  intro D
  induction D with
  | zero =>
    intro p t o q h
    have hs := hv_sk_ge (T := T) (n := n) (p := p)
    unfold hv_one at h
    split at h
    · cases h
    · split at h
      · cases h
      · obtain ⟨a, b, c, d, e, f, g⟩ := hv_term_b h
        unfold hv_G at g ⊢
        omega
  | succ D ih =>
    intro p t o q h
    have hs := hv_sk_ge (T := T) (n := n) (p := p)
    unfold hv_one at h
    split at h
    · next e =>
      obtain ⟨r, h1, h2⟩ := hv_bd_i h
      have g := ih _ _ _ _ h1
      have h3 := Sum.inr.inj h2
      subst h3
      unfold hv_G at g ⊢
      simp only [List.length_cons]
      omega
    · split at h
      · obtain ⟨r, h1, h2⟩ := hv_bd_i h
        have g := hv_lp_b ih _ _ _ _ _ _ _ h1
        have wf : hv_w1 false = 0 := rfl
        rw [wf] at g
        unfold hv_par at h2
        split at h2
        · next hc =>
          cases h2
          have hs2 := hv_sk_ge (T := T) (n := n) (p := r.1)
          unfold hv_G
          show _ ∧ hv_sk T n r.1 + 1 ≤ n ∧ t ≤ r.2.1 ∧ r.2.1 ≤ max t 20 ∧ 3 * r.2.2.length + 3 + p + t ≤ 3 * o.length + (hv_sk T n r.1 + 1) + r.2.1
          refine ⟨by show p < hv_sk T n r.1 + 1; omega, by omega, by omega, by omega, by omega⟩
        · cases h2
      · obtain ⟨a, b, c, d, e, f, g⟩ := hv_term_b h
        unfold hv_G at g ⊢
        omega
theorem hv_LE_b {D : Nat} {a w : Bool} {p t : Nat} {o : List hv_tok} {q : Nat × Nat × List hv_tok} (h : hv_LE T n D a w p t o = .inr q) : p < q.1 ∧ q.1 ≤ n ∧ t ≤ q.2.1 ∧ q.2.1 ≤ max t 20 ∧ 3 * q.2.2.length + 3 + p + t ≤ 3 * o.length + 3 * hv_w1 a + 3 * hv_w1 w + q.1 + q.2.1 ∧ hv_sk T n q.1 = q.1 ∧ hv_wd T n q.1 ≠ 0 ∧ hv_wd T n q.1 ≠ 1 := hv_lp_b (hv_one_b D) _ _ _ _ _ _ _ h
theorem hv_lp_f {one : Nat → Nat → List hv_tok → hv_R} (hone : ∀ p t o q, one p t o = .inr q → hv_G n p t o q) : ∀ (f f' : Nat) (a w : Bool) (p t : Nat) (o : List hv_tok), n + 1 < f + p → 0 < f → n + 1 < f' + p → 0 < f' → hv_lp T n one f a w p t o = hv_lp T n one f' a w p t o := by
  intro f
  induction f with
  | zero => intro f' a w p t o _ h; exfalso; omega
  | succ f ih =>
    intro f' a w p t o h1 h2 h3 h4
    obtain ⟨g, rfl⟩ : ∃ g, f' = g + 1 := ⟨f' - 1, by omega⟩
    rw [hv_lp_s, hv_lp_s]
    cases hr : one p t o with
    | inl x => rfl
    | inr r =>
      obtain ⟨g1, g2, g3, g4, g5⟩ := hone p t o r hr
      have hs := hv_sk_ge (T := T) (n := n) (p := r.1)
      rw [hv_bd_r, hv_bd_r]
      by_cases e : hv_wd T n (hv_sk T n r.1) = 1
      · have hl := hv_wd_1 e
        rw [if_pos e, if_pos e]
        exact ih _ _ _ _ _ _ (by omega) (by omega) (by omega) (by omega)
      · rw [if_neg e, if_neg e]
        by_cases e0 : hv_wd T n (hv_sk T n r.1) = 0
        · have hl := hv_wd_0 e0
          rw [if_pos e0, if_pos e0]
          exact ih _ _ _ _ _ _ (by omega) (by omega) (by omega) (by omega)
        · rw [if_neg e0, if_neg e0]
/-- a turn of the loop -/
theorem hv_LE_t {D : Nat} {a w : Bool} {p t : Nat} {o : List hv_tok} : hv_LE T n D a w p t o = hv_bd (hv_one T n D p t o) (fun q =>
    if hv_wd T n (hv_sk T n q.1) = 1 then hv_LE T n D true w (hv_sk T n q.1 + 3) q.2.1 (hv_j a 1 q.2.2)
    else if hv_wd T n (hv_sk T n q.1) = 0 then hv_LE T n D false true (hv_sk T n q.1 + 2) q.2.1 (hv_j w 0 (hv_j a 1 q.2.2))
    else .inr (hv_sk T n q.1, q.2.1, hv_j w 0 (hv_j a 1 q.2.2))) := by
  show hv_lp T n (hv_one T n D) ((n + 1) + 1) a w p t o = _
  rw [hv_lp_s]
  cases hr : hv_one T n D p t o with
  | inl x => rfl
  | inr r =>
    have hs := hv_sk_ge (T := T) (n := n) (p := r.1)
    rw [hv_bd_r, hv_bd_r]
    by_cases e : hv_wd T n (hv_sk T n r.1) = 1
    · rw [if_pos e, if_pos e]
      exact hv_lp_f (hv_one_b D) _ _ _ _ _ _ _ (by omega) (by omega) (by omega) (by omega)
    · rw [if_neg e, if_neg e]
      by_cases e0 : hv_wd T n (hv_sk T n r.1) = 0
      · rw [if_pos e0, if_pos e0]
        exact hv_lp_f (hv_one_b D) _ _ _ _ _ _ _ (by omega) (by omega) (by omega) (by omega)
      · rw [if_neg e0, if_neg e0]
end HVB
end
section
/-! THE OTHER READER: a stack instead of calls -/
def hv_cn : List hv_tok → List Int → List hv_tok × List Int
  | o, [] => (o, [])
  | o, a :: s => if a = 2 then hv_cn ((0, 2, 0) :: o) s else (o, a :: s)
def hv_cd (low : Int) : List hv_tok → List Int → List hv_tok × List Int
  | o, [] => (o, [])
  | o, a :: s => if a ≠ 100 ∧ low ≤ a then hv_cd low ((0, a.toNat, 0) :: o) s else (o, a :: s)
def hv_dp : List Int → Nat
  | [] => 0
  | a :: s => hv_dp s + (if a = 2 ∨ a = 100 then 1 else 0)
def hv_shut (T : Nat → Int32) (n p t : Nat) (run : Nat → Nat → List hv_tok → List Int → hv_R) (x : List hv_tok × List Int) : hv_R :=
  if p < n ∧ (T p).toInt = 41 then (match x.2 with
    | [] => .inl (1 + 8 * p)
    | _ :: s => run (p + 1) t (hv_cn x.1 s).1 (hv_cn x.1 s).2)
  else if x.2 = [] then .inr (p, t, x.1) else .inl (1 + 8 * p)
def hv_run (T : Nat → Int32) (n : Nat) : Nat → Bool → Nat → Nat → List hv_tok → List Int → hv_R
  | 0, _, _, _, _, _ => .inl 0
  | f + 1, true, p, t, o, s =>
    if hv_wd T n (hv_sk T n p) = 2 then (if hv_dp s = 8 then .inl (4 + 8 * hv_sk T n p) else hv_run T n f true (hv_sk T n p + 3) t o (2 :: s))
    else if hv_sk T n p < n ∧ (T (hv_sk T n p)).toInt = 40 then (if hv_dp s = 8 then .inl (4 + 8 * hv_sk T n p) else hv_run T n f true (hv_sk T n p + 1) t o (100 :: s))
    else hv_bd (hv_term T n (hv_sk T n p) t o) (fun q => hv_run T n f false q.1 q.2.1 (hv_cn q.2.2 s).1 (hv_cn q.2.2 s).2)
  | f + 1, false, p, t, o, s =>
    if hv_wd T n (hv_sk T n p) = 1 ∨ hv_wd T n (hv_sk T n p) = 0 then hv_run T n f true (hv_we T n (hv_sk T n p)) t (hv_cd (hv_wd T n (hv_sk T n p)) o s).1 (hv_wd T n (hv_sk T n p) :: (hv_cd (hv_wd T n (hv_sk T n p)) o s).2)
    else hv_shut T n (hv_sk T n p) t (hv_run T n f false) (hv_cd 0 o s)
section HVR
variable {T : Nat → Int32} {n : Nat}
theorem hv_run_1 {f p t : Nat} {o : List hv_tok} {s : List Int} : hv_run T n (f + 1) true p t o s =
    (if hv_wd T n (hv_sk T n p) = 2 then (if hv_dp s = 8 then .inl (4 + 8 * hv_sk T n p) else hv_run T n f true (hv_sk T n p + 3) t o (2 :: s))
    else if hv_sk T n p < n ∧ (T (hv_sk T n p)).toInt = 40 then (if hv_dp s = 8 then .inl (4 + 8 * hv_sk T n p) else hv_run T n f true (hv_sk T n p + 1) t o (100 :: s))
    else hv_bd (hv_term T n (hv_sk T n p) t o) (fun q => hv_run T n f false q.1 q.2.1 (hv_cn q.2.2 s).1 (hv_cn q.2.2 s).2)) := rfl
theorem hv_run_0 {f p t : Nat} {o : List hv_tok} {s : List Int} : hv_run T n (f + 1) false p t o s =
    (if hv_wd T n (hv_sk T n p) = 1 ∨ hv_wd T n (hv_sk T n p) = 0 then hv_run T n f true (hv_we T n (hv_sk T n p)) t (hv_cd (hv_wd T n (hv_sk T n p)) o s).1 (hv_wd T n (hv_sk T n p) :: (hv_cd (hv_wd T n (hv_sk T n p)) o s).2)
    else hv_shut T n (hv_sk T n p) t (hv_run T n f false) (hv_cd 0 o s)) := rfl
theorem hv_shut_c {p t : Nat} {r r' : Nat → Nat → List hv_tok → List Int → hv_R} {x : List hv_tok × List Int} (h : p < n → ∀ o s, r (p + 1) t o s = r' (p + 1) t o s) : hv_shut T n p t r x = hv_shut T n p t r' x := by
  unfold hv_shut
  by_cases e : p < n ∧ (T p).toInt = 41
  · rw [if_pos e, if_pos e]
    cases x.2 with
    | nil => rfl
    | cons a s => exact h e.1 _ _
  · rw [if_neg e, if_neg e]
theorem hv_run_f : ∀ (f f' : Nat) (b : Bool) (p t : Nat) (o : List hv_tok) (s : List Int), n + 1 < f + p → 0 < f → n + 1 < f' + p → 0 < f' → hv_run T n f b p t o s = hv_run T n f' b p t o s := by
  intro f
  induction f with
  | zero => intro f' b p t o s _ h; exfalso; omega
  | succ f ih =>
    intro f' b p t o s h1 h2 h3 h4
    obtain ⟨g, rfl⟩ : ∃ g, f' = g + 1 := ⟨f' - 1, by omega⟩
    have hs := hv_sk_ge (T := T) (n := n) (p := p)
    cases b with
    | true =>
      rw [hv_run_1, hv_run_1]
      by_cases e : hv_wd T n (hv_sk T n p) = 2
      · have hl := hv_wd_2 e
        rw [if_pos e, if_pos e]
        by_cases d : hv_dp s = 8
        · rw [if_pos d, if_pos d]
        · rw [if_neg d, if_neg d]
          exact ih _ _ _ _ _ _ (by omega) (by omega) (by omega) (by omega)
      · rw [if_neg e, if_neg e]
        by_cases c : hv_sk T n p < n ∧ (T (hv_sk T n p)).toInt = 40
        · rw [if_pos c, if_pos c]
          by_cases d : hv_dp s = 8
          · rw [if_pos d, if_pos d]
          · rw [if_neg d, if_neg d]
            exact ih _ _ _ _ _ _ (by omega) (by omega) (by omega) (by omega)
        · rw [if_neg c, if_neg c]
          cases hr : hv_term T n (hv_sk T n p) t o with
          | inl x => rfl
          | inr q =>
            obtain ⟨q1, q2, _⟩ := hv_term_b hr
            rw [hv_bd_r, hv_bd_r]
            exact ih _ _ _ _ _ _ (by omega) (by omega) (by omega) (by omega)
    | false =>
      rw [hv_run_0, hv_run_0]
      by_cases e : hv_wd T n (hv_sk T n p) = 1 ∨ hv_wd T n (hv_sk T n p) = 0
      · have hl : hv_sk T n p + 2 ≤ hv_we T n (hv_sk T n p) ∧ hv_we T n (hv_sk T n p) ≤ n := by
          rcases e with e | e
          · have := hv_wd_1 e; omega
          · have := hv_wd_0 e; omega
        rw [if_pos e, if_pos e]
        exact ih _ _ _ _ _ _ (by omega) (by omega) (by omega) (by omega)
      · rw [if_neg e, if_neg e]
        exact hv_shut_c (fun hp o s => ih _ _ _ _ _ _ (by omega) (by omega) (by omega) (by omega))
def hv_RN (T : Nat → Int32) (n : Nat) (b : Bool) (p t : Nat) (o : List hv_tok) (s : List Int) : hv_R := hv_run T n (n + 2) b p t o s
theorem hv_RN_1 {p t : Nat} {o : List hv_tok} {s : List Int} : hv_RN T n true p t o s =
    (if hv_wd T n (hv_sk T n p) = 2 then (if hv_dp s = 8 then .inl (4 + 8 * hv_sk T n p) else hv_RN T n true (hv_sk T n p + 3) t o (2 :: s))
    else if hv_sk T n p < n ∧ (T (hv_sk T n p)).toInt = 40 then (if hv_dp s = 8 then .inl (4 + 8 * hv_sk T n p) else hv_RN T n true (hv_sk T n p + 1) t o (100 :: s))
    else hv_bd (hv_term T n (hv_sk T n p) t o) (fun q => hv_RN T n false q.1 q.2.1 (hv_cn q.2.2 s).1 (hv_cn q.2.2 s).2)) := by
  show hv_run T n ((n + 1) + 1) true p t o s = _
  rw [hv_run_1]
  have hs := hv_sk_ge (T := T) (n := n) (p := p)
  by_cases e : hv_wd T n (hv_sk T n p) = 2
  · rw [if_pos e, if_pos e]
    by_cases d : hv_dp s = 8
    · rw [if_pos d, if_pos d]
    · rw [if_neg d, if_neg d]
      exact hv_run_f _ _ _ _ _ _ _ (by omega) (by omega) (by omega) (by omega)
  · rw [if_neg e, if_neg e]
    by_cases c : hv_sk T n p < n ∧ (T (hv_sk T n p)).toInt = 40
    · rw [if_pos c, if_pos c]
      by_cases d : hv_dp s = 8
      · rw [if_pos d, if_pos d]
      · rw [if_neg d, if_neg d]
        exact hv_run_f _ _ _ _ _ _ _ (by omega) (by omega) (by omega) (by omega)
    · rw [if_neg c, if_neg c]
      cases hr : hv_term T n (hv_sk T n p) t o with
      | inl x => rfl
      | inr q =>
        obtain ⟨q1, q2, _⟩ := hv_term_b hr
        rw [hv_bd_r, hv_bd_r]
        exact hv_run_f _ _ _ _ _ _ _ (by omega) (by omega) (by omega) (by omega)
theorem hv_RN_0 {p t : Nat} {o : List hv_tok} {s : List Int} : hv_RN T n false p t o s =
    (if hv_wd T n (hv_sk T n p) = 1 ∨ hv_wd T n (hv_sk T n p) = 0 then hv_RN T n true (hv_we T n (hv_sk T n p)) t (hv_cd (hv_wd T n (hv_sk T n p)) o s).1 (hv_wd T n (hv_sk T n p) :: (hv_cd (hv_wd T n (hv_sk T n p)) o s).2)
    else hv_shut T n (hv_sk T n p) t (hv_RN T n false) (hv_cd 0 o s)) := by
  show hv_run T n ((n + 1) + 1) false p t o s = _
  rw [hv_run_0]
  have hs := hv_sk_ge (T := T) (n := n) (p := p)
  by_cases e : hv_wd T n (hv_sk T n p) = 1 ∨ hv_wd T n (hv_sk T n p) = 0
  · have hl : hv_sk T n p + 2 ≤ hv_we T n (hv_sk T n p) ∧ hv_we T n (hv_sk T n p) ≤ n := by
      rcases e with e | e
      · have := hv_wd_1 e; omega
      · have := hv_wd_0 e; omega
    rw [if_pos e, if_pos e]
    exact hv_run_f _ _ _ _ _ _ _ (by omega) (by omega) (by omega) (by omega)
  · rw [if_neg e, if_neg e]
    exact hv_shut_c (fun hp o s => hv_run_f _ _ _ _ _ _ _ (by omega) (by omega) (by omega) (by omega))
/-- what waits stands on the stack -/
def hv_stk (a w : Bool) (B : List Int) : List Int := if a = true then 1 :: (if w = true then 0 :: B else B) else (if w = true then 0 :: B else B)
/-- a base: nothing, or what was opened -/
def hv_bs (B : List Int) : Prop := B = [] ∨ ∃ s, B = 100 :: s
theorem hv_cn_b {o : List hv_tok} {a w : Bool} {B : List Int} (hB : hv_bs B) : hv_cn o (hv_stk a w B) = (o, hv_stk a w B) := by
  rcases hB with rfl | ⟨s, rfl⟩ <;> cases a <;> cases w <;> rfl
theorem hv_cd_1 {o : List hv_tok} {a w : Bool} {B : List Int} (hB : hv_bs B) : hv_cd 1 o (hv_stk a w B) = (hv_j a 1 o, hv_stk false w B) := by
  rcases hB with rfl | ⟨s, rfl⟩ <;> cases a <;> cases w <;> rfl
theorem hv_cd_0 {o : List hv_tok} {a w : Bool} {B : List Int} (hB : hv_bs B) : hv_cd 0 o (hv_stk a w B) = (hv_j w 0 (hv_j a 1 o), B) := by
  rcases hB with rfl | ⟨s, rfl⟩ <;> cases a <;> cases w <;> rfl
theorem hv_dp_b {a w : Bool} {B : List Int} : hv_dp (hv_stk a w B) = hv_dp B := by
  cases a <;> cases w <;> rfl
def hv_go (T : Nat → Int32) (n : Nat) (s : List Int) (q : Nat × Nat × List hv_tok) : hv_R := hv_RN T n false q.1 q.2.1 (hv_cn q.2.2 s).1 (hv_cn q.2.2 s).2
def hv_fin (T : Nat → Int32) (n : Nat) (B : List Int) (q : Nat × Nat × List hv_tok) : hv_R := hv_shut T n q.1 q.2.1 (hv_RN T n false) (q.2.2, B)
theorem hv_B {D : Nat} (A : ∀ (p t : Nat) (o : List hv_tok) (s : List Int), hv_dp s + D = 8 → hv_RN T n true p t o s = hv_bd (hv_one T n D p t o) (hv_go T n s)) {B : List Int} (hB : hv_bs B) (hd : hv_dp B + D = 8) : ∀ (k : Nat) (a w : Bool) (p t : Nat) (o : List hv_tok), n ≤ p + k → hv_RN T n true p t o (hv_stk a w B) = hv_bd (hv_LE T n D a w p t o) (hv_fin T n B) := by
  intro k
  induction k with
  | zero =>
    intro a w p t o hk
    rw [A p t o _ (by rw [hv_dp_b]; exact hd), hv_LE_t]
    cases hr : hv_one T n D p t o with
    | inl x => rfl
    | inr r => have := hv_one_b _ _ _ _ _ hr; unfold hv_G at this; exfalso; omega
  | succ k ih =>
    intro a w p t o hk
    rw [A p t o _ (by rw [hv_dp_b]; exact hd), hv_LE_t]
    cases hr : hv_one T n D p t o with
    | inl x => rfl
    | inr r =>
      have hg := hv_one_b _ _ _ _ _ hr
      unfold hv_G at hg
      have hs := hv_sk_ge (T := T) (n := n) (p := r.1)
      rw [hv_bd_r, hv_bd_r]
      show hv_RN T n false r.1 r.2.1 (hv_cn r.2.2 (hv_stk a w B)).1 (hv_cn r.2.2 (hv_stk a w B)).2 = _
      rw [hv_cn_b hB, hv_RN_0]
      dsimp only
      by_cases e1 : hv_wd T n (hv_sk T n r.1) = 1
      · rw [if_pos (Or.inl e1), if_pos e1, e1, hv_cd_1 hB, (hv_wd_1 e1).1]
        exact ih true w _ _ _ (by omega)
      · by_cases e0 : hv_wd T n (hv_sk T n r.1) = 0
        · rw [if_pos (Or.inr e0), if_neg e1, if_pos e0, e0, hv_cd_0 hB, (hv_wd_0 e0).1]
          exact ih false true _ _ _ (by omega)
        · rw [if_neg (fun z => z.elim e1 e0), if_neg e1, if_neg e0, hv_cd_0 hB]
          rfl
theorem hv_A : ∀ (D p t : Nat) (o : List hv_tok) (s : List Int), hv_dp s + D = 8 → hv_RN T n true p t o s = hv_bd (hv_one T n D p t o) (hv_go T n s) := by
  intro D
  induction D with
  | zero =>
    intro p t o s hd
    rw [hv_RN_1]
    unfold hv_one
    by_cases e : hv_wd T n (hv_sk T n p) = 2
    · rw [if_pos e, if_pos e, if_pos (by omega)]; rfl
    · rw [if_neg e, if_neg e]
      by_cases c : hv_sk T n p < n ∧ (T (hv_sk T n p)).toInt = 40
      · rw [if_pos c, if_pos c, if_pos (by omega)]; rfl
      · rw [if_neg c, if_neg c]; rfl
  | succ D ih =>
    intro p t o s hd
    rw [hv_RN_1]
    unfold hv_one
    by_cases e : hv_wd T n (hv_sk T n p) = 2
    · rw [if_pos e, if_pos e, if_neg (by omega), ih _ _ _ (2 :: s) (by show hv_dp s + (if (2 : Int) = 2 ∨ (2 : Int) = 100 then 1 else 0) + D = 8; rw [if_pos (Or.inl rfl)]; omega)]
      cases hv_one T n D (hv_sk T n p + 3) t o with
      | inl x => rfl
      | inr r => rfl
    · rw [if_neg e, if_neg e]
      by_cases c : hv_sk T n p < n ∧ (T (hv_sk T n p)).toInt = 40
      · have hd2 : hv_dp (100 :: s) + D = 8 := by show hv_dp s + (if (100 : Int) = 2 ∨ (100 : Int) = 100 then 1 else 0) + D = 8; rw [if_pos (Or.inr rfl)]; omega
        have hb := hv_B (T := T) (n := n) ih (B := 100 :: s) (Or.inr ⟨s, rfl⟩) hd2 n false false (hv_sk T n p + 1) t o (by omega)
        rw [if_pos c, if_pos c, if_neg (by omega)]
        have hst : hv_stk false false (100 :: s) = 100 :: s := rfl
        rw [hst] at hb
        rw [hb]
        show hv_bd (hv_LE T n D false false (hv_sk T n p + 1) t o) (hv_fin T n (100 :: s)) = hv_bd (hv_bd (hv_LE T n D false false (hv_sk T n p + 1) t o) (hv_par T n)) (hv_go T n s)
        cases hr : hv_LE T n D false false (hv_sk T n p + 1) t o with
        | inl x => rfl
        | inr r =>
          have hg := hv_LE_b hr
          rw [hv_bd_r, hv_bd_r]
          unfold hv_fin hv_shut hv_par
          rw [hg.2.2.2.2.2.1]
          by_cases c2 : r.1 < n ∧ (T r.1).toInt = 41
          · rw [if_pos c2, if_pos c2]; rfl
          · rw [if_neg c2, if_neg c2, if_neg (by intro z; cases z)]; rfl
      · rw [if_neg c, if_neg c]; rfl
/-- both readers of what proves -/
theorem hv_top {p : Nat} : hv_RN T n true p 0 [] [] = hv_bd (hv_LE T n 8 false false p 0 []) (fun q => if q.1 < n ∧ (T q.1).toInt = 41 then .inl (1 + 8 * q.1) else .inr q) := by
  have hb := hv_B (T := T) (n := n) (hv_A 8) (B := []) (Or.inl rfl) rfl n false false p 0 [] (by omega)
  have hst : hv_stk false false [] = [] := rfl
  rw [hst] at hb
  rw [hb]
  cases hv_LE T n 8 false false p 0 [] with
  | inl x => rfl
  | inr r =>
    rw [hv_bd_r, hv_bd_r]
    unfold hv_fin hv_shut
    by_cases c2 : r.1 < n ∧ (T r.1).toInt = 41
    · rw [if_pos c2, if_pos c2]
    · rw [if_neg c2, if_neg c2, if_pos rfl]
end HVR
end
section
/-! CLAUSES -/
abbrev hv_st : Type := Nat × (Nat → Bool) × (Nat → Int) × List hv_tok
def hv_num (T : Nat → Int32) (n p : Nat) (lo hi : Int) : Nat ⊕ (Nat × Int) :=
  if hv_sk T n p < n ∧ hv_dg T (hv_sk T n p) = true then
    (if hv_de T n (hv_sk T n p) - hv_sk T n p ≤ 4 ∧ lo ≤ hv_dv T (hv_sk T n p) (hv_de T n (hv_sk T n p) - hv_sk T n p) ∧ hv_dv T (hv_sk T n p) (hv_de T n (hv_sk T n p) - hv_sk T n p) ≤ hi
      then .inr (hv_de T n (hv_sk T n p), hv_dv T (hv_sk T n p) (hv_de T n (hv_sk T n p) - hv_sk T n p)) else .inl (2 + 8 * hv_sk T n p))
  else .inl (1 + 8 * hv_sk T n p)
def hv_ub (f : Nat → Bool) (k : Nat) : Nat → Bool := fun j => if j = k then true else f j
def hv_ud (f : Nat → Int) (k : Nat) (v : Int) : Nat → Int := fun j => if j = k then v else f j
def hv_lo (k : Nat) : Int := if k = 1 ∨ k = 3 ∨ 8 ≤ k then 0 else 1
def hv_hi (k : Nat) : Int := match k with | 0 => 9999 | 1 => 365 | 2 => 999 | 3 => 999 | 4 => 20 | 5 => 20 | 6 => 30 | 7 => 400 | 8 => 40 | _ => 999
def hv_kk (w : Int) : Nat := if w ≤ 16 then (w - 11).toNat else (w - 10).toNat
def hv_ck (T : Nat → Int32) (n p k : Nat) (sn : Nat → Bool) (rd : Nat → Int) (o : List hv_tok) : Nat ⊕ hv_st :=
  if sn k = true then .inl (3 + 8 * p) else hv_bd (hv_num T n (hv_we T n p) (hv_lo k) (hv_hi k)) (fun a =>
    if k = 5 then hv_bd (hv_num T n a.1 1 30) (fun b => .inr (b.1, hv_ub sn 5, hv_ud (hv_ud rd 5 a.2) 6 b.2, o)) else .inr (a.1, hv_ub sn k, hv_ud rd k a.2, o))
def hv_co (T : Nat → Int32) (n q : Nat) (sn : Nat → Bool) (rd : Nat → Int) (o : List hv_tok) : Nat ⊕ hv_st :=
  if 21 ≤ hv_wd T n q ∧ hv_wd T n q ≤ 24 then
    (if sn (hv_wd T n q - 12).toNat = true then .inl (3 + 8 * q) else hv_bd (hv_num T n (hv_we T n q) 0 999) (fun a => .inr (a.1, hv_ub sn (hv_wd T n q - 12).toNat, hv_ud rd (hv_wd T n q - 12).toNat a.2, o)))
  else .inl (1 + 8 * q)
def hv_cl (T : Nat → Int32) (n p : Nat) (sn : Nat → Bool) (rd : Nat → Int) (o : List hv_tok) : Nat ⊕ hv_st :=
  if 11 ≤ hv_wd T n (hv_sk T n p) ∧ hv_wd T n (hv_sk T n p) ≤ 20 then
    (if hv_wd T n (hv_sk T n p) = 20 then (if sn 13 = true then .inl (3 + 8 * hv_sk T n p) else hv_bd (hv_LE T n 8 false false (hv_we T n (hv_sk T n p)) 0 []) (fun q => .inr (q.1, hv_ub sn 13, rd, q.2.2)))
    else if hv_wd T n (hv_sk T n p) = 19 then hv_co T n (hv_sk T n (hv_we T n (hv_sk T n p))) sn rd o
    else hv_ck T n (hv_sk T n p) (hv_kk (hv_wd T n (hv_sk T n p))) sn rd o)
  else .inl (1 + 8 * hv_sk T n p)
def hv_al (T : Nat → Int32) (n : Nat) : Nat → hv_st → Nat ⊕ hv_st
  | 0, _ => .inl 0
  | f + 1, s => hv_bd (hv_cl T n s.1 s.2.1 s.2.2.1 s.2.2.2) (fun q =>
    if hv_sk T n q.1 < n then (if (T (hv_sk T n q.1)).toInt = 59 then hv_al T n f (hv_sk T n q.1 + 1, q.2) else .inl (1 + 8 * hv_sk T n q.1)) else .inr (hv_sk T n q.1, q.2))
section HVC
variable {T : Nat → Int32} {n : Nat}
theorem hv_num_b {p : Nat} {lo hi : Int} {q : Nat × Int} (h : hv_num T n p lo hi = .inr q) : p < q.1 ∧ q.1 ≤ n ∧ lo ≤ q.2 ∧ q.2 ≤ hi := by
  unfold hv_num at h
  have hs := hv_sk_ge (T := T) (n := n) (p := p)
  split at h
  · next hd =>
    have hl := hv_de_gt (T := T) hd.1 hd.2
    split at h
    · next hc =>
      have h2 := Sum.inr.inj h
      subst h2
      exact ⟨by show p < hv_de T n (hv_sk T n p); omega, hl.2, hc.2.1, hc.2.2⟩
    · cases h
  · cases h
theorem hv_cl_b {p : Nat} {sn : Nat → Bool} {rd : Nat → Int} {o : List hv_tok} {q : hv_st} (h : hv_cl T n p sn rd o = .inr q) : p < q.1 ∧ q.1 ≤ n := by
  unfold hv_cl at h
  have hs := hv_sk_ge (T := T) (n := n) (p := p)
  split at h
  · next hw =>
    have hl := hv_wd_3 (T := T) (n := n) (p := hv_sk T n p) (by omega)
    split at h
    · split at h
      · cases h
      · obtain ⟨r, h1, h2⟩ := hv_bd_i h
        have hg := hv_LE_b h1
        have h3 := Sum.inr.inj h2
        subst h3
        exact ⟨by show p < r.1; omega, hg.2.1⟩
    · split at h
      · unfold hv_co at h
        have hs2 := hv_sk_ge (T := T) (n := n) (p := hv_we T n (hv_sk T n p))
        split at h
        · next hw2 =>
          have hl2 := hv_wd_3 (T := T) (n := n) (p := hv_sk T n (hv_we T n (hv_sk T n p))) (by omega)
          split at h
          · cases h
          · obtain ⟨r, h1, h2⟩ := hv_bd_i h
            have hg := hv_num_b h1
            have h3 := Sum.inr.inj h2
            subst h3
            exact ⟨by show p < r.1; omega, hg.2.1⟩
        · cases h
      · unfold hv_ck at h
        split at h
        · cases h
        · obtain ⟨r, h1, h2⟩ := hv_bd_i h
          have hg := hv_num_b h1
          split at h2
          · obtain ⟨r2, h3, h4⟩ := hv_bd_i h2
            have hg2 := hv_num_b h3
            have h5 := Sum.inr.inj h4
            subst h5
            exact ⟨by show p < r2.1; omega, hg2.2.1⟩
          · have h3 := Sum.inr.inj h2
            subst h3
            exact ⟨by show p < r.1; omega, hg.2.1⟩
  · cases h
theorem hv_cl_sk {p : Nat} {sn : Nat → Bool} {rd : Nat → Int} {o : List hv_tok} : hv_cl T n (hv_sk T n p) sn rd o = hv_cl T n p sn rd o := by
  unfold hv_cl
  rw [hv_sk_id]
theorem hv_al_s {f : Nat} {s : hv_st} : hv_al T n (f + 1) s = hv_bd (hv_cl T n s.1 s.2.1 s.2.2.1 s.2.2.2) (fun q =>
    if hv_sk T n q.1 < n then (if (T (hv_sk T n q.1)).toInt = 59 then hv_al T n f (hv_sk T n q.1 + 1, q.2) else .inl (1 + 8 * hv_sk T n q.1)) else .inr (hv_sk T n q.1, q.2)) := rfl
theorem hv_al_f : ∀ (f f' : Nat) (s : hv_st), n + 1 < f + s.1 → 0 < f → n + 1 < f' + s.1 → 0 < f' → hv_al T n f s = hv_al T n f' s := by
  intro f
  induction f with
  | zero => intro f' s _ h; exfalso; omega
  | succ f ih =>
    intro f' s h1 h2 h3 h4
    obtain ⟨g, rfl⟩ : ∃ g, f' = g + 1 := ⟨f' - 1, by omega⟩
    rw [hv_al_s, hv_al_s]
    cases hr : hv_cl T n s.1 s.2.1 s.2.2.1 s.2.2.2 with
    | inl x => rfl
    | inr q =>
      have hb := hv_cl_b hr
      have hs := hv_sk_ge (T := T) (n := n) (p := q.1)
      rw [hv_bd_r, hv_bd_r]
      by_cases c : hv_sk T n q.1 < n
      · rw [if_pos c, if_pos c]
        by_cases d : (T (hv_sk T n q.1)).toInt = 59
        · rw [if_pos d, if_pos d]
          exact ih _ _ (by show n + 1 < f + (hv_sk T n q.1 + 1); omega) (by omega) (by show n + 1 < g + (hv_sk T n q.1 + 1); omega) (by omega)
        · rw [if_neg d, if_neg d]
      · rw [if_neg c, if_neg c]
def hv_AL (T : Nat → Int32) (n : Nat) (s : hv_st) : Nat ⊕ hv_st := hv_al T n (n + 2) s
theorem hv_AL_t {s : hv_st} : hv_AL T n s = hv_bd (hv_cl T n s.1 s.2.1 s.2.2.1 s.2.2.2) (fun q =>
    if hv_sk T n q.1 < n then (if (T (hv_sk T n q.1)).toInt = 59 then hv_AL T n (hv_sk T n q.1 + 1, q.2) else .inl (1 + 8 * hv_sk T n q.1)) else .inr (hv_sk T n q.1, q.2)) := by
  show hv_al T n ((n + 1) + 1) s = _
  rw [hv_al_s]
  cases hr : hv_cl T n s.1 s.2.1 s.2.2.1 s.2.2.2 with
  | inl x => rfl
  | inr q =>
    have hb := hv_cl_b hr
    have hs := hv_sk_ge (T := T) (n := n) (p := q.1)
    rw [hv_bd_r, hv_bd_r]
    by_cases c : hv_sk T n q.1 < n
    · rw [if_pos c, if_pos c]
      by_cases d : (T (hv_sk T n q.1)).toInt = 59
      · rw [if_pos d, if_pos d]
        exact hv_al_f _ _ _ (by show n + 1 < n + 1 + (hv_sk T n q.1 + 1); omega) (by omega) (by show n + 1 < n + 2 + (hv_sk T n q.1 + 1); omega) (by omega)
      · rw [if_neg d, if_neg d]
    · rw [if_neg c, if_neg c]
theorem hv_AL_sk {p : Nat} {x : (Nat → Bool) × (Nat → Int) × List hv_tok} : hv_AL T n (hv_sk T n p, x) = hv_AL T n (p, x) := by
  rw [hv_AL_t, hv_AL_t]
  dsimp only
  rw [hv_cl_sk]
theorem hv_cl_n {p : Nat} {sn : Nat → Bool} {rd : Nat → Int} {o : List hv_tok} (h : n ≤ p) : hv_cl T n p sn rd o = .inl (1 + 8 * p) := by
  unfold hv_cl
  rw [hv_sk_e h, if_neg (by rw [hv_wd_n (fun z => by exfalso; omega)]; omega)]
theorem hv_AL_n {p : Nat} {x : (Nat → Bool) × (Nat → Int) × List hv_tok} (h : n ≤ p) : hv_AL T n (p, x) = .inl (1 + 8 * p) := by
  rw [hv_AL_t]
  dsimp only
  rw [hv_cl_n h]
  rfl
end HVC
def hv_ACT (T : Nat → Int32) (n : Nat) (rd : Nat → Int) (o : List hv_tok) : Nat ⊕ hv_st :=
  if hv_sk T n 0 < n then hv_AL T n (hv_sk T n 0, (fun _ => false), rd, o) else .inr (hv_sk T n 0, (fun _ => false), rd, o)
/-! WORDS IN SLOTS OF EIGHT -/
def hv_chs (js k : Nat) : Int := ((P_by.getD js []).getD k 0).toInt
def hv_c1 (T : Nat → Int32) (js s p e i : Nat) : Prop := s + i < P_ln.getD js 0 → hv_chs js (s + i) = (if p + i < e then (T (p + i)).toInt else 32)
def hv_sl (T : Nat → Int32) (js s p e : Nat) : Prop := e ≤ p + 8 ∧ ∀ i, i < 8 → hv_c1 T js s p e i
/-- the word in a slot; none: 25 -/
def hv_slw (js k : Nat) : Nat := match js with
  | 0 => [25, 11, 12, 13, 14, 15, 16, 25, 17, 18, 19, 20].getD k 25
  | 1 => 21 + k
  | 2 => 1
  | 3 => 0
  | 4 => 2
  | _ => 3 + k
theorem hv_slt : ∀ js, js < 6 → ∀ k, k < 12 → 8 * k + 8 ≤ P_ln.getD js 0 → (hv_slw js k = 25 ∧ hv_chs js (8 * k) = 45) ∨ (hv_slw js k < 25 ∧ ∀ i, i < 8 → hv_chs js (8 * k + i) = (if i < (hv_wl.getD (hv_slw js k) []).length then (hv_wl.getD (hv_slw js k) []).getD i 0 else 32)) := by decide +kernel
theorem hv_wlt : ∀ w, w < 25 → ∀ i, i < (hv_wl.getD w []).length → 97 ≤ (hv_wl.getD w []).getD i 0 ∧ (hv_wl.getD w []).getD i 0 ≤ 122 := by decide +kernel
theorem hv_lnb : ∀ js, js < 6 → P_ln.getD js 0 ≤ 96 := by decide +kernel
theorem hv_sl_w {T : Nat → Int32} {n p js k : Nat} (hj : js < 6) (hk : 8 * k + 8 ≤ P_ln.getD js 0) (hp : p < hv_we T n p) (h : hv_sl T js (8 * k) p (hv_we T n p)) : hv_slw js k < 25 ∧ hv_wd T n p = (hv_slw js k : Int) := by
  have hb := hv_lnb js hj
  have hlt : ∀ i, i < hv_we T n p - p → 97 ≤ (T (p + i)).toInt ∧ (T (p + i)).toInt ≤ 122 := fun i hi => by
    have := hv_sn_in (P := hv_lt T) (n := n) (p := p) (j := p + i) (by omega) (by show p + i < hv_we T n p; omega)
    simpa only [hv_lt, decide_eq_true_eq] using this
  rcases hv_slt js hj k (by omega) hk with ⟨_, h2⟩ | ⟨hw, h2⟩
  · have h3 := h.2 0 (by omega) (by omega)
    rw [Nat.add_zero, Nat.add_zero, if_pos hp, h2] at h3
    have h4 := hlt 0 (by omega)
    rw [Nat.add_zero] at h4
    exfalso; omega
  · have hL := hv_ix_l _ hw
    have hin : ∀ i, i < 8 → i < hv_we T n p - p → i < (hv_wl.getD (hv_slw js k) []).length ∧ (T (p + i)).toInt = (hv_wl.getD (hv_slw js k) []).getD i 0 := fun i h8 hi => by
      have h3 := h.2 i h8 (by omega)
      have h4 := hlt i hi
      rw [if_pos (by omega), h2 i h8] at h3
      by_cases c : i < (hv_wl.getD (hv_slw js k) []).length
      · rw [if_pos c] at h3
        exact ⟨c, h3.symm⟩
      · rw [if_neg c] at h3
        exfalso; omega
    have hle := h.1
    have e8 : hv_we T n p - p < 8 := by
      rcases Nat.lt_or_ge (hv_we T n p - p) 8 with z | z
      · exact z
      · have := (hin 7 (by omega) (by omega)).1
        exfalso; omega
    have h3 := h.2 (hv_we T n p - p) e8 (by omega)
    rw [if_neg (by omega), h2 _ e8] at h3
    have hge : (hv_wl.getD (hv_slw js k) []).length ≤ hv_we T n p - p := by
      rcases Nat.lt_or_ge (hv_we T n p - p) (hv_wl.getD (hv_slw js k) []).length with z | z
      · rw [if_pos z] at h3
        have := hv_wlt _ hw _ z
        exfalso; omega
      · exact z
    have hl1 := (hin (hv_we T n p - p - 1) (by omega) (by omega)).1
    have el : hv_we T n p - p = (hv_wl.getD (hv_slw js k) []).length := by omega
    refine ⟨hw, ?_⟩
    unfold hv_wd
    rw [el, hv_tx_eq _ _ (fun i hi => (hin i (by omega) (by omega)).2), hv_ix_w _ hw]
theorem hv_sl_v {T : Nat → Int32} {n p js k : Nat} (hj : js < 6) (hk : 8 * k + 8 ≤ P_ln.getD js 0) (hw : hv_slw js k < 25) (h : hv_wd T n p = (hv_slw js k : Int)) : p < hv_we T n p ∧ hv_sl T js (8 * k) p (hv_we T n p) := by
  have hb := hv_lnb js hj
  obtain ⟨_, b, c, d⟩ := hv_wd_k h
  have hL := hv_ix_l _ hw
  rcases hv_slt js hj k (by omega) hk with ⟨h1, _⟩ | ⟨_, h2⟩
  · exfalso; omega
  · refine ⟨by omega, by omega, fun i hi _ => ?_⟩
    rw [h2 i hi]
    by_cases z : i < (hv_wl.getD (hv_slw js k) []).length
    · rw [if_pos z, if_pos (by omega), ← b, hv_tx_get _ _ _ (by omega)]
    · rw [if_neg z, if_neg (by omega)]
/-- a word among those of a text -/
def hv_RW (T : Nat → Int32) (n js : Nat) (r : Int) (p : Nat) : Prop :=
  (r = -1 ∧ ∀ k, 8 * k + 8 ≤ P_ln.getD js 0 → p < hv_we T n p → ¬ hv_sl T js (8 * k) p (hv_we T n p)) ∨
  (0 ≤ r ∧ 8 * r + 8 ≤ (P_ln.getD js 0 : Nat) ∧ p < hv_we T n p ∧ hv_sl T js (8 * r.toNat) p (hv_we T n p))
theorem hv_RW_u {T : Nat → Int32} {n js p : Nat} {r : Int} (hj : js < 6) (h : hv_RW T n js r p) : (r = -1 ∧ ∀ k, 8 * k + 8 ≤ P_ln.getD js 0 → hv_slw js k < 25 → hv_wd T n p ≠ (hv_slw js k : Int)) ∨ (0 ≤ r ∧ 8 * r + 8 ≤ (P_ln.getD js 0 : Nat) ∧ hv_slw js r.toNat < 25 ∧ hv_wd T n p = (hv_slw js r.toNat : Int)) := by
  rcases h with ⟨a, b⟩ | ⟨a, b, c, d⟩
  · exact Or.inl ⟨a, fun k hk hw e => b k hk (hv_sl_v hj hk hw e).1 (hv_sl_v hj hk hw e).2⟩
  · have := hv_sl_w (k := r.toNat) hj (by omega) c d
    exact Or.inr ⟨a, b, this.1, this.2⟩
theorem hv_RW_5 {T : Nat → Int32} {n p : Nat} {r : Int} (h : hv_RW T n 5 r p) : (r = -1 ∧ ¬ (3 ≤ hv_wd T n p ∧ hv_wd T n p ≤ 10)) ∨ (0 ≤ r ∧ r ≤ 7 ∧ hv_wd T n p = 3 + r) := by
  have hl : P_ln.getD 5 0 = 64 := rfl
  rcases hv_RW_u (by decide) h with ⟨a, b⟩ | ⟨a, b, _, d⟩
  · refine Or.inl ⟨a, fun z => b ((hv_wd T n p - 3).toNat) (by omega) ?_ ?_⟩
    · show 3 + (hv_wd T n p - 3).toNat < 25; omega
    · show _ = ((3 + (hv_wd T n p - 3).toNat : Nat) : Int); omega
  · have d' : hv_wd T n p = ((3 + r.toNat : Nat) : Int) := d
    exact Or.inr ⟨a, by omega, by omega⟩
theorem hv_RW_1 {T : Nat → Int32} {n p : Nat} {r : Int} (h : hv_RW T n 1 r p) : (r = -1 ∧ ¬ (21 ≤ hv_wd T n p ∧ hv_wd T n p ≤ 24)) ∨ (0 ≤ r ∧ r ≤ 3 ∧ hv_wd T n p = 21 + r) := by
  have hl : P_ln.getD 1 0 = 32 := rfl
  rcases hv_RW_u (by decide) h with ⟨a, b⟩ | ⟨a, b, _, d⟩
  · refine Or.inl ⟨a, fun z => b ((hv_wd T n p - 21).toNat) (by omega) ?_ ?_⟩
    · show 21 + (hv_wd T n p - 21).toNat < 25; omega
    · show _ = ((21 + (hv_wd T n p - 21).toNat : Nat) : Int); omega
  · have d' : hv_wd T n p = ((21 + r.toNat : Nat) : Int) := d
    exact Or.inr ⟨a, by omega, by omega⟩
theorem hv_slw0 : ∀ k, k < 12 → hv_slw 0 k = (if k = 0 ∨ k = 7 then 25 else if k ≤ 6 then 10 + k else 9 + k) := by decide
theorem hv_RW_0 {T : Nat → Int32} {n p : Nat} {r : Int} (h : hv_RW T n 0 r p) : (r = -1 ∧ ¬ (11 ≤ hv_wd T n p ∧ hv_wd T n p ≤ 20)) ∨ (1 ≤ r ∧ r ≤ 11 ∧ r ≠ 7 ∧ hv_wd T n p = (if r ≤ 6 then 10 + r else 9 + r)) := by
  have hl : P_ln.getD 0 0 = 96 := rfl
  rcases hv_RW_u (by decide) h with ⟨a, b⟩ | ⟨a, b, c, d⟩
  · refine Or.inl ⟨a, fun z => ?_⟩
    rcases (show hv_wd T n p ≤ 16 ∨ 17 ≤ hv_wd T n p by omega) with y | y
    · have e := hv_slw0 (hv_wd T n p - 10).toNat (by omega)
      rw [if_neg (by omega), if_pos (by omega)] at e
      exact b (hv_wd T n p - 10).toNat (by omega) (by omega) (by omega)
    · have e := hv_slw0 (hv_wd T n p - 9).toNat (by omega)
      rw [if_neg (by omega), if_neg (by omega)] at e
      exact b (hv_wd T n p - 9).toNat (by omega) (by omega) (by omega)
  · have e := hv_slw0 r.toNat (by omega)
    rw [e] at c d
    split at c
    · exfalso; omega
    · next h7 =>
      rw [if_neg h7] at d
      refine Or.inr ⟨by omega, by omega, by omega, ?_⟩
      split at d
      · rw [if_pos (by omega)]; omega
      · rw [if_neg (by omega)]; omega
/-- the word of a text of one slot alone -/
def hv_NW (T : Nat → Int32) (n js : Nat) (r : Int) (p : Nat) : Prop := (r = 1 ∧ p < hv_we T n p ∧ hv_sl T js 0 p (hv_we T n p)) ∨ (r = 0 ∧ (p < hv_we T n p → ¬ hv_sl T js 0 p (hv_we T n p)))
theorem hv_NW_u {T : Nat → Int32} {n js p : Nat} {r : Int} (hj : 2 ≤ js ∧ js ≤ 4) (h : hv_NW T n js r p) : (r = 1 ∧ hv_wd T n p = (hv_slw js 0 : Int)) ∨ (r = 0 ∧ hv_wd T n p ≠ (hv_slw js 0 : Int)) := by
  have hl : 8 * 0 + 8 ≤ P_ln.getD js 0 ∧ hv_slw js 0 < 25 := by
    rcases (show js = 2 ∨ js = 3 ∨ js = 4 by omega) with z | z | z <;> subst z <;> decide
  rcases h with ⟨a, b, c⟩ | ⟨a, b⟩
  · exact Or.inl ⟨a, (hv_sl_w (k := 0) (by omega) hl.1 b c).2⟩
  · refine Or.inr ⟨a, fun e => ?_⟩
    have := hv_sl_v (k := 0) (by omega) hl.1 hl.2 e
    exact b this.1 this.2
end
section
set_option maxHeartbeats 4000000 in
set_option maxRecDepth 100000 in
theorem t_X9_isHousehold_2 (l : Launch) (dC : Nat → ClassId) (dI : Nat → Nat → Nat) (dA : Nat → ClassId) (L : List Nat) (h : hx_h) (sz : Nat) (i1 : Int32) (i2 : Int32) (i3 : Int32) (i4 : Int32) (hT : hx_T T_tb L h)   : Met l yX9_isHousehold (Cond.code yX9_isHousehold cX9_isHousehold 4 (some .boolean) :: hx_all) ({ frames := 1, cells := 0, slots := 0, locals := 22 }) (va_Pc [.int i1, .int i2, .int i3, .int i4] (hx_B T_tb (P_ty dA) (dC, dI) vwCl L h sz)) (va_Qi (fun (r : Int32) (u : List Nat × hx_h) => ((r.toInt = 0 ∧ (i1.toInt < 0 ∨ 9999 < i1.toInt ∨ i2.toInt < 1 ∨ 20 < i2.toInt ∨ i3.toInt < 0 ∨ 99 < i3.toInt ∨ i4.toInt < 0 ∨ 99 < i4.toInt)) ∨ (r.toInt = 1 ∧ 0 ≤ i1.toInt ∧ i1.toInt ≤ 9999 ∧ 1 ≤ i2.toInt ∧ i2.toInt ≤ 20 ∧ 0 ≤ i3.toInt ∧ i3.toInt ≤ 99 ∧ 0 ≤ i4.toInt ∧ i4.toInt ≤ 99)) ∧ hx_T T_tb u.1 u.2 ∧ hx_S T_tb [] L h u.1 u.2) (hx_E T_tb (P_ty dA) (dC, dI) vwCl (hx_A L sz)) (hx_A L sz)) 0 0 (hx_A L sz) := by
  refine hx_met (lv := [(0, .int i1), (1, .int i2), (2, .int i3), (3, .int i4)]) (by decide +kernel) rfl (Nat.le_of_ble_eq_true rfl) rfl ?_
  intro p e s m below meth c hx hb hml hr hlk hts0 hown hin hsz hW ls hl
  have hts : ∀ w ∈ hx_all, w.before _ s = true := fun w hw => hts0 w (List.mem_cons_of_mem _ hw)
  have hown : s.vm.findClass "SmallCourt" = some m.cls := hown
  have hM : hx_S T_tb [] L h L h := hx_S.rf
  refine lv_iload_n hx hb dX9_isHousehold_0 rfl (lv_at hl 0 rfl) ?_
  refine lv_iconst (v := 0) hx hb dX9_isHousehold_1 ?o0 ?_
  case o0 => decide
  refine lv_sipush (v := 9999) hx hb dX9_isHousehold_2 ?o1 ?_
  case o1 => decide
  have zc_9999 : (9999 : Int32).toInt = 9999 := ?o2
  case o2 => decide
  have zc_0 : (0 : Int32).toInt = 0 := ?o3
  case o3 => decide
  refine hx_goi (hx_runS (As := [.int i1, .int (0 : Int32), .int (9999 : Int32)]) (rest := []) ⟨hx, hb, hml, hown, hts⟩ hW (t_X9_isWithin_2 l dC dI dA L h s.heap.size i1 (0 : Int32) (9999 : Int32) hT) (va_cwS 3 hts (hx_gS kw_434 kw_432 kw_433 kw_94) rfl rfl rfl (by decide +kernel) ⟨Nat.le_of_ble_eq_true rfl, Nat.le_of_ble_eq_true rfl⟩) rfl hl.1 rfl (Nat.le_of_ble_eq_true rfl) dX9_isHousehold_5 ⟨Nat.le_of_ble_eq_true rfl, Nat.le_of_ble_eq_true rfl⟩) hW (fun r_3 L_1 h_2 H locs p_4 hW => ?_)
  obtain ⟨hr_5, hT, hs⟩ := p_4
  replace hT : hx_T T_tb L_1 h_2 := hT
  replace hs : hx_S T_tb [] L h L_1 h_2 := hs
  replace hM := hM.tr (hs.mono ?o4)
  case o4 => decide
  refine hb_if_eq (zx := r_3.toInt) (tgt := 45) hx hb rfl dX9_isHousehold_8 ?o5 (fun c_6 => ?_) (fun c_6 => ?_)
  case o5 => decide
  · skip
    replace hr_5 := hr_5.resolve_right (fun z9 => absurd (c_6.symm.trans z9.1) ?o6)
    case o6 => decide
    replace hr_5 := hr_5.2
    refine lv_iconst (v := 0) hx hb dX9_isHousehold_45 ?o7 ?_
    case o7 => decide
    exact hx_retz hx hb hr rfl hlk hW ⟨(by have zr : (0 : Int32).toInt = 0 := (by decide); (first | omega | (refine ⟨?_, ?_⟩ <;> omega))), hT, hM⟩ dX9_isHousehold_46
  · skip
    replace hr_5 := hr_5.resolve_left (fun z9 => c_6 z9.1)
    replace c_6 := hr_5.1
    replace hr_5 := hr_5.2
    refine lv_iload_n hx hb dX9_isHousehold_11 rfl (lv_at hl 1 rfl) ?_
    refine lv_iconst (v := 1) hx hb dX9_isHousehold_12 ?o8 ?_
    case o8 => decide
    refine lv_bipush (v := 20) hx hb dX9_isHousehold_13 ?o9 ?_
    case o9 => decide
    have zc_20 : (20 : Int32).toInt = 20 := ?o10
    case o10 => decide
    have zc_1 : (1 : Int32).toInt = 1 := ?o11
    case o11 => decide
    refine hx_goi (hx_runS (As := [.int i2, .int (1 : Int32), .int (20 : Int32)]) (rest := []) ⟨hx, hb, hml, hown, hts⟩ hW (t_X9_isWithin_2 l dC dI dA L_1 h_2 H.size i2 (1 : Int32) (20 : Int32) hT) (va_cwS 3 hts (hx_gS kw_434 kw_432 kw_433 kw_94) rfl rfl rfl (by decide +kernel) ⟨Nat.le_of_ble_eq_true rfl, Nat.le_of_ble_eq_true rfl⟩) rfl hl.1 rfl (Nat.le_of_ble_eq_true rfl) dX9_isHousehold_15 ⟨Nat.le_of_ble_eq_true rfl, Nat.le_of_ble_eq_true rfl⟩) hW (fun r_9 L_7 h_8 H locs p_10 hW => ?_)
    obtain ⟨hr_11, hT, hs⟩ := p_10
    replace hT : hx_T T_tb L_7 h_8 := hT
    replace hs : hx_S T_tb [] L_1 h_2 L_7 h_8 := hs
    replace hM := hM.tr (hs.mono ?o12)
    case o12 => decide
    refine hb_if_eq (zx := r_9.toInt) (tgt := 45) hx hb rfl dX9_isHousehold_18 ?o13 (fun c_12 => ?_) (fun c_12 => ?_)
    case o13 => decide
    · skip
      replace hr_11 := hr_11.resolve_right (fun z9 => absurd (c_12.symm.trans z9.1) ?o14)
      case o14 => decide
      replace hr_11 := hr_11.2
      refine lv_iconst (v := 0) hx hb dX9_isHousehold_45 ?o15 ?_
      case o15 => decide
      exact hx_retz hx hb hr rfl hlk hW ⟨(by have zr : (0 : Int32).toInt = 0 := (by decide); (first | omega | (refine ⟨?_, ?_⟩ <;> omega))), hT, hM⟩ dX9_isHousehold_46
    · skip
      replace hr_11 := hr_11.resolve_left (fun z9 => c_12 z9.1)
      replace c_12 := hr_11.1
      replace hr_11 := hr_11.2
      refine lv_iload_n hx hb dX9_isHousehold_21 rfl (lv_at hl 2 rfl) ?_
      refine lv_iconst (v := 0) hx hb dX9_isHousehold_22 ?o16 ?_
      case o16 => decide
      refine lv_bipush (v := 99) hx hb dX9_isHousehold_23 ?o17 ?_
      case o17 => decide
      have zc_99 : (99 : Int32).toInt = 99 := ?o18
      case o18 => decide
      refine hx_goi (hx_runS (As := [.int i3, .int (0 : Int32), .int (99 : Int32)]) (rest := []) ⟨hx, hb, hml, hown, hts⟩ hW (t_X9_isWithin_2 l dC dI dA L_7 h_8 H.size i3 (0 : Int32) (99 : Int32) hT) (va_cwS 3 hts (hx_gS kw_434 kw_432 kw_433 kw_94) rfl rfl rfl (by decide +kernel) ⟨Nat.le_of_ble_eq_true rfl, Nat.le_of_ble_eq_true rfl⟩) rfl hl.1 rfl (Nat.le_of_ble_eq_true rfl) dX9_isHousehold_25 ⟨Nat.le_of_ble_eq_true rfl, Nat.le_of_ble_eq_true rfl⟩) hW (fun r_15 L_13 h_14 H locs p_16 hW => ?_)
      obtain ⟨hr_17, hT, hs⟩ := p_16
      replace hT : hx_T T_tb L_13 h_14 := hT
      replace hs : hx_S T_tb [] L_7 h_8 L_13 h_14 := hs
      replace hM := hM.tr (hs.mono ?o19)
      case o19 => decide
      refine hb_if_eq (zx := r_15.toInt) (tgt := 45) hx hb rfl dX9_isHousehold_28 ?o20 (fun c_18 => ?_) (fun c_18 => ?_)
      case o20 => decide
      · skip
        replace hr_17 := hr_17.resolve_right (fun z9 => absurd (c_18.symm.trans z9.1) ?o21)
        case o21 => decide
        replace hr_17 := hr_17.2
        refine lv_iconst (v := 0) hx hb dX9_isHousehold_45 ?o22 ?_
        case o22 => decide
        exact hx_retz hx hb hr rfl hlk hW ⟨(by have zr : (0 : Int32).toInt = 0 := (by decide); (first | omega | (refine ⟨?_, ?_⟩ <;> omega))), hT, hM⟩ dX9_isHousehold_46
      · skip
        replace hr_17 := hr_17.resolve_left (fun z9 => c_18 z9.1)
        replace c_18 := hr_17.1
        replace hr_17 := hr_17.2
        refine lv_iload_n hx hb dX9_isHousehold_31 rfl (lv_at hl 3 rfl) ?_
        refine lv_iconst (v := 0) hx hb dX9_isHousehold_32 ?o23 ?_
        case o23 => decide
        refine lv_bipush (v := 99) hx hb dX9_isHousehold_33 ?o24 ?_
        case o24 => decide
        refine hx_goi (hx_runS (As := [.int i4, .int (0 : Int32), .int (99 : Int32)]) (rest := []) ⟨hx, hb, hml, hown, hts⟩ hW (t_X9_isWithin_2 l dC dI dA L_13 h_14 H.size i4 (0 : Int32) (99 : Int32) hT) (va_cwS 3 hts (hx_gS kw_434 kw_432 kw_433 kw_94) rfl rfl rfl (by decide +kernel) ⟨Nat.le_of_ble_eq_true rfl, Nat.le_of_ble_eq_true rfl⟩) rfl hl.1 rfl (Nat.le_of_ble_eq_true rfl) dX9_isHousehold_35 ⟨Nat.le_of_ble_eq_true rfl, Nat.le_of_ble_eq_true rfl⟩) hW (fun r_21 L_19 h_20 H locs p_22 hW => ?_)
        obtain ⟨hr_23, hT, hs⟩ := p_22
        replace hT : hx_T T_tb L_19 h_20 := hT
        replace hs : hx_S T_tb [] L_13 h_14 L_19 h_20 := hs
        replace hM := hM.tr (hs.mono ?o25)
        case o25 => decide
        refine hb_if_eq (zx := r_21.toInt) (tgt := 45) hx hb rfl dX9_isHousehold_38 ?o26 (fun c_24 => ?_) (fun c_24 => ?_)
        case o26 => decide
        · skip
          replace hr_23 := hr_23.resolve_right (fun z9 => absurd (c_24.symm.trans z9.1) ?o27)
          case o27 => decide
          replace hr_23 := hr_23.2
          refine lv_iconst (v := 0) hx hb dX9_isHousehold_45 ?o28 ?_
          case o28 => decide
          exact hx_retz hx hb hr rfl hlk hW ⟨(by have zr : (0 : Int32).toInt = 0 := (by decide); (first | omega | (refine ⟨?_, ?_⟩ <;> omega))), hT, hM⟩ dX9_isHousehold_46
        · skip
          replace hr_23 := hr_23.resolve_left (fun z9 => c_24 z9.1)
          replace c_24 := hr_23.1
          replace hr_23 := hr_23.2
          refine lv_iconst (v := 1) hx hb dX9_isHousehold_41 ?o29 ?_
          case o29 => decide
          refine lv_goto (tgt := 46) hx hb dX9_isHousehold_42 ?o30 ?_
          case o30 => decide
          exact hx_retz hx hb hr rfl hlk hW ⟨(by have zr : (1 : Int32).toInt = 1 := (by decide); (first | omega | (refine ⟨?_, ?_⟩ <;> omega))), hT, hM⟩ dX9_isHousehold_46


set_option maxHeartbeats 4000000 in
set_option maxRecDepth 100000 in
theorem t_X9_personAt_2 (l : Launch) (dC : Nat → ClassId) (dI : Nat → Nat → Nat) (dA : Nat → ClassId) (L : List Nat) (h : hx_h) (sz : Nat) (x : Nat) (i1 : Int32) (hT : hx_T T_tb L h) (gx : hx_g L h x 9) (pn0 : Int32) (f_x_8 : h.2.1 x 8 = pn0) (qp : Nat) (gqp : hx_g L h qp 44) (f_x_7 : h.2.2 x 7 = some qp) (pf_x_8 : ∀ j : Nat, (j : Int) < (h.2.1 x 8).toInt → h.2.2 qp j ≠ none) : Met l yX9_personAt (Cond.code yX9_personAt cX9_personAt 2 (some (.object "SmallCourt$Person")) :: hx_all) ({ frames := 0, cells := 0, slots := 0, locals := 0 }) (va_Pc [.ref x, .int i1] (hx_B T_tb (P_ty dA) (dC, dI) vwCl L h sz)) (va_Qq (fun (r : Option Nat) (u : List Nat × hx_h) => ((∀ q, r = some q → hx_g u.1 u.2 q 4) ∧ ((r = none ∧ (i1.toInt < 0 ∨ pn0.toInt ≤ i1.toInt)) ∨ (0 ≤ i1.toInt ∧ i1.toInt < pn0.toInt ∧ ∃ q, r = some q ∧ u.2.2.2 qp i1.toNatClampNeg = some q))) ∧ hx_T T_tb u.1 u.2 ∧ hx_S T_tb [] L h u.1 u.2) (hx_E T_tb (P_ty dA) (dC, dI) vwCl (hx_A L sz)) (hx_A L sz)) 0 0 (hx_A L sz) := by
  refine hx_met (lv := [(0, .ref x), (1, .int i1)]) (by decide +kernel) rfl (Nat.le_of_ble_eq_true rfl) rfl ?_
  intro p e s m below meth c hx hb hml hr hlk hts0 hown hin hsz hW ls hl
  have hts : ∀ w ∈ hx_all, w.before _ s = true := fun w hw => hts0 w (List.mem_cons_of_mem _ hw)
  have hown : s.vm.findClass "SmallCourt" = some m.cls := hown
  have hM : hx_S T_tb [] L h L h := hx_S.rf
  have b_pn0 := hT.gi gx tt_9 (k := 8) rfl
  rw [f_x_8] at b_pn0
  have b_pn0 : 0 ≤ pn0.toInt ∧ pn0.toInt ≤ 40 := b_pn0
  refine lv_iload_n hx hb dX9_personAt_0 rfl (lv_at hl 1 rfl) ?_
  refine hb_if_lt (zx := i1.toInt) (tgt := 12) hx hb rfl dX9_personAt_1 ?o0 (fun c_1 => ?_) (fun c_1 => ?_)
  case o0 => decide
  · skip
    refine lv_null hx hb dX9_personAt_12 ?_
    refine lv_goto (tgt := 22) hx hb dX9_personAt_13 ?o1 ?_
    case o1 => decide
    refine hx_retq (v := none) hx hb hr (Or.inl ⟨_, rfl⟩) hlk hW ⟨⟨(fun q hq => by cases hq), (Or.inl ⟨rfl, ?o2⟩)⟩, hT, hM⟩ dX9_personAt_22
    case o2 => omega
  · skip
    refine lv_iload_n hx hb dX9_personAt_4 rfl (lv_at hl 1 rfl) ?_
    refine lv_aload_n hx hb dX9_personAt_5 rfl (lv_at hl 0 rfl) ?_
    refine hk_geti hx hb hts hC_9 hown hW (gx.S hM) tt_9 8 ?o3 rfl kw_372 ⟨rfl, rfl, rfl⟩ ((hM.o gx trivial rfl).1.trans f_x_8) dX9_personAt_6 ?_
    case o3 => decide
    refine hb_icmp_lt (zx := i1.toInt) (zy := pn0.toInt) (tgt := 16) hx hb rfl rfl dX9_personAt_9 ?o4 (fun c_2 => ?_) (fun c_2 => ?_)
    case o4 => decide
    · skip
      refine lv_aload_n hx hb dX9_personAt_16 rfl (lv_at hl 0 rfl) ?_
      refine hk_getr hx hb hts hC_9 hown hW (gx.S hM) tt_9 7 ?o5 rfl kw_371 ⟨rfl, rfl, rfl⟩ ((hM.o gx trivial rfl).2.trans f_x_7) dX9_personAt_17 ?_
      case o5 => decide
      refine lv_iload_n hx hb dX9_personAt_20 rfl (lv_at hl 1 rfl) ?_
      refine hx_aaldN hx hb hW hT (gqp.S hM) tt_44 (t1 := 4) rfl ⟨?o6, ?o7⟩ (pf_x_8 _ (by rw [((hM.o gx trivial rfl).1.trans f_x_8)]; exact hx_tnI (by omega) (by omega))) dX9_personAt_21 (fun q_3 fq_3 gq_3 => ?_)
      case o6 => omega
      case o7 => omega
      refine hx_retq (v := (some q_3)) hx hb hr (Or.inl ⟨_, rfl⟩) hlk hW ⟨⟨(fun q hq => by cases hq; exact gq_3), (Or.inr ⟨?o8, ?o9, _, rfl, fq_3⟩)⟩, hT, hM⟩ dX9_personAt_22
      case o8 => omega
      case o9 => omega
    · skip
      refine lv_null hx hb dX9_personAt_12 ?_
      refine lv_goto (tgt := 22) hx hb dX9_personAt_13 ?o10 ?_
      case o10 => decide
      refine hx_retq (v := none) hx hb hr (Or.inl ⟨_, rfl⟩) hlk hW ⟨⟨(fun q hq => by cases hq), (Or.inl ⟨rfl, ?o11⟩)⟩, hT, hM⟩ dX9_personAt_22
      case o11 => omega


set_option maxHeartbeats 4000000 in
set_option maxRecDepth 100000 in
theorem t_X9_claimAt_2 (l : Launch) (dC : Nat → ClassId) (dI : Nat → Nat → Nat) (dA : Nat → ClassId) (L : List Nat) (h : hx_h) (sz : Nat) (x : Nat) (i1 : Int32) (hT : hx_T T_tb L h) (gx : hx_g L h x 9) (cn0 : Int32) (f_x_11 : h.2.1 x 11 = cn0) (qc : Nat) (gqc : hx_g L h qc 45) (f_x_10 : h.2.2 x 10 = some qc) (pf_x_11 : ∀ j : Nat, (j : Int) < (h.2.1 x 11).toInt → h.2.2 qc j ≠ none) : Met l yX9_claimAt (Cond.code yX9_claimAt cX9_claimAt 2 (some (.object "SmallCourt$Claim")) :: hx_all) ({ frames := 0, cells := 0, slots := 0, locals := 0 }) (va_Pc [.ref x, .int i1] (hx_B T_tb (P_ty dA) (dC, dI) vwCl L h sz)) (va_Qq (fun (r : Option Nat) (u : List Nat × hx_h) => ((∀ q, r = some q → hx_g u.1 u.2 q 2) ∧ ((r = none ∧ (i1.toInt < 0 ∨ cn0.toInt ≤ i1.toInt)) ∨ (0 ≤ i1.toInt ∧ i1.toInt < cn0.toInt ∧ ∃ q, r = some q ∧ u.2.2.2 qc i1.toNatClampNeg = some q))) ∧ hx_T T_tb u.1 u.2 ∧ hx_S T_tb [] L h u.1 u.2) (hx_E T_tb (P_ty dA) (dC, dI) vwCl (hx_A L sz)) (hx_A L sz)) 0 0 (hx_A L sz) := by
  refine hx_met (lv := [(0, .ref x), (1, .int i1)]) (by decide +kernel) rfl (Nat.le_of_ble_eq_true rfl) rfl ?_
  intro p e s m below meth c hx hb hml hr hlk hts0 hown hin hsz hW ls hl
  have hts : ∀ w ∈ hx_all, w.before _ s = true := fun w hw => hts0 w (List.mem_cons_of_mem _ hw)
  have hown : s.vm.findClass "SmallCourt" = some m.cls := hown
  have hM : hx_S T_tb [] L h L h := hx_S.rf
  have b_cn0 := hT.gi gx tt_9 (k := 11) rfl
  rw [f_x_11] at b_cn0
  have b_cn0 : 0 ≤ cn0.toInt ∧ cn0.toInt ≤ 100 := b_cn0
  refine lv_iload_n hx hb dX9_claimAt_0 rfl (lv_at hl 1 rfl) ?_
  refine hb_if_lt (zx := i1.toInt) (tgt := 12) hx hb rfl dX9_claimAt_1 ?o0 (fun c_1 => ?_) (fun c_1 => ?_)
  case o0 => decide
  · skip
    refine lv_null hx hb dX9_claimAt_12 ?_
    refine lv_goto (tgt := 22) hx hb dX9_claimAt_13 ?o1 ?_
    case o1 => decide
    refine hx_retq (v := none) hx hb hr (Or.inl ⟨_, rfl⟩) hlk hW ⟨⟨(fun q hq => by cases hq), (Or.inl ⟨rfl, ?o2⟩)⟩, hT, hM⟩ dX9_claimAt_22
    case o2 => omega
  · skip
    refine lv_iload_n hx hb dX9_claimAt_4 rfl (lv_at hl 1 rfl) ?_
    refine lv_aload_n hx hb dX9_claimAt_5 rfl (lv_at hl 0 rfl) ?_
    refine hk_geti hx hb hts hC_9 hown hW (gx.S hM) tt_9 11 ?o3 rfl kw_375 ⟨rfl, rfl, rfl⟩ ((hM.o gx trivial rfl).1.trans f_x_11) dX9_claimAt_6 ?_
    case o3 => decide
    refine hb_icmp_lt (zx := i1.toInt) (zy := cn0.toInt) (tgt := 16) hx hb rfl rfl dX9_claimAt_9 ?o4 (fun c_2 => ?_) (fun c_2 => ?_)
    case o4 => decide
    · skip
      refine lv_aload_n hx hb dX9_claimAt_16 rfl (lv_at hl 0 rfl) ?_
      refine hk_getr hx hb hts hC_9 hown hW (gx.S hM) tt_9 10 ?o5 rfl kw_374 ⟨rfl, rfl, rfl⟩ ((hM.o gx trivial rfl).2.trans f_x_10) dX9_claimAt_17 ?_
      case o5 => decide
      refine lv_iload_n hx hb dX9_claimAt_20 rfl (lv_at hl 1 rfl) ?_
      refine hx_aaldN hx hb hW hT (gqc.S hM) tt_45 (t1 := 2) rfl ⟨?o6, ?o7⟩ (pf_x_11 _ (by rw [((hM.o gx trivial rfl).1.trans f_x_11)]; exact hx_tnI (by omega) (by omega))) dX9_claimAt_21 (fun q_3 fq_3 gq_3 => ?_)
      case o6 => omega
      case o7 => omega
      refine hx_retq (v := (some q_3)) hx hb hr (Or.inl ⟨_, rfl⟩) hlk hW ⟨⟨(fun q hq => by cases hq; exact gq_3), (Or.inr ⟨?o8, ?o9, _, rfl, fq_3⟩)⟩, hT, hM⟩ dX9_claimAt_22
      case o8 => omega
      case o9 => omega
    · skip
      refine lv_null hx hb dX9_claimAt_12 ?_
      refine lv_goto (tgt := 22) hx hb dX9_claimAt_13 ?o10 ?_
      case o10 => decide
      refine hx_retq (v := none) hx hb hr (Or.inl ⟨_, rfl⟩) hlk hW ⟨⟨(fun q hq => by cases hq), (Or.inl ⟨rfl, ?o11⟩)⟩, hT, hM⟩ dX9_claimAt_22
      case o11 => omega


set_option maxHeartbeats 4000000 in
set_option maxRecDepth 100000 in
theorem t_X9_areTwo_2 (l : Launch) (dC : Nat → ClassId) (dI : Nat → Nat → Nat) (dA : Nat → ClassId) (L : List Nat) (h : hx_h) (sz : Nat) (x : Nat) (i1 : Int32) (i2 : Int32) (hT : hx_T T_tb L h) (gx : hx_g L h x 9) (pn0 : Int32) (f_x_8 : h.2.1 x 8 = pn0) (qp : Nat) (gqp : hx_g L h qp 44) (f_x_7 : h.2.2 x 7 = some qp) (pf_x_8 : ∀ j : Nat, (j : Int) < (h.2.1 x 8).toInt → h.2.2 qp j ≠ none) : Met l yX9_areTwo (Cond.code yX9_areTwo cX9_areTwo 3 (some .boolean) :: hx_all) ({ frames := 1, cells := 0, slots := 0, locals := 21 }) (va_Pc [.ref x, .int i1, .int i2] (hx_B T_tb (P_ty dA) (dC, dI) vwCl L h sz)) (va_Qi (fun (r : Int32) (u : List Nat × hx_h) => ((r.toInt = 0 ∧ (i1.toInt = i2.toInt ∨ i1.toInt < 0 ∨ pn0.toInt ≤ i1.toInt ∨ i2.toInt < 0 ∨ pn0.toInt ≤ i2.toInt)) ∨ (r.toInt = 1 ∧ i1.toInt ≠ i2.toInt ∧ 0 ≤ i1.toInt ∧ i1.toInt < pn0.toInt ∧ 0 ≤ i2.toInt ∧ i2.toInt < pn0.toInt)) ∧ hx_T T_tb u.1 u.2 ∧ hx_S T_tb [] L h u.1 u.2) (hx_E T_tb (P_ty dA) (dC, dI) vwCl (hx_A L sz)) (hx_A L sz)) 0 0 (hx_A L sz) := by
  refine hx_met (lv := [(0, .ref x), (1, .int i1), (2, .int i2)]) (by decide +kernel) rfl (Nat.le_of_ble_eq_true rfl) rfl ?_
  intro p e s m below meth c hx hb hml hr hlk hts0 hown hin hsz hW ls hl
  have hts : ∀ w ∈ hx_all, w.before _ s = true := fun w hw => hts0 w (List.mem_cons_of_mem _ hw)
  have hown : s.vm.findClass "SmallCourt" = some m.cls := hown
  have hM : hx_S T_tb [] L h L h := hx_S.rf
  have b_pn0 := hT.gi gx tt_9 (k := 8) rfl
  rw [f_x_8] at b_pn0
  have b_pn0 : 0 ≤ pn0.toInt ∧ pn0.toInt ≤ 40 := b_pn0
  refine lv_iload_n hx hb dX9_areTwo_0 rfl (lv_at hl 1 rfl) ?_
  refine lv_iload_n hx hb dX9_areTwo_1 rfl (lv_at hl 2 rfl) ?_
  refine hb_icmp_eq (zx := i1.toInt) (zy := i2.toInt) (tgt := 25) hx hb rfl rfl dX9_areTwo_2 ?o0 (fun c_1 => ?_) (fun c_1 => ?_)
  case o0 => decide
  · skip
    refine lv_iconst (v := 0) hx hb dX9_areTwo_25 ?o1 ?_
    case o1 => decide
    exact hx_retz hx hb hr rfl hlk hW ⟨(by have zr : (0 : Int32).toInt = 0 := (by decide); omega), hT, hM⟩ dX9_areTwo_26
  · skip
    refine lv_aload_n hx hb dX9_areTwo_5 rfl (lv_at hl 0 rfl) ?_
    refine lv_iload_n hx hb dX9_areTwo_6 rfl (lv_at hl 1 rfl) ?_
    refine hx_goq (hx_runV (As := [.int i1]) (rest := []) ⟨hx, hb, hml, hown, hts⟩ hW (gx.S hM) tt_9 (T := TX9) (N := 20) rfl (t_X9_personAt_2 l dC dI dA L h s.heap.size x i1 hT (gx.S hM) pn0 ((hM.o gx trivial rfl).1.trans f_x_8) qp (gqp.S hM) ((hM.o gx trivial rfl).2.trans f_x_7) pf_x_8) (cwV 1 hts (hx_gV kw_659 kw_656 kw_658 kw_20 kw_94) rfl rfl rfl (by decide +kernel) ⟨Nat.le_of_ble_eq_true rfl, Nat.le_of_ble_eq_true rfl⟩) rfl hl.1 rfl (Nat.le_of_ble_eq_true rfl) dX9_areTwo_7 ⟨Nat.le_of_ble_eq_true rfl, Nat.le_of_ble_eq_true rfl⟩) hW (fun r_4 L_2 h_3 H locs p_5 hW => ?_)
    obtain ⟨hr_6, hT, hs⟩ := p_5
    replace hT : hx_T T_tb L_2 h_3 := hT
    replace hs : hx_S T_tb [] L h L_2 h_3 := hs
    replace pf_x_8 : ∀ j : Nat, (j : Int) < (h_3.2.1 x 8).toInt → h_3.2.2 qp j ≠ none := by
      intro j hj; rw [(hs.o (gx.S hM) trivial rfl).1] at hj; rw [(hs.a (gqp.S hM) rfl j).2]; exact pf_x_8 j hj
    replace hM := hM.tr (hs.mono ?o2)
    case o2 => decide
    obtain ⟨hr_6, hr_6B⟩ := hr_6
    have hr_6 : ∀ q, r_4 = some q → hx_g L_2 h_3 q 4 := hr_6
    rcases r_4 with _ | q_7
    · skip
      have k_8 : i1.toInt < 0 ∨ pn0.toInt ≤ i1.toInt := by
        rcases hr_6B with ⟨_, z⟩ | ⟨_, _, q, z, _⟩
        · exact z
        · cases z
      refine lv_ifnullN (tgt := 25) hx hb dX9_areTwo_10 ?o3 ?_
      case o3 => decide
      refine lv_iconst (v := 0) hx hb dX9_areTwo_25 ?o4 ?_
      case o4 => decide
      exact hx_retz hx hb hr rfl hlk hW ⟨(by have zr : (0 : Int32).toInt = 0 := (by decide); omega), hT, hM⟩ dX9_areTwo_26
    · have gq_7 := hr_6 _ rfl
      have k_9 : 0 ≤ i1.toInt ∧ i1.toInt < pn0.toInt ∧ h_3.2.2 qp i1.toNatClampNeg = some q_7 := by
        rcases hr_6B with ⟨z, _⟩ | ⟨z1, z2, q, z3, z4⟩
        · cases z
        · cases z3; exact ⟨z1, z2, z4⟩
      have fo_10 := k_9.2.2
      have k_9 : 0 ≤ i1.toInt ∧ i1.toInt < pn0.toInt := ⟨k_9.1, k_9.2.1⟩
      refine lv_ifnull hx hb dX9_areTwo_10 ?_
      refine lv_aload_n hx hb dX9_areTwo_13 rfl (lv_at hl 0 rfl) ?_
      refine lv_iload_n hx hb dX9_areTwo_14 rfl (lv_at hl 2 rfl) ?_
      refine hx_goq (hx_runV (As := [.int i2]) (rest := []) ⟨hx, hb, hml, hown, hts⟩ hW (gx.S hM) tt_9 (T := TX9) (N := 20) rfl (t_X9_personAt_2 l dC dI dA L_2 h_3 H.size x i2 hT (gx.S hM) pn0 ((hM.o gx trivial rfl).1.trans f_x_8) qp (gqp.S hM) ((hM.o gx trivial rfl).2.trans f_x_7) pf_x_8) (cwV 1 hts (hx_gV kw_659 kw_656 kw_658 kw_20 kw_94) rfl rfl rfl (by decide +kernel) ⟨Nat.le_of_ble_eq_true rfl, Nat.le_of_ble_eq_true rfl⟩) rfl hl.1 rfl (Nat.le_of_ble_eq_true rfl) dX9_areTwo_15 ⟨Nat.le_of_ble_eq_true rfl, Nat.le_of_ble_eq_true rfl⟩) hW (fun r_13 L_11 h_12 H locs p_14 hW => ?_)
      obtain ⟨hr_15, hT, hs⟩ := p_14
      replace hT : hx_T T_tb L_11 h_12 := hT
      replace hs : hx_S T_tb [] L_2 h_3 L_11 h_12 := hs
      replace pf_x_8 : ∀ j : Nat, (j : Int) < (h_12.2.1 x 8).toInt → h_12.2.2 qp j ≠ none := by
        intro j hj; rw [(hs.o (gx.S hM) trivial rfl).1] at hj; rw [(hs.a (gqp.S hM) rfl j).2]; exact pf_x_8 j hj
      replace fo_10 := (hs.a (gqp.S hM) rfl _).2.trans fo_10
      replace hM := hM.tr (hs.mono ?o5)
      case o5 => decide
      replace gq_7 := gq_7.S hs
      obtain ⟨hr_15, hr_15B⟩ := hr_15
      have hr_15 : ∀ q, r_13 = some q → hx_g L_11 h_12 q 4 := hr_15
      rcases r_13 with _ | q_16
      · skip
        have k_17 : i2.toInt < 0 ∨ pn0.toInt ≤ i2.toInt := by
          rcases hr_15B with ⟨_, z⟩ | ⟨_, _, q, z, _⟩
          · exact z
          · cases z
        refine lv_ifnullN (tgt := 25) hx hb dX9_areTwo_18 ?o6 ?_
        case o6 => decide
        refine lv_iconst (v := 0) hx hb dX9_areTwo_25 ?o7 ?_
        case o7 => decide
        exact hx_retz hx hb hr rfl hlk hW ⟨(by have zr : (0 : Int32).toInt = 0 := (by decide); omega), hT, hM⟩ dX9_areTwo_26
      · have gq_16 := hr_15 _ rfl
        have k_18 : 0 ≤ i2.toInt ∧ i2.toInt < pn0.toInt ∧ h_12.2.2 qp i2.toNatClampNeg = some q_16 := by
          rcases hr_15B with ⟨z, _⟩ | ⟨z1, z2, q, z3, z4⟩
          · cases z
          · cases z3; exact ⟨z1, z2, z4⟩
        have fo_19 := k_18.2.2
        have k_18 : 0 ≤ i2.toInt ∧ i2.toInt < pn0.toInt := ⟨k_18.1, k_18.2.1⟩
        refine lv_ifnull hx hb dX9_areTwo_18 ?_
        refine lv_iconst (v := 1) hx hb dX9_areTwo_21 ?o8 ?_
        case o8 => decide
        refine lv_goto (tgt := 26) hx hb dX9_areTwo_22 ?o9 ?_
        case o9 => decide
        exact hx_retz hx hb hr rfl hlk hW ⟨(by have zr : (1 : Int32).toInt = 1 := (by decide); omega), hT, hM⟩ dX9_areTwo_26


set_option maxHeartbeats 4000000 in
set_option maxRecDepth 100000 in
theorem t_X4_tell_2 (l : Launch) (dC : Nat → ClassId) (dI : Nat → Nat → Nat) (dA : Nat → ClassId) (L : List Nat) (h : hx_h) (sz : Nat) (x : Nat) (i1 : Int32) (i2 : Int32) (i3 : Int32) (i4 : Int32) (hT : hx_T T_tb L h) (gx : hx_g L h x 4)  : Met l yX4_tell (Cond.code yX4_tell cX4_tell 5 none :: hx_all) ({ frames := 0, cells := 0, slots := 0, locals := 0 }) (va_Pc [.ref x, .int i1, .int i2, .int i3, .int i4] (hx_B T_tb (P_ty dA) (dC, dI) vwCl L h sz)) (va_Qv (fun (u : List Nat × hx_h) => (∃ (x1 : Int32) (y1 : Int32) (ea1 : Int32) (hd1 : Int32), u.2.2.1 x 5 = x1 ∧ u.2.2.1 x 6 = y1 ∧ u.2.2.1 x 3 = ea1 ∧ u.2.2.1 x 4 = hd1 ∧ ((x1 = i3 ∧ y1 = i4 ∧ ∀ a k, a ≠ x → u.2.2.1 a k = h.2.1 a k) ∧ (ea1 = i1 ∧ hd1 = i2))) ∧ hx_T T_tb u.1 u.2 ∧ hx_S T_tb [(4, 3), (4, 4), (4, 5), (4, 6)] L h u.1 u.2) (hx_E T_tb (P_ty dA) (dC, dI) vwCl (hx_A L sz)) (hx_A L sz)) 0 0 (hx_A L sz) := by
  refine hx_met (lv := [(0, .ref x), (1, .int i1), (2, .int i2), (3, .int i3), (4, .int i4)]) (by decide +kernel) rfl (Nat.le_of_ble_eq_true rfl) rfl ?_
  intro p e s m below meth c hx hb hml hr hlk hts0 hown hin hsz hW ls hl
  have hts : ∀ w ∈ hx_all, w.before _ s = true := fun w hw => hts0 w (List.mem_cons_of_mem _ hw)
  have hown : s.vm.findClass "SmallCourt$Person" = some m.cls := hown
  have hM : hx_S T_tb [(4, 3), (4, 4), (4, 5), (4, 6)] L h L h := hx_S.rf
  refine lv_aload_n hx hb dX4_tell_0 rfl (lv_at hl 0 rfl) ?_
  refine lv_iload_n hx hb dX4_tell_1 rfl (lv_at hl 1 rfl) ?_
  refine hx_puti hx hb hts hC_4 hown hW hT (hx_S.rf (M := [(4, 3)])) (gx.S hM) tt_4 3 ?o0 rfl kw_616 ⟨rfl, rfl, rfl⟩ rfl (x := i1) (i32_r _) rfl rfl rfl (List.mem_singleton.mpr rfl) dX4_tell_2 (fun H locs h_1 eh_1 hW hT hs => ?_)
  case o0 => decide
  replace hM := hM.tr (hs.mono ?o1)
  case o1 => decide
  have f_2 : h_1.2.1 x 3 = i1 := ?o2
  case o2 =>
    rw [eh_1]
    exact hx_pi_at _ _ _ _
  refine lv_aload_n hx hb dX4_tell_5 rfl (lv_at hl 0 rfl) ?_
  refine lv_iload_n hx hb dX4_tell_6 rfl (lv_at hl 2 rfl) ?_
  refine hx_puti hx hb hts hC_4 hown hW hT (hx_S.rf (M := [(4, 4)])) (gx.S hM) tt_4 4 ?o3 rfl kw_617 ⟨rfl, rfl, rfl⟩ rfl (x := i2) (i32_r _) rfl rfl rfl (List.mem_singleton.mpr rfl) dX4_tell_7 (fun H locs h_3 eh_3 hW hT hs => ?_)
  case o3 => decide
  replace f_2 := (hs.o (gx.S hM) trivial rfl).1.trans f_2
  replace hM := hM.tr (hs.mono ?o4)
  case o4 => decide
  have f_4 : h_3.2.1 x 4 = i2 := ?o5
  case o5 =>
    rw [eh_3]
    exact hx_pi_at _ _ _ _
  refine lv_aload_n hx hb dX4_tell_10 rfl (lv_at hl 0 rfl) ?_
  refine lv_iload_n hx hb dX4_tell_11 rfl (lv_at hl 3 rfl) ?_
  refine hx_puti hx hb hts hC_4 hown hW hT (hx_S.rf (M := [(4, 5)])) (gx.S hM) tt_4 5 ?o6 rfl kw_618 ⟨rfl, rfl, rfl⟩ rfl (x := i3) (i32_r _) rfl rfl rfl (List.mem_singleton.mpr rfl) dX4_tell_12 (fun H locs h_5 eh_5 hW hT hs => ?_)
  case o6 => decide
  replace f_2 := (hs.o (gx.S hM) trivial rfl).1.trans f_2
  replace f_4 := (hs.o (gx.S hM) trivial rfl).1.trans f_4
  replace hM := hM.tr (hs.mono ?o7)
  case o7 => decide
  have f_6 : h_5.2.1 x 5 = i3 := ?o8
  case o8 =>
    rw [eh_5]
    exact hx_pi_at _ _ _ _
  refine lv_aload_n hx hb dX4_tell_15 rfl (lv_at hl 0 rfl) ?_
  refine lv_iload hx hb dX4_tell_16 (lv_at hl 4 rfl) ?_
  refine hx_puti hx hb hts hC_4 hown hW hT (hx_S.rf (M := [(4, 6)])) (gx.S hM) tt_4 6 ?o9 rfl kw_620 ⟨rfl, rfl, rfl⟩ rfl (x := i4) (i32_r _) rfl rfl rfl (List.mem_singleton.mpr rfl) dX4_tell_18 (fun H locs h_7 eh_7 hW hT hs => ?_)
  case o9 => decide
  replace f_2 := (hs.o (gx.S hM) trivial rfl).1.trans f_2
  replace f_4 := (hs.o (gx.S hM) trivial rfl).1.trans f_4
  replace f_6 := (hs.o (gx.S hM) trivial rfl).1.trans f_6
  replace hM := hM.tr (hs.mono ?o10)
  case o10 => decide
  have f_8 : h_7.2.1 x 6 = i4 := ?o11
  case o11 =>
    rw [eh_7]
    exact hx_pi_at _ _ _ _
  exact hx_retv hx hb hr hlk hW ⟨⟨i3, i4, i1, i2, f_6, f_8, f_2, f_4, ⟨⟨rfl, rfl, fun a k ne => by show h_7.2.1 a k = h.2.1 a k; rw [eh_7, hx_pi_ne _ _ (fun z => ne z.1), eh_5, hx_pi_ne _ _ (fun z => ne z.1), eh_3, hx_pi_ne _ _ (fun z => ne z.1), eh_1, hx_pi_ne _ _ (fun z => ne z.1)]⟩, ⟨rfl, rfl⟩⟩⟩, hT, hM⟩ dX4_tell_21


set_option maxHeartbeats 4000000 in
set_option maxRecDepth 100000 in
theorem t_X9_dies_2 (l : Launch) (dC : Nat → ClassId) (dI : Nat → Nat → Nat) (dA : Nat → ClassId) (L : List Nat) (h : hx_h) (sz : Nat) (x : Nat) (i1 : Int32) (hT : hx_T T_tb L h) (gx : hx_g L h x 9) (pn0 : Int32) (f_x_8 : h.2.1 x 8 = pn0) (qp : Nat) (gqp : hx_g L h qp 44) (f_x_7 : h.2.2 x 7 = some qp) (pf_x_8 : ∀ j : Nat, (j : Int) < (h.2.1 x 8).toInt → h.2.2 qp j ≠ none) (df : Nat → Int32) (cl_qp_7 : hx_col 40 h qp 7 = df) (nu_qp : hx_num 40 h qp 0 (pn0.toInt)) : Met l yX9_dies (Cond.code yX9_dies cX9_dies 3 (some .boolean) :: hx_all) ({ frames := 1, cells := 0, slots := 0, locals := 21 }) (va_Pc [.ref x, .int i1] (hx_B T_tb (P_ty dA) (dC, dI) vwCl L h sz)) (va_Qi (fun (r : Int32) (u : List Nat × hx_h) => (∃ (df1 : Nat → Int32), hx_col 40 u.2 qp 7 = df1 ∧ (hx_JS pn0.toInt i1.toInt 1 df r.toInt df1)) ∧ hx_T T_tb u.1 u.2 ∧ hx_S T_tb [(4, 7)] L h u.1 u.2) (hx_E T_tb (P_ty dA) (dC, dI) vwCl (hx_A L sz)) (hx_A L sz)) 0 0 (hx_A L sz) := by
  refine hx_met (lv := [(0, .ref x), (1, .int i1)]) (by decide +kernel) rfl (Nat.le_of_ble_eq_true rfl) rfl ?_
  intro p e s m below meth c hx hb hml hr hlk hts0 hown hin hsz hW ls hl
  have hts : ∀ w ∈ hx_all, w.before _ s = true := fun w hw => hts0 w (List.mem_cons_of_mem _ hw)
  have hown : s.vm.findClass "SmallCourt" = some m.cls := hown
  have hM : hx_S T_tb [(4, 7)] L h L h := hx_S.rf
  have b_pn0 := hT.gi gx tt_9 (k := 8) rfl
  rw [f_x_8] at b_pn0
  have b_pn0 : 0 ≤ pn0.toInt ∧ pn0.toInt ≤ 40 := b_pn0
  refine lv_aload_n hx hb dX9_dies_0 rfl (lv_at hl 0 rfl) ?_
  refine lv_iload_n hx hb dX9_dies_1 rfl (lv_at hl 1 rfl) ?_
  have hTo := hT
  refine hx_goq (hx_runV (As := [.int i1]) (rest := []) ⟨hx, hb, hml, hown, hts⟩ hW (gx.S hM) tt_9 (T := TX9) (N := 20) rfl (t_X9_personAt_2 l dC dI dA L h s.heap.size x i1 hT (gx.S hM) pn0 ((hM.o gx trivial rfl).1.trans f_x_8) qp (gqp.S hM) ((hM.o gx trivial rfl).2.trans f_x_7) pf_x_8) (cwV 1 hts (hx_gV kw_659 kw_656 kw_658 kw_20 kw_94) rfl rfl rfl (by decide +kernel) ⟨Nat.le_of_ble_eq_true rfl, Nat.le_of_ble_eq_true rfl⟩) rfl hl.1 rfl (Nat.le_of_ble_eq_true rfl) dX9_dies_2 ⟨Nat.le_of_ble_eq_true rfl, Nat.le_of_ble_eq_true rfl⟩) hW (fun r_3 L_1 h_2 H locs p_4 hW => ?_)
  obtain ⟨hr_5, hT, hs⟩ := p_4
  replace hT : hx_T T_tb L_1 h_2 := hT
  replace hs : hx_S T_tb [] L h L_1 h_2 := hs
  replace pf_x_8 : ∀ j : Nat, (j : Int) < (h_2.2.1 x 8).toInt → h_2.2.2 qp j ≠ none := by
    intro j hj; rw [(hs.o (gx.S hM) trivial rfl).1] at hj; rw [(hs.a (gqp.S hM) rfl j).2]; exact pf_x_8 j hj
  replace cl_qp_7 : hx_col 40 h_2 qp 7 = df := (hx_col_S hs hTo (gqp.S hM) tt_44 tt_4 rfl rfl).trans cl_qp_7
  replace nu_qp : hx_num 40 h_2 qp 0 (pn0.toInt) := hx_num_S hs hTo (gqp.S hM) tt_44 tt_4 rfl rfl nu_qp
  replace hM := hM.tr (hs.mono ?o0)
  case o0 => decide
  obtain ⟨hr_5, hr_5B⟩ := hr_5
  have hr_5 : ∀ q, r_3 = some q → hx_g L_1 h_2 q 4 := hr_5
  rcases r_3 with _ | q_6
  · skip
    have k_7 : i1.toInt < 0 ∨ pn0.toInt ≤ i1.toInt := by
      rcases hr_5B with ⟨_, z⟩ | ⟨_, _, q, z, _⟩
      · exact z
      · cases z
    refine lv_astore_nN (lv' := [(2, .null), (0, .ref x), (1, .int i1)]) hx hb dX9_dies_5 rfl hl ?o1 rfl (fun ls hl => ?_)
    case o1 => decide
    refine lv_aload_nN hx hb dX9_dies_6 rfl (lv_at hl 0 rfl) ?_
    refine lv_ifnullN (tgt := 17) hx hb dX9_dies_7 ?o2 ?_
    case o2 => decide
    refine lv_iconst (v := 0) hx hb dX9_dies_17 ?o3 ?_
    case o3 => decide
    refine hx_retz hx hb hr rfl hlk hW ⟨⟨df, cl_qp_7, (Or.inl ⟨?o4, rfl, fun hc => by have := hc.1; have := hc.2.1; omega⟩)⟩, hT, hM⟩ dX9_dies_18
    case o4 => decide
  · have gq_6 := hr_5 _ rfl
    have k_8 : 0 ≤ i1.toInt ∧ i1.toInt < pn0.toInt ∧ h_2.2.2 qp i1.toNatClampNeg = some q_6 := by
      rcases hr_5B with ⟨z, _⟩ | ⟨z1, z2, q, z3, z4⟩
      · cases z
      · cases z3; exact ⟨z1, z2, z4⟩
    have fo_9 := k_8.2.2
    have k_8 : 0 ≤ i1.toInt ∧ i1.toInt < pn0.toInt := ⟨k_8.1, k_8.2.1⟩
    refine lv_astore_n (lv' := [(2, .ref q_6), (0, .ref x), (1, .int i1)]) hx hb dX9_dies_5 rfl hl ?o5 rfl (fun ls hl => ?_)
    case o5 => decide
    refine lv_aload_n hx hb dX9_dies_6 rfl (lv_at hl 0 rfl) ?_
    refine lv_ifnull hx hb dX9_dies_7 ?_
    refine lv_aload_n hx hb dX9_dies_10 rfl (lv_at hl 0 rfl) ?_
    refine hx_geti hx hb hts hC_4 hown hW hT gq_6 tt_4 7 ?o6 rfl kw_623 ⟨rfl, rfl, rfl⟩ dX9_dies_11 (fun x_10 ex_10 lx_10 ux_10 => ?_)
    case o6 => decide
    have fx_10 := ex_10.symm
    have cx_10 : x_10 = df i1.toNatClampNeg := ?o7
    case o7 =>
      rw [ex_10, ← cl_qp_7]
      exact (hx_col_at fo_9 (by unfold Int32.toNatClampNeg; omega)).symm
    refine hb_if_eq (zx := x_10.toInt) (tgt := 19) hx hb rfl dX9_dies_14 ?o8 (fun c_11 => ?_) (fun c_11 => ?_)
    case o8 => decide
    · skip
      refine lv_aload_n hx hb dX9_dies_19 rfl (lv_at hl 0 rfl) ?_
      refine lv_iconst (v := 1) hx hb dX9_dies_20 ?o9 ?_
      case o9 => decide
      have hTo := hT
      have cl_qp_7O := cl_qp_7
      have nu_qpO := nu_qp
      have fo_9O := fo_9
      refine hx_puti hx hb hts hC_4 hown hW hT (hx_S.rf (M := [(4, 7)])) gq_6 tt_4 7 ?o10 rfl kw_623 ⟨rfl, rfl, rfl⟩ rfl (x := (1 : Int32)) ?o11 rfl ?o12 ?o13 (List.mem_singleton.mpr rfl) dX9_dies_21 (fun H locs h_12 eh_12 hW hT hs => ?_)
      case o10 => decide
      case o11 => decide
      case o12 => decide
      case o13 => decide
      replace pf_x_8 : ∀ j : Nat, (j : Int) < (h_12.2.1 x 8).toInt → h_12.2.2 qp j ≠ none := by
        intro j hj; rw [(hs.o (gx.S hM) trivial rfl).1] at hj; rw [(hs.a (gqp.S hM) rfl j).2]; exact pf_x_8 j hj
      replace nu_qp : hx_num 40 h_12 qp 0 (pn0.toInt) := hx_num_S hs hTo (gqp.S hM) tt_44 tt_4 rfl rfl nu_qp
      replace fo_9 := (hs.a (gqp.S hM) rfl _).2.trans fo_9
      replace hM := hM.tr (hs.mono ?o14)
      case o14 => decide
      replace gq_6 := gq_6.S hs
      have f_13 : h_12.2.1 q_6 7 = (1 : Int32) := ?o15
      case o15 =>
        rw [eh_12]
        exact hx_pi_at _ _ _ _
      obtain ⟨fc_14, dfc_14⟩ : ∃ g : Nat → Int32, g = hx_up df i1.toNatClampNeg (1 : Int32) := ⟨_, rfl⟩
      have nfc_14 : hx_col 40 h_12 qp 7 = fc_14 := ?o16
      case o16 =>
        rw [dfc_14, ← cl_qp_7O]
        exact hx_col_pi nu_qpO fo_9O (by unfold Int32.toNatClampNeg; omega) eh_12
      refine lv_iconst (v := 1) hx hb dX9_dies_24 ?o17 ?_
      case o17 => decide
      refine hx_retz hx hb hr rfl hlk hW ⟨⟨fc_14, nfc_14, (Or.inr ⟨?o18, dfc_14, ?o19, ?o20, (by have z1 : (1 : Int32).toInt = 1 := (by decide); show (df i1.toNatClampNeg).toInt ≠ _; rw [← cx_10]; omega)⟩)⟩, hT, hM⟩ dX9_dies_25
      case o18 => decide
      case o19 => omega
      case o20 => omega
    · skip
      refine lv_iconst (v := 0) hx hb dX9_dies_17 ?o21 ?_
      case o21 => decide
      refine hx_retz hx hb hr rfl hlk hW ⟨⟨df, cl_qp_7, (Or.inl ⟨?o22, rfl, fun hc => hc.2.2 (by have z1 : (1 : Int32).toInt = 1 := (by decide); show (df i1.toNatClampNeg).toInt = _; rw [← cx_10]; omega)⟩)⟩, hT, hM⟩ dX9_dies_18
      case o22 => decide


set_option maxHeartbeats 4000000 in
set_option maxRecDepth 100000 in
theorem t_X9_judge_2 (l : Launch) (dC : Nat → ClassId) (dI : Nat → Nat → Nat) (dA : Nat → ClassId) (L : List Nat) (h : hx_h) (sz : Nat) (x : Nat) (i1 : Int32) (i2 : Int32) (hT : hx_T T_tb L h) (gx : hx_g L h x 9) (pn0 : Int32) (f_x_8 : h.2.1 x 8 = pn0) (hi2 : i2.toInt = 0 ∨ i2.toInt = 1) (qp : Nat) (gqp : hx_g L h qp 44) (f_x_7 : h.2.2 x 7 = some qp) (pf_x_8 : ∀ j : Nat, (j : Int) < (h.2.1 x 8).toInt → h.2.2 qp j ≠ none) (df : Nat → Int32) (cl_qp_8 : hx_col 40 h qp 8 = df) (nu_qp : hx_num 40 h qp 0 (pn0.toInt)) : Met l yX9_judge (Cond.code yX9_judge cX9_judge 4 (some .boolean) :: hx_all) ({ frames := 1, cells := 0, slots := 0, locals := 21 }) (va_Pc [.ref x, .int i1, .int i2] (hx_B T_tb (P_ty dA) (dC, dI) vwCl L h sz)) (va_Qi (fun (r : Int32) (u : List Nat × hx_h) => (∃ (df1 : Nat → Int32), hx_col 40 u.2 qp 8 = df1 ∧ (hx_JS pn0.toInt i1.toInt i2 df r.toInt df1)) ∧ hx_T T_tb u.1 u.2 ∧ hx_S T_tb [(4, 8), (4, 9)] L h u.1 u.2) (hx_E T_tb (P_ty dA) (dC, dI) vwCl (hx_A L sz)) (hx_A L sz)) 0 0 (hx_A L sz) := by
  refine hx_met (lv := [(0, .ref x), (1, .int i1), (2, .int i2)]) (by decide +kernel) rfl (Nat.le_of_ble_eq_true rfl) rfl ?_
  intro p e s m below meth c hx hb hml hr hlk hts0 hown hin hsz hW ls hl
  have hts : ∀ w ∈ hx_all, w.before _ s = true := fun w hw => hts0 w (List.mem_cons_of_mem _ hw)
  have hown : s.vm.findClass "SmallCourt" = some m.cls := hown
  have hM : hx_S T_tb [(4, 8), (4, 9)] L h L h := hx_S.rf
  have b_pn0 := hT.gi gx tt_9 (k := 8) rfl
  rw [f_x_8] at b_pn0
  have b_pn0 : 0 ≤ pn0.toInt ∧ pn0.toInt ≤ 40 := b_pn0
  refine lv_aload_n hx hb dX9_judge_0 rfl (lv_at hl 0 rfl) ?_
  refine lv_iload_n hx hb dX9_judge_1 rfl (lv_at hl 1 rfl) ?_
  have hTo := hT
  refine hx_goq (hx_runV (As := [.int i1]) (rest := []) ⟨hx, hb, hml, hown, hts⟩ hW (gx.S hM) tt_9 (T := TX9) (N := 20) rfl (t_X9_personAt_2 l dC dI dA L h s.heap.size x i1 hT (gx.S hM) pn0 ((hM.o gx trivial rfl).1.trans f_x_8) qp (gqp.S hM) ((hM.o gx trivial rfl).2.trans f_x_7) pf_x_8) (cwV 1 hts (hx_gV kw_659 kw_656 kw_658 kw_20 kw_94) rfl rfl rfl (by decide +kernel) ⟨Nat.le_of_ble_eq_true rfl, Nat.le_of_ble_eq_true rfl⟩) rfl hl.1 rfl (Nat.le_of_ble_eq_true rfl) dX9_judge_2 ⟨Nat.le_of_ble_eq_true rfl, Nat.le_of_ble_eq_true rfl⟩) hW (fun r_3 L_1 h_2 H locs p_4 hW => ?_)
  obtain ⟨hr_5, hT, hs⟩ := p_4
  replace hT : hx_T T_tb L_1 h_2 := hT
  replace hs : hx_S T_tb [] L h L_1 h_2 := hs
  replace pf_x_8 : ∀ j : Nat, (j : Int) < (h_2.2.1 x 8).toInt → h_2.2.2 qp j ≠ none := by
    intro j hj; rw [(hs.o (gx.S hM) trivial rfl).1] at hj; rw [(hs.a (gqp.S hM) rfl j).2]; exact pf_x_8 j hj
  replace cl_qp_8 : hx_col 40 h_2 qp 8 = df := (hx_col_S hs hTo (gqp.S hM) tt_44 tt_4 rfl rfl).trans cl_qp_8
  replace nu_qp : hx_num 40 h_2 qp 0 (pn0.toInt) := hx_num_S hs hTo (gqp.S hM) tt_44 tt_4 rfl rfl nu_qp
  replace hM := hM.tr (hs.mono ?o0)
  case o0 => decide
  obtain ⟨hr_5, hr_5B⟩ := hr_5
  have hr_5 : ∀ q, r_3 = some q → hx_g L_1 h_2 q 4 := hr_5
  rcases r_3 with _ | q_6
  · skip
    have k_7 : i1.toInt < 0 ∨ pn0.toInt ≤ i1.toInt := by
      rcases hr_5B with ⟨_, z⟩ | ⟨_, _, q, z, _⟩
      · exact z
      · cases z
    refine lv_astore_nN (lv' := [(3, .null), (0, .ref x), (1, .int i1), (2, .int i2)]) hx hb dX9_judge_5 rfl hl ?o1 rfl (fun ls hl => ?_)
    case o1 => decide
    refine lv_aload_nN hx hb dX9_judge_6 rfl (lv_at hl 0 rfl) ?_
    refine lv_ifnullN (tgt := 18) hx hb dX9_judge_7 ?o2 ?_
    case o2 => decide
    refine lv_iconst (v := 0) hx hb dX9_judge_18 ?o3 ?_
    case o3 => decide
    refine hx_retz hx hb hr rfl hlk hW ⟨⟨df, cl_qp_8, (Or.inl ⟨?o4, rfl, fun hc => by have := hc.1; have := hc.2.1; omega⟩)⟩, hT, hM⟩ dX9_judge_19
    case o4 => decide
  · have gq_6 := hr_5 _ rfl
    have k_8 : 0 ≤ i1.toInt ∧ i1.toInt < pn0.toInt ∧ h_2.2.2 qp i1.toNatClampNeg = some q_6 := by
      rcases hr_5B with ⟨z, _⟩ | ⟨z1, z2, q, z3, z4⟩
      · cases z
      · cases z3; exact ⟨z1, z2, z4⟩
    have fo_9 := k_8.2.2
    have k_8 : 0 ≤ i1.toInt ∧ i1.toInt < pn0.toInt := ⟨k_8.1, k_8.2.1⟩
    refine lv_astore_n (lv' := [(3, .ref q_6), (0, .ref x), (1, .int i1), (2, .int i2)]) hx hb dX9_judge_5 rfl hl ?o5 rfl (fun ls hl => ?_)
    case o5 => decide
    refine lv_aload_n hx hb dX9_judge_6 rfl (lv_at hl 0 rfl) ?_
    refine lv_ifnull hx hb dX9_judge_7 ?_
    refine lv_aload_n hx hb dX9_judge_10 rfl (lv_at hl 0 rfl) ?_
    refine hx_geti hx hb hts hC_4 hown hW hT gq_6 tt_4 8 ?o6 rfl kw_625 ⟨rfl, rfl, rfl⟩ dX9_judge_11 (fun x_10 ex_10 lx_10 ux_10 => ?_)
    case o6 => decide
    have fx_10 := ex_10.symm
    have cx_10 : x_10 = df i1.toNatClampNeg := ?o7
    case o7 =>
      rw [ex_10, ← cl_qp_8]
      exact (hx_col_at fo_9 (by unfold Int32.toNatClampNeg; omega)).symm
    refine lv_iload_n hx hb dX9_judge_14 rfl (lv_at hl 3 rfl) ?_
    refine hb_icmp_ne (zx := x_10.toInt) (zy := i2.toInt) (tgt := 20) hx hb rfl rfl dX9_judge_15 ?o8 (fun c_11 => ?_) (fun c_11 => ?_)
    case o8 => decide
    · skip
      refine lv_aload_n hx hb dX9_judge_20 rfl (lv_at hl 0 rfl) ?_
      refine lv_iload_n hx hb dX9_judge_21 rfl (lv_at hl 3 rfl) ?_
      have hTo := hT
      have cl_qp_8O := cl_qp_8
      have nu_qpO := nu_qp
      have fo_9O := fo_9
      refine hx_puti hx hb hts hC_4 hown hW hT (hx_S.rf (M := [(4, 8)])) gq_6 tt_4 8 ?o9 rfl kw_625 ⟨rfl, rfl, rfl⟩ rfl (x := i2) ⟨?o10, ?o11⟩ rfl (hx_nar01 ?o12) (hx_fz ?o13) (List.mem_singleton.mpr rfl) dX9_judge_22 (fun H locs h_12 eh_12 hW hT hs => ?_)
      case o9 => decide
      case o10 => omega
      case o11 => omega
      case o12 => omega
      case o13 => omega
      replace pf_x_8 : ∀ j : Nat, (j : Int) < (h_12.2.1 x 8).toInt → h_12.2.2 qp j ≠ none := by
        intro j hj; rw [(hs.o (gx.S hM) trivial rfl).1] at hj; rw [(hs.a (gqp.S hM) rfl j).2]; exact pf_x_8 j hj
      replace nu_qp : hx_num 40 h_12 qp 0 (pn0.toInt) := hx_num_S hs hTo (gqp.S hM) tt_44 tt_4 rfl rfl nu_qp
      replace fo_9 := (hs.a (gqp.S hM) rfl _).2.trans fo_9
      replace hM := hM.tr (hs.mono ?o14)
      case o14 => decide
      replace gq_6 := gq_6.S hs
      have f_13 : h_12.2.1 q_6 8 = i2 := ?o15
      case o15 =>
        rw [eh_12]
        exact hx_pi_at _ _ _ _
      obtain ⟨fc_14, dfc_14⟩ : ∃ g : Nat → Int32, g = hx_up df i1.toNatClampNeg i2 := ⟨_, rfl⟩
      have nfc_14 : hx_col 40 h_12 qp 8 = fc_14 := ?o16
      case o16 =>
        rw [dfc_14, ← cl_qp_8O]
        exact hx_col_pi nu_qpO fo_9O (by unfold Int32.toNatClampNeg; omega) eh_12
      refine lv_aload_n hx hb dX9_judge_25 rfl (lv_at hl 0 rfl) ?_
      refine lv_iconst (v := 1) hx hb dX9_judge_26 ?o17 ?_
      case o17 => decide
      have hTo := hT
      refine hx_puti hx hb hts hC_4 hown hW hT (hx_S.rf (M := [(4, 9)])) gq_6 tt_4 9 ?o18 rfl kw_626 ⟨rfl, rfl, rfl⟩ rfl (x := (1 : Int32)) ?o19 rfl ?o20 ?o21 (List.mem_singleton.mpr rfl) dX9_judge_27 (fun H locs h_15 eh_15 hW hT hs => ?_)
      case o18 => decide
      case o19 => decide
      case o20 => decide
      case o21 => decide
      replace f_13 := (hs.o gq_6 trivial rfl).1.trans f_13
      replace pf_x_8 : ∀ j : Nat, (j : Int) < (h_15.2.1 x 8).toInt → h_15.2.2 qp j ≠ none := by
        intro j hj; rw [(hs.o (gx.S hM) trivial rfl).1] at hj; rw [(hs.a (gqp.S hM) rfl j).2]; exact pf_x_8 j hj
      replace nfc_14 : hx_col 40 h_15 qp 8 = fc_14 := (hx_col_S hs hTo (gqp.S hM) tt_44 tt_4 rfl rfl).trans nfc_14
      replace nu_qp : hx_num 40 h_15 qp 0 (pn0.toInt) := hx_num_S hs hTo (gqp.S hM) tt_44 tt_4 rfl rfl nu_qp
      replace fo_9 := (hs.a (gqp.S hM) rfl _).2.trans fo_9
      replace hM := hM.tr (hs.mono ?o22)
      case o22 => decide
      replace gq_6 := gq_6.S hs
      have f_16 : h_15.2.1 q_6 9 = (1 : Int32) := ?o23
      case o23 =>
        rw [eh_15]
        exact hx_pi_at _ _ _ _
      refine lv_iconst (v := 1) hx hb dX9_judge_30 ?o24 ?_
      case o24 => decide
      refine hx_retz hx hb hr rfl hlk hW ⟨⟨fc_14, nfc_14, (Or.inr ⟨?o25, dfc_14, ?o26, ?o27, (by have z1 : (1 : Int32).toInt = 1 := (by decide); show (df i1.toNatClampNeg).toInt ≠ _; rw [← cx_10]; omega)⟩)⟩, hT, hM⟩ dX9_judge_31
      case o25 => decide
      case o26 => omega
      case o27 => omega
    · skip
      refine lv_iconst (v := 0) hx hb dX9_judge_18 ?o28 ?_
      case o28 => decide
      refine hx_retz hx hb hr rfl hlk hW ⟨⟨df, cl_qp_8, (Or.inl ⟨?o29, rfl, fun hc => hc.2.2 (by have z1 : (1 : Int32).toInt = 1 := (by decide); show (df i1.toNatClampNeg).toInt = _; rw [← cx_10]; omega)⟩)⟩, hT, hM⟩ dX9_judge_19
      case o29 => decide


set_option maxHeartbeats 4000000 in
set_option maxRecDepth 100000 in
theorem t_X9_anew_2 (l : Launch) (dC : Nat → ClassId) (dI : Nat → Nat → Nat) (dA : Nat → ClassId) (L : List Nat) (h : hx_h) (sz : Nat) (x : Nat) (i1 : Int32) (i2 : Int32) (i3 : Int32) (i4 : Int32) (i5 : Int32) (hT : hx_T T_tb L h) (gx : hx_g L h x 9) (pn0 : Int32) (f_x_8 : h.2.1 x 8 = pn0) (qp : Nat) (gqp : hx_g L h qp 44) (f_x_7 : h.2.2 x 7 = some qp) (pf_x_8 : ∀ j : Nat, (j : Int) < (h.2.1 x 8).toInt → h.2.2 qp j ≠ none) (df : Nat → Int32) (cl_qp_7 : hx_col 40 h qp 7 = df) (dxf : Nat → Int32) (cl_qp_5 : hx_col 40 h qp 5 = dxf) (dyf : Nat → Int32) (cl_qp_6 : hx_col 40 h qp 6 = dyf) (eaf : Nat → Int32) (cl_qp_3 : hx_col 40 h qp 3 = eaf) (hdf : Nat → Int32) (cl_qp_4 : hx_col 40 h qp 4 = hdf) (nu_qp : hx_num 40 h qp 0 (pn0.toInt)) : Met l yX9_anew (Cond.code yX9_anew cX9_anew 7 (some .boolean) :: hx_all) ({ frames := 2, cells := 0, slots := 0, locals := 45 }) (va_Pc [.ref x, .int i1, .int i2, .int i3, .int i4, .int i5] (hx_B T_tb (P_ty dA) (dC, dI) vwCl L h sz)) (va_Qi (fun (r : Int32) (u : List Nat × hx_h) => (∃ (dxf1 : Nat → Int32) (dyf1 : Nat → Int32) (eaf1 : Nat → Int32) (hdf1 : Nat → Int32), hx_col 40 u.2 qp 5 = dxf1 ∧ hx_col 40 u.2 qp 6 = dyf1 ∧ hx_col 40 u.2 qp 3 = eaf1 ∧ hx_col 40 u.2 qp 4 = hdf1 ∧ ((hx_AS pn0.toInt i1.toInt i2.toInt i3.toInt i4.toInt i5.toInt df r.toInt ∧ hw_AD r.toInt i1.toInt i4 dxf dxf1 ∧ hw_AD r.toInt i1.toInt i5 dyf dyf1) ∧ (hw_AD r.toInt i1.toInt i2 eaf eaf1 ∧ hw_AD r.toInt i1.toInt i3 hdf hdf1))) ∧ hx_T T_tb u.1 u.2 ∧ hx_S T_tb [(4, 3), (4, 4), (4, 5), (4, 6)] L h u.1 u.2) (hx_E T_tb (P_ty dA) (dC, dI) vwCl (hx_A L sz)) (hx_A L sz)) 0 0 (hx_A L sz) := by
  refine hx_met (lv := [(0, .ref x), (1, .int i1), (2, .int i2), (3, .int i3), (4, .int i4), (5, .int i5)]) (by decide +kernel) rfl (Nat.le_of_ble_eq_true rfl) rfl ?_
  intro p e s m below meth c hx hb hml hr hlk hts0 hown hin hsz hW ls hl
  have hts : ∀ w ∈ hx_all, w.before _ s = true := fun w hw => hts0 w (List.mem_cons_of_mem _ hw)
  have hown : s.vm.findClass "SmallCourt" = some m.cls := hown
  have hM : hx_S T_tb [(4, 3), (4, 4), (4, 5), (4, 6)] L h L h := hx_S.rf
  have b_pn0 := hT.gi gx tt_9 (k := 8) rfl
  rw [f_x_8] at b_pn0
  have b_pn0 : 0 ≤ pn0.toInt ∧ pn0.toInt ≤ 40 := b_pn0
  refine lv_aload_n hx hb dX9_anew_0 rfl (lv_at hl 0 rfl) ?_
  refine lv_iload_n hx hb dX9_anew_1 rfl (lv_at hl 1 rfl) ?_
  have hTo := hT
  refine hx_goq (hx_runV (As := [.int i1]) (rest := []) ⟨hx, hb, hml, hown, hts⟩ hW (gx.S hM) tt_9 (T := TX9) (N := 20) rfl (t_X9_personAt_2 l dC dI dA L h s.heap.size x i1 hT (gx.S hM) pn0 ((hM.o gx trivial rfl).1.trans f_x_8) qp (gqp.S hM) ((hM.o gx trivial rfl).2.trans f_x_7) pf_x_8) (cwV 1 hts (hx_gV kw_659 kw_656 kw_658 kw_20 kw_94) rfl rfl rfl (by decide +kernel) ⟨Nat.le_of_ble_eq_true rfl, Nat.le_of_ble_eq_true rfl⟩) rfl hl.1 rfl (Nat.le_of_ble_eq_true rfl) dX9_anew_2 ⟨Nat.le_of_ble_eq_true rfl, Nat.le_of_ble_eq_true rfl⟩) hW (fun r_3 L_1 h_2 H locs p_4 hW => ?_)
  obtain ⟨hr_5, hT, hs⟩ := p_4
  replace hT : hx_T T_tb L_1 h_2 := hT
  replace hs : hx_S T_tb [] L h L_1 h_2 := hs
  replace pf_x_8 : ∀ j : Nat, (j : Int) < (h_2.2.1 x 8).toInt → h_2.2.2 qp j ≠ none := by
    intro j hj; rw [(hs.o (gx.S hM) trivial rfl).1] at hj; rw [(hs.a (gqp.S hM) rfl j).2]; exact pf_x_8 j hj
  replace cl_qp_7 : hx_col 40 h_2 qp 7 = df := (hx_col_S hs hTo (gqp.S hM) tt_44 tt_4 rfl rfl).trans cl_qp_7
  replace cl_qp_5 : hx_col 40 h_2 qp 5 = dxf := (hx_col_S hs hTo (gqp.S hM) tt_44 tt_4 rfl rfl).trans cl_qp_5
  replace cl_qp_6 : hx_col 40 h_2 qp 6 = dyf := (hx_col_S hs hTo (gqp.S hM) tt_44 tt_4 rfl rfl).trans cl_qp_6
  replace cl_qp_3 : hx_col 40 h_2 qp 3 = eaf := (hx_col_S hs hTo (gqp.S hM) tt_44 tt_4 rfl rfl).trans cl_qp_3
  replace cl_qp_4 : hx_col 40 h_2 qp 4 = hdf := (hx_col_S hs hTo (gqp.S hM) tt_44 tt_4 rfl rfl).trans cl_qp_4
  replace nu_qp : hx_num 40 h_2 qp 0 (pn0.toInt) := hx_num_S hs hTo (gqp.S hM) tt_44 tt_4 rfl rfl nu_qp
  replace hM := hM.tr (hs.mono ?o0)
  case o0 => decide
  obtain ⟨hr_5, hr_5B⟩ := hr_5
  have hr_5 : ∀ q, r_3 = some q → hx_g L_1 h_2 q 4 := hr_5
  rcases r_3 with _ | q_6
  · skip
    have k_7 : i1.toInt < 0 ∨ pn0.toInt ≤ i1.toInt := by
      rcases hr_5B with ⟨_, z⟩ | ⟨_, _, q, z, _⟩
      · exact z
      · cases z
    refine lv_astoreN (lv' := [(6, .null), (0, .ref x), (1, .int i1), (2, .int i2), (3, .int i3), (4, .int i4), (5, .int i5)]) hx hb dX9_anew_5 hl ?o1 rfl (fun ls hl => ?_)
    case o1 => decide
    refine lv_aloadN hx hb dX9_anew_7 (lv_at hl 0 rfl) ?_
    refine lv_ifnullN (tgt := 32) hx hb dX9_anew_9 ?o2 ?_
    case o2 => decide
    refine lv_iconst (v := 0) hx hb dX9_anew_32 ?o3 ?_
    case o3 => decide
    refine hx_retz hx hb hr rfl hlk hW ⟨⟨dxf, dyf, eaf, hdf, cl_qp_5, cl_qp_6, cl_qp_3, cl_qp_4, ⟨⟨(Or.inl ⟨?o4, fun hc => by have := hc.1; omega⟩), (Or.inl ⟨?o5, rfl⟩), (Or.inl ⟨?o6, rfl⟩)⟩, ⟨(Or.inl ⟨?o7, rfl⟩), (Or.inl ⟨?o8, rfl⟩)⟩⟩⟩, hT, hM⟩ dX9_anew_33
    case o4 => decide
    case o5 => decide
    case o6 => decide
    case o7 => decide
    case o8 => decide
  · have gq_6 := hr_5 _ rfl
    have k_8 : 0 ≤ i1.toInt ∧ i1.toInt < pn0.toInt ∧ h_2.2.2 qp i1.toNatClampNeg = some q_6 := by
      rcases hr_5B with ⟨z, _⟩ | ⟨z1, z2, q, z3, z4⟩
      · cases z
      · cases z3; exact ⟨z1, z2, z4⟩
    have fo_9 := k_8.2.2
    have k_8 : 0 ≤ i1.toInt ∧ i1.toInt < pn0.toInt := ⟨k_8.1, k_8.2.1⟩
    refine lv_astore (lv' := [(6, .ref q_6), (0, .ref x), (1, .int i1), (2, .int i2), (3, .int i3), (4, .int i4), (5, .int i5)]) hx hb dX9_anew_5 hl ?o9 rfl (fun ls hl => ?_)
    case o9 => decide
    refine lv_aload hx hb dX9_anew_7 (lv_at hl 0 rfl) ?_
    refine lv_ifnull hx hb dX9_anew_9 ?_
    refine lv_aload hx hb dX9_anew_12 (lv_at hl 0 rfl) ?_
    refine hx_geti hx hb hts hC_4 hown hW hT gq_6 tt_4 7 ?o10 rfl kw_623 ⟨rfl, rfl, rfl⟩ dX9_anew_14 (fun x_10 ex_10 lx_10 ux_10 => ?_)
    case o10 => decide
    have fx_10 := ex_10.symm
    have cx_10 : x_10 = df i1.toNatClampNeg := ?o11
    case o11 =>
      rw [ex_10, ← cl_qp_7]
      exact (hx_col_at fo_9 (by unfold Int32.toNatClampNeg; omega)).symm
    refine hb_if_ne (zx := x_10.toInt) (tgt := 32) hx hb rfl dX9_anew_17 ?o12 (fun c_11 => ?_) (fun c_11 => ?_)
    case o12 => decide
    · skip
      refine lv_iconst (v := 0) hx hb dX9_anew_32 ?o13 ?_
      case o13 => decide
      refine hx_retz hx hb hr rfl hlk hW ⟨⟨dxf, dyf, eaf, hdf, cl_qp_5, cl_qp_6, cl_qp_3, cl_qp_4, ⟨⟨(Or.inl ⟨?o14, fun hc => by have h1 : (df i1.toNatClampNeg).toInt = 0 := hc.2.1; have h2 := hc.2.2; unfold hx_hh at h2; rw [← cx_10] at h1; omega⟩), (Or.inl ⟨?o15, rfl⟩), (Or.inl ⟨?o16, rfl⟩)⟩, ⟨(Or.inl ⟨?o17, rfl⟩), (Or.inl ⟨?o18, rfl⟩)⟩⟩⟩, hT, hM⟩ dX9_anew_33
      case o14 => decide
      case o15 => decide
      case o16 => decide
      case o17 => decide
      case o18 => decide
    · skip
      refine lv_iload_n hx hb dX9_anew_20 rfl (lv_at hl 3 rfl) ?_
      refine lv_iload_n hx hb dX9_anew_21 rfl (lv_at hl 4 rfl) ?_
      refine lv_iload hx hb dX9_anew_22 (lv_at hl 5 rfl) ?_
      refine lv_iload hx hb dX9_anew_24 (lv_at hl 6 rfl) ?_
      have hTo := hT
      refine hx_goi (hx_runS (As := [.int i2, .int i3, .int i4, .int i5]) (rest := []) ⟨hx, hb, hml, hown, hts⟩ hW (t_X9_isHousehold_2 l dC dI dA L_1 h_2 H.size i2 i3 i4 i5 hT) (va_cwS 4 hts (hx_gS kw_604 kw_602 kw_603 kw_94) rfl rfl rfl (by decide +kernel) ⟨Nat.le_of_ble_eq_true rfl, Nat.le_of_ble_eq_true rfl⟩) rfl hl.1 rfl (Nat.le_of_ble_eq_true rfl) dX9_anew_26 ⟨Nat.le_of_ble_eq_true rfl, Nat.le_of_ble_eq_true rfl⟩) hW (fun r_14 L_12 h_13 H locs p_15 hW => ?_)
      obtain ⟨hr_16, hT, hs⟩ := p_15
      replace hT : hx_T T_tb L_12 h_13 := hT
      replace hs : hx_S T_tb [] L_1 h_2 L_12 h_13 := hs
      replace fx_10 := (hs.o gq_6 trivial rfl).1.trans fx_10
      replace pf_x_8 : ∀ j : Nat, (j : Int) < (h_13.2.1 x 8).toInt → h_13.2.2 qp j ≠ none := by
        intro j hj; rw [(hs.o (gx.S hM) trivial rfl).1] at hj; rw [(hs.a (gqp.S hM) rfl j).2]; exact pf_x_8 j hj
      replace cl_qp_7 : hx_col 40 h_13 qp 7 = df := (hx_col_S hs hTo (gqp.S hM) tt_44 tt_4 rfl rfl).trans cl_qp_7
      replace cl_qp_5 : hx_col 40 h_13 qp 5 = dxf := (hx_col_S hs hTo (gqp.S hM) tt_44 tt_4 rfl rfl).trans cl_qp_5
      replace cl_qp_6 : hx_col 40 h_13 qp 6 = dyf := (hx_col_S hs hTo (gqp.S hM) tt_44 tt_4 rfl rfl).trans cl_qp_6
      replace cl_qp_3 : hx_col 40 h_13 qp 3 = eaf := (hx_col_S hs hTo (gqp.S hM) tt_44 tt_4 rfl rfl).trans cl_qp_3
      replace cl_qp_4 : hx_col 40 h_13 qp 4 = hdf := (hx_col_S hs hTo (gqp.S hM) tt_44 tt_4 rfl rfl).trans cl_qp_4
      replace nu_qp : hx_num 40 h_13 qp 0 (pn0.toInt) := hx_num_S hs hTo (gqp.S hM) tt_44 tt_4 rfl rfl nu_qp
      replace fo_9 := (hs.a (gqp.S hM) rfl _).2.trans fo_9
      replace hM := hM.tr (hs.mono ?o19)
      case o19 => decide
      replace gq_6 := gq_6.S hs
      refine hb_if_ne (zx := r_14.toInt) (tgt := 34) hx hb rfl dX9_anew_29 ?o20 (fun c_17 => ?_) (fun c_17 => ?_)
      case o20 => decide
      · skip
        refine lv_aload hx hb dX9_anew_34 (lv_at hl 0 rfl) ?_
        refine lv_iload_n hx hb dX9_anew_36 rfl (lv_at hl 3 rfl) ?_
        refine lv_iload_n hx hb dX9_anew_37 rfl (lv_at hl 4 rfl) ?_
        refine lv_iload hx hb dX9_anew_38 (lv_at hl 5 rfl) ?_
        refine lv_iload hx hb dX9_anew_40 (lv_at hl 6 rfl) ?_
        have fo_9O9 := fo_9
        have nu_qpO9 := nu_qp
        have gqpShMO9 := (gqp.S hM)
        have cl_qp_5O9 := cl_qp_5
        have cl_qp_6O9 := cl_qp_6
        have cl_qp_3O9 := cl_qp_3
        have cl_qp_4O9 := cl_qp_4
        have hTo := hT
        refine hx_gov (hx_runV (As := [.int i2, .int i3, .int i4, .int i5]) (rest := []) ⟨hx, hb, hml, hown, hts⟩ hW gq_6 tt_4 (T := TX4) (N := 10) rfl (t_X4_tell_2 l dC dI dA L_12 h_13 H.size q_6 i2 i3 i4 i5 hT gq_6) (cwV 4 hts (hx_gV kw_651 kw_648 kw_649 kw_650 kw_108) rfl rfl rfl (by decide +kernel) ⟨Nat.le_of_ble_eq_true rfl, Nat.le_of_ble_eq_true rfl⟩) rfl hl.1 rfl (Nat.le_of_ble_eq_true rfl) dX9_anew_42 ⟨Nat.le_of_ble_eq_true rfl, Nat.le_of_ble_eq_true rfl⟩) hW (fun L_18 h_19 H locs p_21 hW => ?_)
        obtain ⟨⟨w_23, w_24, w_25, w_26, fw_23, fw_24, fw_25, fw_26, hr_22⟩, hT, hs⟩ := p_21
        replace hT : hx_T T_tb L_18 h_19 := hT
        replace hs : hx_S T_tb [(4, 3), (4, 4), (4, 5), (4, 6)] L_12 h_13 L_18 h_19 := hs
        replace fx_10 := (hs.o gq_6 trivial rfl).1.trans fx_10
        replace pf_x_8 : ∀ j : Nat, (j : Int) < (h_19.2.1 x 8).toInt → h_19.2.2 qp j ≠ none := by
          intro j hj; rw [(hs.o (gx.S hM) trivial rfl).1] at hj; rw [(hs.a (gqp.S hM) rfl j).2]; exact pf_x_8 j hj
        replace cl_qp_7 : hx_col 40 h_19 qp 7 = df := (hx_col_S hs hTo (gqp.S hM) tt_44 tt_4 rfl rfl).trans cl_qp_7
        replace nu_qp : hx_num 40 h_19 qp 0 (pn0.toInt) := hx_num_S hs hTo (gqp.S hM) tt_44 tt_4 rfl rfl nu_qp
        replace fo_9 := (hs.a (gqp.S hM) rfl _).2.trans fo_9
        replace hM := hM.tr (hs.mono ?o21)
        case o21 => decide
        replace gq_6 := gq_6.S hs
        have fw_23 : h_19.2.1 q_6 5 = w_23 := fw_23
        have bw_23 := hT.gi gq_6 tt_4 (k := 5) rfl
        rw [fw_23] at bw_23
        have bw_23 : -2147483648 ≤ w_23.toInt ∧ w_23.toInt ≤ 2147483647 := bw_23
        have fw_24 : h_19.2.1 q_6 6 = w_24 := fw_24
        have bw_24 := hT.gi gq_6 tt_4 (k := 6) rfl
        rw [fw_24] at bw_24
        have bw_24 : -2147483648 ≤ w_24.toInt ∧ w_24.toInt ≤ 2147483647 := bw_24
        have fw_25 : h_19.2.1 q_6 3 = w_25 := fw_25
        have bw_25 := hT.gi gq_6 tt_4 (k := 3) rfl
        rw [fw_25] at bw_25
        have bw_25 : -2147483648 ≤ w_25.toInt ∧ w_25.toInt ≤ 2147483647 := bw_25
        have fw_26 : h_19.2.1 q_6 4 = w_26 := fw_26
        have bw_26 := hT.gi gq_6 tt_4 (k := 4) rfl
        rw [fw_26] at bw_26
        have bw_26 : -2147483648 ≤ w_26.toInt ∧ w_26.toInt ≤ 2147483647 := bw_26
        obtain ⟨hr_22a, hr_22b⟩ := hr_22
        have tlr := fun j => (hs.a gqpShMO9 rfl j).2
        obtain ⟨fc_28, dfc_28⟩ : ∃ g : Nat → Int32, g = hx_up dxf i1.toNatClampNeg i4 := ⟨_, rfl⟩
        have nc_27 : hx_col 40 h_19 qp 5 = fc_28 := ?o22
        case o22 =>
          rw [dfc_28, ← hr_22a.1]
          exact hw_col_u hr_22a.2.2 tlr nu_qpO9 fo_9O9 (by unfold Int32.toNatClampNeg; omega) fw_23 cl_qp_5O9
        obtain ⟨fc_30, dfc_30⟩ : ∃ g : Nat → Int32, g = hx_up dyf i1.toNatClampNeg i5 := ⟨_, rfl⟩
        have nc_29 : hx_col 40 h_19 qp 6 = fc_30 := ?o23
        case o23 =>
          rw [dfc_30, ← hr_22a.2.1]
          exact hw_col_u hr_22a.2.2 tlr nu_qpO9 fo_9O9 (by unfold Int32.toNatClampNeg; omega) fw_24 cl_qp_6O9
        obtain ⟨fc_32, dfc_32⟩ : ∃ g : Nat → Int32, g = hx_up eaf i1.toNatClampNeg i2 := ⟨_, rfl⟩
        have nc_31 : hx_col 40 h_19 qp 3 = fc_32 := ?o24
        case o24 =>
          rw [dfc_32, ← hr_22b.1]
          exact hw_col_u hr_22a.2.2 tlr nu_qpO9 fo_9O9 (by unfold Int32.toNatClampNeg; omega) fw_25 cl_qp_3O9
        obtain ⟨fc_34, dfc_34⟩ : ∃ g : Nat → Int32, g = hx_up hdf i1.toNatClampNeg i3 := ⟨_, rfl⟩
        have nc_33 : hx_col 40 h_19 qp 4 = fc_34 := ?o25
        case o25 =>
          rw [dfc_34, ← hr_22b.2]
          exact hw_col_u hr_22a.2.2 tlr nu_qpO9 fo_9O9 (by unfold Int32.toNatClampNeg; omega) fw_26 cl_qp_4O9
        have tlx := hr_22a.1; have tly := hr_22a.2.1; have tle := hr_22b.1; have tlh := hr_22b.2
        rw [tlx] at fw_23
        rw [tly] at fw_24
        rw [tle] at fw_25
        rw [tlh] at fw_26
        refine lv_iconst (v := 1) hx hb dX9_anew_45 ?o26 ?_
        case o26 => decide
        refine hx_retz hx hb hr rfl hlk hW ⟨⟨fc_28, fc_30, fc_32, fc_34, nc_27, nc_29, nc_31, nc_33, ⟨⟨(Or.inr ⟨?o27, ⟨?o28, ?o29⟩, (by show (df i1.toNatClampNeg).toInt = 0; rw [← cx_10]; omega), by unfold hx_hh; omega⟩), (Or.inr ⟨?o30, dfc_28⟩), (Or.inr ⟨?o31, dfc_30⟩)⟩, ⟨(Or.inr ⟨?o32, dfc_32⟩), (Or.inr ⟨?o33, dfc_34⟩)⟩⟩⟩, hT, hM⟩ dX9_anew_46
        case o27 => decide
        case o28 => omega
        case o29 => omega
        case o30 => decide
        case o31 => decide
        case o32 => decide
        case o33 => decide
      · skip
        refine lv_iconst (v := 0) hx hb dX9_anew_32 ?o34 ?_
        case o34 => decide
        refine hx_retz hx hb hr rfl hlk hW ⟨⟨dxf, dyf, eaf, hdf, cl_qp_5, cl_qp_6, cl_qp_3, cl_qp_4, ⟨⟨(Or.inl ⟨?o35, fun hc => by have h1 : (df i1.toNatClampNeg).toInt = 0 := hc.2.1; have h2 := hc.2.2; unfold hx_hh at h2; rw [← cx_10] at h1; omega⟩), (Or.inl ⟨?o36, rfl⟩), (Or.inl ⟨?o37, rfl⟩)⟩, ⟨(Or.inl ⟨?o38, rfl⟩), (Or.inl ⟨?o39, rfl⟩)⟩⟩⟩, hT, hM⟩ dX9_anew_33
        case o35 => decide
        case o36 => decide
        case o37 => decide
        case o38 => decide
        case o39 => decide


set_option maxHeartbeats 4000000 in
set_option maxRecDepth 100000 in
theorem t_X9_summons_2 (l : Launch) (dC : Nat → ClassId) (dI : Nat → Nat → Nat) (dA : Nat → ClassId) (L : List Nat) (h : hx_h) (sz : Nat) (x : Nat) (i1 : Int32) (i2 : Int32) (hT : hx_T T_tb L h) (gx : hx_g L h x 9) (cn0 : Int32) (f_x_11 : h.2.1 x 11 = cn0) (nw0 : Int32) (f_x_2 : h.2.1 x 2 = nw0) (qc : Nat) (gqc : hx_g L h qc 45) (f_x_10 : h.2.2 x 10 = some qc) (pf_x_11 : ∀ j : Nat, (j : Int) < (h.2.1 x 11).toInt → h.2.2 qc j ≠ none) (ff : Nat → Int32) (cl_qc_10 : hx_col 100 h qc 10 = ff) (tf : Nat → Int32) (cl_qc_9 : hx_col 100 h qc 9 = tf) (nu_qc : hx_num 100 h qc 0 (cn0.toInt)) : Met l yX9_summons (Cond.code yX9_summons cX9_summons 4 (some .int) :: hx_all) ({ frames := 1, cells := 0, slots := 0, locals := 21 }) (va_Pc [.ref x, .int i1, .int i2] (hx_B T_tb (P_ty dA) (dC, dI) vwCl L h sz)) (va_Qi (fun (r : Int32) (u : List Nat × hx_h) => (∃ (ff1 : Nat → Int32) (tf1 : Nat → Int32), hx_col 100 u.2 qc 10 = ff1 ∧ hx_col 100 u.2 qc 9 = tf1 ∧ (hx_SS cn0.toInt i1.toInt i2 nw0 r ff ff1 tf tf1)) ∧ hx_T T_tb u.1 u.2 ∧ hx_S T_tb [(2, 9), (2, 10)] L h u.1 u.2) (hx_E T_tb (P_ty dA) (dC, dI) vwCl (hx_A L sz)) (hx_A L sz)) 0 0 (hx_A L sz) := by
  refine hx_met (lv := [(0, .ref x), (1, .int i1), (2, .int i2)]) (by decide +kernel) rfl (Nat.le_of_ble_eq_true rfl) rfl ?_
  intro p e s m below meth c hx hb hml hr hlk hts0 hown hin hsz hW ls hl
  have hts : ∀ w ∈ hx_all, w.before _ s = true := fun w hw => hts0 w (List.mem_cons_of_mem _ hw)
  have hown : s.vm.findClass "SmallCourt" = some m.cls := hown
  have hM : hx_S T_tb [(2, 9), (2, 10)] L h L h := hx_S.rf
  have b_cn0 := hT.gi gx tt_9 (k := 11) rfl
  rw [f_x_11] at b_cn0
  have b_cn0 : 0 ≤ cn0.toInt ∧ cn0.toInt ≤ 100 := b_cn0
  have b_nw0 := hT.gi gx tt_9 (k := 2) rfl
  rw [f_x_2] at b_nw0
  have b_nw0 : 0 ≤ nw0.toInt ∧ nw0.toInt ≤ 7999 := b_nw0
  refine lv_aload_n hx hb dX9_summons_0 rfl (lv_at hl 0 rfl) ?_
  refine lv_iload_n hx hb dX9_summons_1 rfl (lv_at hl 1 rfl) ?_
  have hTo := hT
  refine hx_goq (hx_runV (As := [.int i1]) (rest := []) ⟨hx, hb, hml, hown, hts⟩ hW (gx.S hM) tt_9 (T := TX9) (N := 20) rfl (t_X9_claimAt_2 l dC dI dA L h s.heap.size x i1 hT (gx.S hM) cn0 ((hM.o gx trivial rfl).1.trans f_x_11) qc (gqc.S hM) ((hM.o gx trivial rfl).2.trans f_x_10) pf_x_11) (cwV 1 hts (hx_gV kw_810 kw_807 kw_809 kw_25 kw_94) rfl rfl rfl (by decide +kernel) ⟨Nat.le_of_ble_eq_true rfl, Nat.le_of_ble_eq_true rfl⟩) rfl hl.1 rfl (Nat.le_of_ble_eq_true rfl) dX9_summons_2 ⟨Nat.le_of_ble_eq_true rfl, Nat.le_of_ble_eq_true rfl⟩) hW (fun r_3 L_1 h_2 H locs p_4 hW => ?_)
  obtain ⟨hr_5, hT, hs⟩ := p_4
  replace hT : hx_T T_tb L_1 h_2 := hT
  replace hs : hx_S T_tb [] L h L_1 h_2 := hs
  replace pf_x_11 : ∀ j : Nat, (j : Int) < (h_2.2.1 x 11).toInt → h_2.2.2 qc j ≠ none := by
    intro j hj; rw [(hs.o (gx.S hM) trivial rfl).1] at hj; rw [(hs.a (gqc.S hM) rfl j).2]; exact pf_x_11 j hj
  replace cl_qc_10 : hx_col 100 h_2 qc 10 = ff := (hx_col_S hs hTo (gqc.S hM) tt_45 tt_2 rfl rfl).trans cl_qc_10
  replace cl_qc_9 : hx_col 100 h_2 qc 9 = tf := (hx_col_S hs hTo (gqc.S hM) tt_45 tt_2 rfl rfl).trans cl_qc_9
  replace nu_qc : hx_num 100 h_2 qc 0 (cn0.toInt) := hx_num_S hs hTo (gqc.S hM) tt_45 tt_2 rfl rfl nu_qc
  replace hM := hM.tr (hs.mono ?o0)
  case o0 => decide
  obtain ⟨hr_5, hr_5B⟩ := hr_5
  have hr_5 : ∀ q, r_3 = some q → hx_g L_1 h_2 q 2 := hr_5
  rcases r_3 with _ | q_6
  · skip
    have k_7 : i1.toInt < 0 ∨ cn0.toInt ≤ i1.toInt := by
      rcases hr_5B with ⟨_, z⟩ | ⟨_, _, q, z, _⟩
      · exact z
      · cases z
    refine lv_astore_nN (lv' := [(3, .null), (0, .ref x), (1, .int i1), (2, .int i2)]) hx hb dX9_summons_5 rfl hl ?o1 rfl (fun ls hl => ?_)
    case o1 => decide
    refine lv_aload_nN hx hb dX9_summons_6 rfl (lv_at hl 0 rfl) ?_
    refine lv_ifnullN (tgt := 18) hx hb dX9_summons_7 ?o2 ?_
    case o2 => decide
    refine lv_iconst (v := -1) hx hb dX9_summons_18 ?o3 ?_
    case o3 => decide
    exact hx_reti hx hb hr hlk hW ⟨⟨ff, tf, cl_qc_10, cl_qc_9, (Or.inl ⟨rfl, rfl, rfl, fun hc => by have := hc.1; have := hc.2.1; omega⟩)⟩, hT, hM⟩ dX9_summons_19
  · have gq_6 := hr_5 _ rfl
    have k_8 : 0 ≤ i1.toInt ∧ i1.toInt < cn0.toInt ∧ h_2.2.2 qc i1.toNatClampNeg = some q_6 := by
      rcases hr_5B with ⟨z, _⟩ | ⟨z1, z2, q, z3, z4⟩
      · cases z
      · cases z3; exact ⟨z1, z2, z4⟩
    have fo_9 := k_8.2.2
    have k_8 : 0 ≤ i1.toInt ∧ i1.toInt < cn0.toInt := ⟨k_8.1, k_8.2.1⟩
    refine lv_astore_n (lv' := [(3, .ref q_6), (0, .ref x), (1, .int i1), (2, .int i2)]) hx hb dX9_summons_5 rfl hl ?o4 rfl (fun ls hl => ?_)
    case o4 => decide
    refine lv_aload_n hx hb dX9_summons_6 rfl (lv_at hl 0 rfl) ?_
    refine lv_ifnull hx hb dX9_summons_7 ?_
    refine lv_aload_n hx hb dX9_summons_10 rfl (lv_at hl 0 rfl) ?_
    refine hx_geti hx hb hts hC_2 hown hW hT gq_6 tt_2 10 ?o5 rfl kw_747 ⟨rfl, rfl, rfl⟩ dX9_summons_11 (fun x_10 ex_10 lx_10 ux_10 => ?_)
    case o5 => decide
    have fx_10 := ex_10.symm
    have cx_10 : x_10 = ff i1.toNatClampNeg := ?o6
    case o6 =>
      rw [ex_10, ← cl_qc_10]
      exact (hx_col_at fo_9 (by unfold Int32.toNatClampNeg; omega)).symm
    refine lv_iconst (v := -1) hx hb dX9_summons_14 ?o7 ?_
    case o7 => decide
    refine hb_icmp_eq (zx := x_10.toInt) (zy := (-1)) (tgt := 20) hx hb rfl ?o8 dX9_summons_15 ?o9 (fun c_11 => ?_) (fun c_11 => ?_)
    case o8 => decide
    case o9 => decide
    · skip
      refine lv_aload_n hx hb dX9_summons_20 rfl (lv_at hl 0 rfl) ?_
      refine lv_dup hx hb dX9_summons_21 rfl ?_
      refine hx_geti hx hb hts hC_2 hown hW hT gq_6 tt_2 9 ?o10 rfl kw_745 ⟨rfl, rfl, rfl⟩ dX9_summons_22 (fun x_12 ex_12 lx_12 ux_12 => ?_)
      case o10 => decide
      have fx_12 := ex_12.symm
      have cx_12 : x_12 = tf i1.toNatClampNeg := ?o11
      case o11 =>
        rw [ex_12, ← cl_qc_9]
        exact (hx_col_at fo_9 (by unfold Int32.toNatClampNeg; omega)).symm
      refine lv_iconst (v := 1) hx hb dX9_summons_25 ?o12 ?_
      case o12 => decide
      refine lv_iadd hx hb dX9_summons_26 ?_
      have rg_13 := i32_r x_12
      refine lv_topi (fun x_14 ex_14 => ?_)
      have hTo := hT
      have cl_qc_9O := cl_qc_9
      have nu_qcO := nu_qc
      have fo_9O := fo_9
      refine hx_puti hx hb hts hC_2 hown hW hT (hx_S.rf (M := [(2, 9)])) gq_6 tt_2 9 ?o13 rfl kw_745 ⟨rfl, rfl, rfl⟩ rfl (x := x_14) (i32_r _) rfl rfl rfl (List.mem_singleton.mpr rfl) dX9_summons_27 (fun H locs h_15 eh_15 hW hT hs => ?_)
      case o13 => decide
      replace fx_10 := (hs.o gq_6 trivial rfl).1.trans fx_10
      replace pf_x_11 : ∀ j : Nat, (j : Int) < (h_15.2.1 x 11).toInt → h_15.2.2 qc j ≠ none := by
        intro j hj; rw [(hs.o (gx.S hM) trivial rfl).1] at hj; rw [(hs.a (gqc.S hM) rfl j).2]; exact pf_x_11 j hj
      replace cl_qc_10 : hx_col 100 h_15 qc 10 = ff := (hx_col_S hs hTo (gqc.S hM) tt_45 tt_2 rfl rfl).trans cl_qc_10
      replace nu_qc : hx_num 100 h_15 qc 0 (cn0.toInt) := hx_num_S hs hTo (gqc.S hM) tt_45 tt_2 rfl rfl nu_qc
      replace fo_9 := (hs.a (gqc.S hM) rfl _).2.trans fo_9
      replace hM := hM.tr (hs.mono ?o14)
      case o14 => decide
      replace gq_6 := gq_6.S hs
      have f_16 : h_15.2.1 q_6 9 = x_14 := ?o15
      case o15 =>
        rw [eh_15]
        exact hx_pi_at _ _ _ _
      obtain ⟨fc_17, dfc_17⟩ : ∃ g : Nat → Int32, g = hx_up tf i1.toNatClampNeg x_14 := ⟨_, rfl⟩
      have nfc_17 : hx_col 100 h_15 qc 9 = fc_17 := ?o16
      case o16 =>
        rw [dfc_17, ← cl_qc_9O]
        exact hx_col_pi nu_qcO fo_9O (by unfold Int32.toNatClampNeg; omega) eh_15
      refine lv_iload_n hx hb dX9_summons_30 rfl (lv_at hl 3 rfl) ?_
      refine hb_if_eq (zx := i2.toInt) (tgt := 42) hx hb rfl dX9_summons_31 ?o17 (fun c_18 => ?_) (fun c_18 => ?_)
      case o17 => decide
      · skip
        refine lv_aload_n hx hb dX9_summons_42 rfl (lv_at hl 0 rfl) ?_
        refine hk_geti hx hb hts hC_2 hown hW gq_6 tt_2 9 ?o18 rfl kw_745 ⟨rfl, rfl, rfl⟩ f_16 dX9_summons_43 ?_
        case o18 => decide
        refine hx_reti hx hb hr hlk hW ⟨⟨ff, fc_17, cl_qc_10, nfc_17, (Or.inr ⟨⟨?o19, ?o20, (by show (ff i1.toNatClampNeg).toInt = -1; rw [← cx_10]; omega)⟩, (by rw [ex_14, cx_12]; rfl), (by rw [dfc_17, ex_14, cx_12]; rfl), (Or.inl ⟨?o21, rfl⟩)⟩)⟩, hT, hM⟩ dX9_summons_46
        case o19 => omega
        case o20 => omega
        case o21 => omega
      · skip
        refine lv_aload_n hx hb dX9_summons_34 rfl (lv_at hl 0 rfl) ?_
        refine lv_aload_n hx hb dX9_summons_35 rfl (lv_at hl 1 rfl) ?_
        refine hk_geti hx hb hts hC_9 hown hW (gx.S hM) tt_9 2 ?o22 rfl kw_366 ⟨rfl, rfl, rfl⟩ ((hM.o gx trivial rfl).1.trans f_x_2) dX9_summons_36 ?_
        case o22 => decide
        have hTo := hT
        have cl_qc_10O := cl_qc_10
        have nu_qcO := nu_qc
        have fo_9O := fo_9
        refine hx_puti hx hb hts hC_2 hown hW hT (hx_S.rf (M := [(2, 10)])) gq_6 tt_2 10 ?o23 rfl kw_747 ⟨rfl, rfl, rfl⟩ rfl (x := nw0) ⟨?o24, ?o25⟩ rfl rfl rfl (List.mem_singleton.mpr rfl) dX9_summons_39 (fun H locs h_19 eh_19 hW hT hs => ?_)
        case o23 => decide
        case o24 => omega
        case o25 => omega
        replace f_16 := (hs.o gq_6 trivial rfl).1.trans f_16
        replace pf_x_11 : ∀ j : Nat, (j : Int) < (h_19.2.1 x 11).toInt → h_19.2.2 qc j ≠ none := by
          intro j hj; rw [(hs.o (gx.S hM) trivial rfl).1] at hj; rw [(hs.a (gqc.S hM) rfl j).2]; exact pf_x_11 j hj
        replace nfc_17 : hx_col 100 h_19 qc 9 = fc_17 := (hx_col_S hs hTo (gqc.S hM) tt_45 tt_2 rfl rfl).trans nfc_17
        replace nu_qc : hx_num 100 h_19 qc 0 (cn0.toInt) := hx_num_S hs hTo (gqc.S hM) tt_45 tt_2 rfl rfl nu_qc
        replace fo_9 := (hs.a (gqc.S hM) rfl _).2.trans fo_9
        replace hM := hM.tr (hs.mono ?o26)
        case o26 => decide
        replace gq_6 := gq_6.S hs
        have f_20 : h_19.2.1 q_6 10 = nw0 := ?o27
        case o27 =>
          rw [eh_19]
          exact hx_pi_at _ _ _ _
        obtain ⟨fc_21, dfc_21⟩ : ∃ g : Nat → Int32, g = hx_up ff i1.toNatClampNeg nw0 := ⟨_, rfl⟩
        have nfc_21 : hx_col 100 h_19 qc 10 = fc_21 := ?o28
        case o28 =>
          rw [dfc_21, ← cl_qc_10O]
          exact hx_col_pi nu_qcO fo_9O (by unfold Int32.toNatClampNeg; omega) eh_19
        refine lv_aload_n hx hb dX9_summons_42 rfl (lv_at hl 0 rfl) ?_
        refine hk_geti hx hb hts hC_2 hown hW gq_6 tt_2 9 ?o29 rfl kw_745 ⟨rfl, rfl, rfl⟩ f_16 dX9_summons_43 ?_
        case o29 => decide
        refine hx_reti hx hb hr hlk hW ⟨⟨fc_21, fc_17, nfc_21, nfc_17, (Or.inr ⟨⟨?o30, ?o31, (by show (ff i1.toNatClampNeg).toInt = -1; rw [← cx_10]; omega)⟩, (by rw [ex_14, cx_12]; rfl), (by rw [dfc_17, ex_14, cx_12]; rfl), (Or.inr ⟨?o32, dfc_21⟩)⟩)⟩, hT, hM⟩ dX9_summons_46
        case o30 => omega
        case o31 => omega
        case o32 => omega
    · skip
      refine lv_iconst (v := -1) hx hb dX9_summons_18 ?o33 ?_
      case o33 => decide
      exact hx_reti hx hb hr hlk hW ⟨⟨ff, tf, cl_qc_10, cl_qc_9, (Or.inl ⟨rfl, rfl, rfl, fun hc => by have h1 : (ff i1.toNatClampNeg).toInt = -1 := hc.2.2; rw [← cx_10] at h1; omega⟩)⟩, hT, hM⟩ dX9_summons_19


set_option maxHeartbeats 4000000 in
set_option maxRecDepth 100000 in
theorem t_X8_isListed_2 (l : Launch) (dC : Nat → ClassId) (dI : Nat → Nat → Nat) (dA : Nat → ClassId) (L : List Nat) (h : hx_h) (sz : Nat) (x : Nat) (v1 : Nat) (hT : hx_T T_tb L h) (gx : hx_g L h x 8) (gv1 : hx_g L h v1 2) (ql : Nat) (gql : hx_g L h ql 40) (f_x_3 : h.2.2 x 3 = some ql)  (cn : Int32) (f_x_0 : h.2.1 x 0 = cn) (vn : Int32) (f_v1_0 : h.2.1 v1 0 = vn) (lf : Nat → Int32) (cl_ql_0 : hx_col 8 h ql 0 = lf) (hU : ∀ k p : Nat, k < 8 → h.2.2 ql k = some p → lf k = vn → p = v1) (pf_x_0 : ∀ j : Nat, (j : Int) < (h.2.1 x 0).toInt → h.2.2 ql j ≠ none) : Met l yX8_isListed (Cond.code yX8_isListed cX8_isListed 3 (some .boolean) :: hx_all) ({ frames := 0, cells := 0, slots := 0, locals := 0 }) (va_Pc [.ref x, .ref v1] (hx_B T_tb (P_ty dA) (dC, dI) vwCl L h sz)) (va_Qi (fun (r : Int32) (u : List Nat × hx_h) => ((r.toInt = 1 ∧ hx_isin lf cn.toInt vn) ∨ (r.toInt = 0 ∧ ¬ hx_isin lf cn.toInt vn)) ∧ hx_T T_tb u.1 u.2 ∧ hx_S T_tb [] L h u.1 u.2) (hx_E T_tb (P_ty dA) (dC, dI) vwCl (hx_A L sz)) (hx_A L sz)) 0 0 (hx_A L sz) := by
  refine hx_met (lv := [(0, .ref x), (1, .ref v1)]) (by decide +kernel) rfl (Nat.le_of_ble_eq_true rfl) rfl ?_
  intro p e s m below meth c hx hb hml hr hlk hts0 hown hin hsz hW ls hl
  have hts : ∀ w ∈ hx_all, w.before _ s = true := fun w hw => hts0 w (List.mem_cons_of_mem _ hw)
  have hown : s.vm.findClass "SmallCourt$Walk" = some m.cls := hown
  have hM : hx_S T_tb [] L h L h := hx_S.rf
  have b_cn := hT.gi gx tt_8 (k := 0) rfl
  rw [f_x_0] at b_cn
  have b_cn : 0 ≤ cn.toInt ∧ cn.toInt ≤ 8 := b_cn
  have b_vn := hT.gi gv1 tt_2 (k := 0) rfl
  rw [f_v1_0] at b_vn
  have b_vn : 0 ≤ vn.toInt ∧ vn.toInt ≤ 99 := b_vn
  have gqlO := gql
  have clO := cl_ql_0
  have fvO := f_v1_0
  refine lv_iconst (v := 0) hx hb dX8_isListed_0 ?o0 ?_
  case o0 => decide
  refine lv_istore_n (lv' := [(2, .int (0 : Int32)), (0, .ref x), (1, .ref v1)]) hx hb dX8_isListed_1 rfl hl ?o1 rfl (fun ls hl => ?_)
  case o1 => decide
  have loop2 : ∀ (n2 : Nat) (iv2_2 : Int32) (H : Heap) (locs : List Loc) (hL1 : List Nat) (hl1 : hx_h), 0 ≤ iv2_2.toInt → iv2_2.toInt ≤ 8 → (∀ k : Nat, (k : Int) < iv2_2.toInt → lf k ≠ vn) → ∀ (ls : Array Slot), 8 - iv2_2.toInt < (n2 : Int) → hx_W T_tb (P_ty dA) (dC, dI) vwCl (hx_A L sz) s.heap hL1 hl1 s H locs → hx_T T_tb hL1 hl1 → hx_S T_tb [] L h hL1 hl1 → (∀ j : Nat, (j : Int) < (hl1.2.1 x 0).toInt → hl1.2.2 ql j ≠ none) → hx_col 8 hl1 ql 0 = lf → lv_has ls 3 [(2, .int iv2_2), (0, .ref x), (1, .ref v1)] → W p l e ({ frames := 0, cells := 0, slots := 0, locals := 0 }) s m ([.ref x, .ref v1] : List Value).toArray below meth c H locs 0 0 (MQ below (va_Qi (fun (r : Int32) (u : List Nat × hx_h) => ((r.toInt = 1 ∧ hx_isin lf cn.toInt vn) ∨ (r.toInt = 0 ∧ ¬ hx_isin lf cn.toInt vn)) ∧ hx_T T_tb u.1 u.2 ∧ hx_S T_tb [] L h u.1 u.2) (hx_E T_tb (P_ty dA) (dC, dI) vwCl (hx_A L sz)) (hx_A L sz)) ([.ref x, .ref v1] : List Value).toArray s 0 0 (hx_A L sz)) (F0 m 2 ls []) := by
    intro n2
    induction n2 with
    | zero => intro iv2_2 H locs hL1 hl1 bliv2_2 buiv2_2 vi2_0 ls hn2; exfalso; omega
    | succ n2 ih2 =>
      intro iv2_2 H locs hL1 hl1 bliv2_2 buiv2_2 vi2_0 ls hn2 hW hT hM  pf_x_0 cl_ql_0 hl
      refine lv_iload_n hx hb dX8_isListed_2 rfl (lv_at hl 0 rfl) ?_
      refine lv_aload_n hx hb dX8_isListed_3 rfl (lv_at hl 1 rfl) ?_
      refine hk_geti hx hb hts hC_8 hown hW (gx.S hM) tt_8 0 ?o2 rfl kw_345 ⟨rfl, rfl, rfl⟩ ((hM.o gx trivial rfl).1.trans f_x_0) dX8_isListed_4 ?_
      case o2 => decide
      refine hb_icmp_ge (zx := iv2_2.toInt) (zy := cn.toInt) (tgt := 28) hx hb rfl rfl dX8_isListed_7 ?o3 (fun c_1 => ?_) (fun c_1 => ?_)
      case o3 => decide
      · skip
        refine lv_iconst (v := 0) hx hb dX8_isListed_28 ?o4 ?_
        case o4 => decide
        refine hx_retz hx hb hr rfl hlk hW ⟨(Or.inr ⟨?o5, fun hc => by obtain ⟨k, hk, ek⟩ := hc; exact vi2_0 k (by omega) ek⟩), hT, hM⟩ dX8_isListed_29
        case o5 => decide
      · skip
        refine lv_aload_n hx hb dX8_isListed_10 rfl (lv_at hl 1 rfl) ?_
        refine hk_getr hx hb hts hC_8 hown hW (gx.S hM) tt_8 3 ?o6 rfl kw_351 ⟨rfl, rfl, rfl⟩ ((hM.o gx trivial rfl).2.trans f_x_3) dX8_isListed_11 ?_
        case o6 => decide
        refine lv_iload_n hx hb dX8_isListed_14 rfl (lv_at hl 0 rfl) ?_
        refine hx_aaldN hx hb hW hT (gql.S hM) tt_40 (t1 := 2) rfl ⟨?o7, ?o8⟩ (pf_x_0 _ (by rw [((hM.o gx trivial rfl).1.trans f_x_0)]; exact hx_tnI (by omega) (by omega))) dX8_isListed_15 (fun q_2 fq_2 gq_2 => ?_)
        case o7 => omega
        case o8 => omega
        refine lv_aload_n hx hb dX8_isListed_16 rfl (lv_at hl 2 rfl) ?_
        refine lv_acmp_ne (rx := (some q_2)) (ry := (some v1)) (tgt := 22) hx hb dX8_isListed_17 ?o9 (fun c_3 => ?_) (fun c_3 => ?_)
        case o9 => decide
        · skip
          have hne : lf iv2_2.toInt.toNat ≠ vn := fun e => c_3 (congrArg some (hU _ _ (by unfold Int32.toNatClampNeg; omega) (((hM.a gqlO rfl _).2).symm.trans fq_2) e))
          obtain ⟨x_4, ex_4⟩ : ∃ y : Int32, y = iv2_2 + Int32.ofInt 1 := ⟨_, rfl⟩
          have rg_5 := i32_r iv2_2
          have zx_4 : x_4.toInt = iv2_2.toInt + (1) := ?o10
          case o10 =>
            rw [ex_4]
            refine i32_add rfl ?o11 ?o12 ?o13
            case o11 => decide
            case o12 => omega
            case o13 => omega
          refine lv_iinc (v := x_4) (lv' := [(2, .int x_4), (0, .ref x), (1, .ref v1)]) hx hb dX8_isListed_22 hl (k := 0) rfl ex_4.symm ?o14 rfl (fun ls hl => ?_)
          case o14 => decide
          refine lv_goto (tgt := 2) hx hb dX8_isListed_25 ?o15 ?_
          case o15 => decide
          refine ih2 x_4 _ _ hL1 hl1 ?o16 ?o17 (hx_nin_s vi2_0 ?o18 hne zx_4) ls ?o19 hW hT hM  pf_x_0 cl_ql_0 (lv_sub hl [0, 1, 2] rfl)
          case o16 => omega
          case o17 => omega
          case o18 => omega
          case o19 => omega
        · skip
          refine lv_iconst (v := 1) hx hb dX8_isListed_20 ?o20 ?_
          case o20 => decide
          refine hx_retz hx hb hr rfl hlk hW ⟨(Or.inl ⟨?o21, iv2_2.toNatClampNeg, (by unfold Int32.toNatClampNeg; omega), by rw [← clO, hx_col_at (((hM.a gqlO rfl _).2).symm.trans fq_2) (by unfold Int32.toNatClampNeg; omega), Option.some.inj c_3]; exact fvO⟩), hT, hM⟩ dX8_isListed_21
          case o21 => decide
  have zk_0 : (0 : Int32).toInt = 0 := ?o22
  case o22 => decide
  refine loop2 9 (0 : Int32) _ _ L h ?o23 ?o24 (fun k hk => ?o25) ls ?o26 hW hT hM  pf_x_0 cl_ql_0 hl
  case o23 => decide
  case o24 => decide
  case o25 =>
    exfalso
    omega
  case o26 => omega


set_option maxHeartbeats 4000000 in
set_option maxRecDepth 100000 in
theorem t_X8_putOnList_2 (l : Launch) (dC : Nat → ClassId) (dI : Nat → Nat → Nat) (dA : Nat → ClassId) (L : List Nat) (h : hx_h) (sz : Nat) (x : Nat) (v1 : Nat) (hT : hx_T T_tb L h) (gx : hx_g L h x 8) (gv1 : hx_g L h v1 2) (ql : Nat) (gql : hx_g L h ql 40) (f_x_3 : h.2.2 x 3 = some ql)  (cn : Int32) (f_x_0 : h.2.1 x 0 = cn) (vn : Int32) (f_v1_0 : h.2.1 v1 0 = vn) (lf : Nat → Int32) (cl_ql_0 : hx_col 8 h ql 0 = lf) (hcn : cn.toInt < 8) (pf_x_0 : ∀ j : Nat, (j : Int) < (h.2.1 x 0).toInt → h.2.2 ql j ≠ none) : Met l yX8_putOnList (Cond.code yX8_putOnList cX8_putOnList 3 none :: hx_all) ({ frames := 0, cells := 0, slots := 0, locals := 0 }) (va_Pc [.ref x, .ref v1] (hx_B T_tb (P_ty dA) (dC, dI) vwCl L h sz)) (va_Qv (fun (u : List Nat × hx_h) => (∃ (cn1 : Int32) (lf1 : Nat → Int32), u.2.2.1 x 0 = cn1 ∧ hx_col 8 u.2 ql 0 = lf1 ∧ (cn1.toInt = cn.toInt + 1 ∧ hx_ins lf lf1 cn.toInt vn ∧ hx_EL h u.2 ql v1)) ∧ hx_T T_tb u.1 u.2 ∧ hx_S T_tb [(8, 0), (40, 0)] L h u.1 u.2 ∧ (∀ j : Nat, (j : Int) < (u.2.2.1 x 0).toInt → u.2.2.2 ql j ≠ none)) (hx_E T_tb (P_ty dA) (dC, dI) vwCl (hx_A L sz)) (hx_A L sz)) 0 0 (hx_A L sz) := by
  refine hx_met (lv := [(0, .ref x), (1, .ref v1)]) (by decide +kernel) rfl (Nat.le_of_ble_eq_true rfl) rfl ?_
  intro p e s m below meth c hx hb hml hr hlk hts0 hown hin hsz hW ls hl
  have hts : ∀ w ∈ hx_all, w.before _ s = true := fun w hw => hts0 w (List.mem_cons_of_mem _ hw)
  have hown : s.vm.findClass "SmallCourt$Walk" = some m.cls := hown
  have hM : hx_S T_tb [(8, 0), (40, 0)] L h L h := hx_S.rf
  have b_cn := hT.gi gx tt_8 (k := 0) rfl
  rw [f_x_0] at b_cn
  have b_cn : 0 ≤ cn.toInt ∧ cn.toInt ≤ 8 := b_cn
  have b_vn := hT.gi gv1 tt_2 (k := 0) rfl
  rw [f_v1_0] at b_vn
  have b_vn : 0 ≤ vn.toInt ∧ vn.toInt ≤ 99 := b_vn
  refine lv_aload_n hx hb dX8_putOnList_0 rfl (lv_at hl 0 rfl) ?_
  refine hk_geti hx hb hts hC_8 hown hW (gx.S hM) tt_8 0 ?o0 rfl kw_345 ⟨rfl, rfl, rfl⟩ f_x_0 dX8_putOnList_1 ?_
  case o0 => decide
  refine lv_bipush (v := 8) hx hb dX8_putOnList_4 ?o1 ?_
  case o1 => decide
  refine hb_icmp_lt (zx := cn.toInt) (zy := 8) (tgt := 10) hx hb rfl ?o2 dX8_putOnList_6 ?o3 (fun c_1 => ?_) (fun c_1 => ?o4)
  case o2 => decide
  case o3 => decide
  case o4 =>
    exfalso
    omega
  refine lv_aload_n hx hb dX8_putOnList_10 rfl (lv_at hl 0 rfl) ?_
  refine hk_geti hx hb hts hC_8 hown hW (gx.S hM) tt_8 0 ?o5 rfl kw_345 ⟨rfl, rfl, rfl⟩ f_x_0 dX8_putOnList_11 ?_
  case o5 => decide
  refine lv_istore_n (lv' := [(2, .int cn), (0, .ref x), (1, .ref v1)]) hx hb dX8_putOnList_14 rfl hl ?o6 rfl (fun ls hl => ?_)
  case o6 => decide
  have loop15 : ∀ (n15 : Nat) (iv15_2 : Int32) (ic15_ql_0 : Nat → Int32) (H : Heap) (locs : List Loc) (hL1 : List Nat) (hl1 : hx_h), 0 ≤ iv15_2.toInt → iv15_2.toInt ≤ 8 → (iv15_2.toInt <= cn.toInt) → (hx_is lf ic15_ql_0 cn.toInt iv15_2.toInt vn) → (hx_EL h hl1 ql v1) → ∀ (ls : Array Slot), iv15_2.toInt < (n15 : Int) → hx_W T_tb (P_ty dA) (dC, dI) vwCl (hx_A L sz) s.heap hL1 hl1 s H locs → hx_T T_tb hL1 hl1 → hx_S T_tb [(8, 0), (40, 0)] L h hL1 hl1 → hl1.2.1 x 0 = cn → (∀ j : Nat, (j : Int) < cn.toInt + 1 → (j : Int) ≠ iv15_2.toInt → hl1.2.2 ql j ≠ none) → hx_col 8 hl1 ql 0 = ic15_ql_0 → lv_has ls 3 [(2, .int iv15_2), (0, .ref x), (1, .ref v1)] → W p l e ({ frames := 0, cells := 0, slots := 0, locals := 0 }) s m ([.ref x, .ref v1] : List Value).toArray below meth c H locs 0 0 (MQ below (va_Qv (fun (u : List Nat × hx_h) => (∃ (cn1 : Int32) (lf1 : Nat → Int32), u.2.2.1 x 0 = cn1 ∧ hx_col 8 u.2 ql 0 = lf1 ∧ (cn1.toInt = cn.toInt + 1 ∧ hx_ins lf lf1 cn.toInt vn ∧ hx_EL h u.2 ql v1)) ∧ hx_T T_tb u.1 u.2 ∧ hx_S T_tb [(8, 0), (40, 0)] L h u.1 u.2 ∧ (∀ j : Nat, (j : Int) < (u.2.2.1 x 0).toInt → u.2.2.2 ql j ≠ none)) (hx_E T_tb (P_ty dA) (dC, dI) vwCl (hx_A L sz)) (hx_A L sz)) ([.ref x, .ref v1] : List Value).toArray s 0 0 (hx_A L sz)) (F0 m 15 ls []) := by
    intro n15
    induction n15 with
    | zero => intro iv15_2 ic15_ql_0 H locs hL1 hl1 bliv15_2 buiv15_2 vi15_0 vi15_1 vi15_2 ls hn15; exfalso; omega
    | succ n15 ih15 =>
      intro iv15_2 ic15_ql_0 H locs hL1 hl1 bliv15_2 buiv15_2 vi15_0 vi15_1 vi15_2 ls hn15 hW hT hM f_x_0 hole15 nic15_ql_0 hl
      refine lv_iload_n hx hb dX8_putOnList_15 rfl (lv_at hl 0 rfl) ?_
      refine hb_if_le (zx := iv15_2.toInt) (tgt := 57) hx hb rfl dX8_putOnList_16 ?o7 (fun c_2 => ?_) (fun c_2 => ?_)
      case o7 => decide
      · skip
        refine lv_aload_n hx hb dX8_putOnList_57 rfl (lv_at hl 1 rfl) ?_
        refine hk_getr hx hb hts hC_8 hown hW (gx.S hM) tt_8 3 ?o8 rfl kw_351 ⟨rfl, rfl, rfl⟩ ((hM.o gx trivial rfl).2.trans f_x_3) dX8_putOnList_58 ?_
        case o8 => decide
        refine lv_iload_n hx hb dX8_putOnList_61 rfl (lv_at hl 0 rfl) ?_
        refine lv_aload_n hx hb dX8_putOnList_62 rfl (lv_at hl 2 rfl) ?_
        have hTo := hT
        have nic15_ql_0O := nic15_ql_0
        have hMogv1trivialrfl1transf_v1_0O := ((hM.o gv1 trivial rfl).1.trans f_v1_0)
        refine hx_aast hx hb hW hT (hx_S.rf (M := [(40, 0)])) (gql.S hM) tt_40 rfl (gv1.S hM) tt_2 rfl ?o9 ⟨?o10, ?o11⟩ (List.mem_singleton.mpr rfl) dX8_putOnList_63 (fun H locs h_3 eh_3 hW hT hs => ?_)
        case o9 => decide
        case o10 => omega
        case o11 => omega
        replace f_x_0 := (hs.o (gx.S hM) trivial rfl).1.trans f_x_0
        replace hM := hM.tr (hs.mono ?o12)
        case o12 => decide
        have px_4 : ∀ j : Nat, (j : Int) < cn.toInt + 1 → h_3.2.2 ql j ≠ none := hx_hole hole15 ?o13 eh_3
        case o13 => omega
        obtain ⟨fc_5, dfc_5⟩ : ∃ g : Nat → Int32, g = hx_up ic15_ql_0 iv15_2.toNatClampNeg vn := ⟨_, rfl⟩
        have nfc_5 : hx_col 8 h_3 ql 0 = fc_5 := ?o14
        case o14 =>
          rw [dfc_5]
          exact (hx_col_pr eh_3 (by unfold Int32.toNatClampNeg; omega)).trans (by rw [nic15_ql_0O, hMogv1trivialrfl1transf_v1_0O])
        refine lv_aload_n hx hb dX8_putOnList_64 rfl (lv_at hl 1 rfl) ?_
        refine lv_dup hx hb dX8_putOnList_65 rfl ?_
        refine hk_geti hx hb hts hC_8 hown hW (gx.S hM) tt_8 0 ?o15 rfl kw_345 ⟨rfl, rfl, rfl⟩ f_x_0 dX8_putOnList_66 ?_
        case o15 => decide
        refine lv_iconst (v := 1) hx hb dX8_putOnList_69 ?o16 ?_
        case o16 => decide
        refine lv_iadd hx hb dX8_putOnList_70 ?_
        have rg_6 := i32_r cn
        refine lv_topi (fun x_7 ex_7 => ?_)
        have zx_7 : x_7.toInt = cn.toInt + 1 := ?o17
        case o17 =>
          rw [ex_7]
          refine i32_add rfl ?o18 ?o19 ?o20
          case o18 => decide
          case o19 => omega
          case o20 => omega
        have hTo := hT
        refine hx_puti hx hb hts hC_8 hown hW hT (hx_S.rf (M := [(8, 0)])) (gx.S hM) tt_8 0 ?o21 rfl kw_345 ⟨rfl, rfl, rfl⟩ rfl (x := x_7) ⟨?o22, ?o23⟩ rfl rfl rfl (List.mem_singleton.mpr rfl) dX8_putOnList_71 (fun H locs h_8 eh_8 hW hT hs => ?_)
        case o21 => decide
        case o22 => omega
        case o23 => omega
        replace px_4 : ∀ j : Nat, (j : Int) < cn.toInt + 1 → h_8.2.2 ql j ≠ none := fun j hj => by rw [(hs.a (gql.S hM) rfl j).2]; exact px_4 j hj
        replace nfc_5 : hx_col 8 h_8 ql 0 = fc_5 := (hx_col_S hs hTo (gql.S hM) tt_40 tt_2 rfl rfl).trans nfc_5
        replace hM := hM.tr (hs.mono ?o24)
        case o24 => decide
        have f_9 : h_8.2.1 x 0 = x_7 := ?o25
        case o25 =>
          rw [eh_8]
          exact hx_pi_at _ _ _ _
        have pf_10 : ∀ j : Nat, (j : Int) < (h_8.2.1 x 0).toInt → h_8.2.2 ql j ≠ none := fun j hj => px_4 j (by rw [f_9] at hj; omega)
        refine hx_retv hx hb hr hlk hW ⟨⟨x_7, fc_5, f_9, nfc_5, ⟨?o26, ⟨iv15_2.toInt, _, ?o27, ?o28, vi15_1, dfc_5, (Or.inl ?o29)⟩, hx_EL_pi (hx_EL_v vi15_2 eh_3) eh_8⟩⟩, hT, hM, pf_10⟩ dX8_putOnList_74
        case o26 => omega
        case o27 => omega
        case o28 => omega
        case o29 => omega
      · skip
        refine lv_aload_n hx hb dX8_putOnList_19 rfl (lv_at hl 1 rfl) ?_
        refine hk_getr hx hb hts hC_8 hown hW (gx.S hM) tt_8 3 ?o30 rfl kw_351 ⟨rfl, rfl, rfl⟩ ((hM.o gx trivial rfl).2.trans f_x_3) dX8_putOnList_20 ?_
        case o30 => decide
        refine lv_iload_n hx hb dX8_putOnList_23 rfl (lv_at hl 0 rfl) ?_
        refine lv_iconst (v := 1) hx hb dX8_putOnList_24 ?o31 ?_
        case o31 => decide
        refine lv_isub hx hb dX8_putOnList_25 ?_
        have rg_11 := i32_r iv15_2
        refine lv_topi (fun x_12 ex_12 => ?_)
        have zx_12 : x_12.toInt = iv15_2.toInt - 1 := ?o32
        case o32 =>
          rw [ex_12]
          refine i32_sub rfl ?o33 ?o34 ?o35
          case o33 => decide
          case o34 => omega
          case o35 => omega
        refine hx_aaldN hx hb hW hT (gql.S hM) tt_40 (t1 := 2) rfl ⟨?o36, ?o37⟩ (hole15 _ (by rw [hx_cl (by omega)]; omega) (by rw [hx_cl (by omega)]; omega)) dX8_putOnList_26 (fun q_13 fq_13 gq_13 => ?_)
        case o36 => omega
        case o37 => omega
        refine hx_geti hx hb hts hC_2 hown hW hT gq_13 tt_2 0 ?o38 rfl kw_723 ⟨rfl, rfl, rfl⟩ dX8_putOnList_27 (fun x_14 ex_14 lx_14 ux_14 => ?_)
        case o38 => decide
        have fx_14 := ex_14.symm
        have cx_14 : x_14 = ic15_ql_0 x_12.toNatClampNeg := ?o39
        case o39 =>
          rw [ex_14, ← nic15_ql_0]
          exact (hx_col_at fq_13 (by unfold Int32.toNatClampNeg; omega)).symm
        refine lv_aload_n hx hb dX8_putOnList_30 rfl (lv_at hl 2 rfl) ?_
        refine hk_geti hx hb hts hC_2 hown hW (gv1.S hM) tt_2 0 ?o40 rfl kw_723 ⟨rfl, rfl, rfl⟩ ((hM.o gv1 trivial rfl).1.trans f_v1_0) dX8_putOnList_31 ?_
        case o40 => decide
        refine hb_icmp_le (zx := x_14.toInt) (zy := vn.toInt) (tgt := 57) hx hb rfl rfl dX8_putOnList_34 ?o41 (fun c_15 => ?_) (fun c_15 => ?_)
        case o41 => decide
        · skip
          refine lv_aload_n hx hb dX8_putOnList_57 rfl (lv_at hl 1 rfl) ?_
          refine hk_getr hx hb hts hC_8 hown hW (gx.S hM) tt_8 3 ?o42 rfl kw_351 ⟨rfl, rfl, rfl⟩ ((hM.o gx trivial rfl).2.trans f_x_3) dX8_putOnList_58 ?_
          case o42 => decide
          refine lv_iload_n hx hb dX8_putOnList_61 rfl (lv_at hl 0 rfl) ?_
          refine lv_aload_n hx hb dX8_putOnList_62 rfl (lv_at hl 2 rfl) ?_
          have hTo := hT
          have nic15_ql_0O := nic15_ql_0
          have hMogv1trivialrfl1transf_v1_0O := ((hM.o gv1 trivial rfl).1.trans f_v1_0)
          refine hx_aast hx hb hW hT (hx_S.rf (M := [(40, 0)])) (gql.S hM) tt_40 rfl (gv1.S hM) tt_2 rfl ?o43 ⟨?o44, ?o45⟩ (List.mem_singleton.mpr rfl) dX8_putOnList_63 (fun H locs h_16 eh_16 hW hT hs => ?_)
          case o43 => decide
          case o44 => omega
          case o45 => omega
          replace f_x_0 := (hs.o (gx.S hM) trivial rfl).1.trans f_x_0
          replace fx_14 := (hs.o gq_13 trivial rfl).1.trans fx_14
          replace hM := hM.tr (hs.mono ?o46)
          case o46 => decide
          replace gq_13 := gq_13.S hs
          have px_17 : ∀ j : Nat, (j : Int) < cn.toInt + 1 → h_16.2.2 ql j ≠ none := hx_hole hole15 ?o47 eh_16
          case o47 => omega
          obtain ⟨fc_18, dfc_18⟩ : ∃ g : Nat → Int32, g = hx_up ic15_ql_0 iv15_2.toNatClampNeg vn := ⟨_, rfl⟩
          have nfc_18 : hx_col 8 h_16 ql 0 = fc_18 := ?o48
          case o48 =>
            rw [dfc_18]
            exact (hx_col_pr eh_16 (by unfold Int32.toNatClampNeg; omega)).trans (by rw [nic15_ql_0O, hMogv1trivialrfl1transf_v1_0O])
          refine lv_aload_n hx hb dX8_putOnList_64 rfl (lv_at hl 1 rfl) ?_
          refine lv_dup hx hb dX8_putOnList_65 rfl ?_
          refine hk_geti hx hb hts hC_8 hown hW (gx.S hM) tt_8 0 ?o49 rfl kw_345 ⟨rfl, rfl, rfl⟩ f_x_0 dX8_putOnList_66 ?_
          case o49 => decide
          refine lv_iconst (v := 1) hx hb dX8_putOnList_69 ?o50 ?_
          case o50 => decide
          refine lv_iadd hx hb dX8_putOnList_70 ?_
          have rg_19 := i32_r cn
          refine lv_topi (fun x_20 ex_20 => ?_)
          have zx_20 : x_20.toInt = cn.toInt + 1 := ?o51
          case o51 =>
            rw [ex_20]
            refine i32_add rfl ?o52 ?o53 ?o54
            case o52 => decide
            case o53 => omega
            case o54 => omega
          have hTo := hT
          refine hx_puti hx hb hts hC_8 hown hW hT (hx_S.rf (M := [(8, 0)])) (gx.S hM) tt_8 0 ?o55 rfl kw_345 ⟨rfl, rfl, rfl⟩ rfl (x := x_20) ⟨?o56, ?o57⟩ rfl rfl rfl (List.mem_singleton.mpr rfl) dX8_putOnList_71 (fun H locs h_21 eh_21 hW hT hs => ?_)
          case o55 => decide
          case o56 => omega
          case o57 => omega
          replace px_17 : ∀ j : Nat, (j : Int) < cn.toInt + 1 → h_21.2.2 ql j ≠ none := fun j hj => by rw [(hs.a (gql.S hM) rfl j).2]; exact px_17 j hj
          replace fx_14 := (hs.o gq_13 trivial rfl).1.trans fx_14
          replace nfc_18 : hx_col 8 h_21 ql 0 = fc_18 := (hx_col_S hs hTo (gql.S hM) tt_40 tt_2 rfl rfl).trans nfc_18
          replace hM := hM.tr (hs.mono ?o58)
          case o58 => decide
          replace gq_13 := gq_13.S hs
          have f_22 : h_21.2.1 x 0 = x_20 := ?o59
          case o59 =>
            rw [eh_21]
            exact hx_pi_at _ _ _ _
          have pf_23 : ∀ j : Nat, (j : Int) < (h_21.2.1 x 0).toInt → h_21.2.2 ql j ≠ none := fun j hj => px_17 j (by rw [f_22] at hj; omega)
          exact hx_retv hx hb hr hlk hW ⟨⟨x_20, fc_18, f_22, nfc_18, ⟨by omega, ⟨iv15_2.toInt, _, by omega, by omega, vi15_1, dfc_18, (by first | exact Or.inl (by omega) | exact Or.inr (by rw [← vi15_1.1 _ (by omega), ← show (x_12.toNatClampNeg) = (iv15_2.toInt - 1).toNat from by unfold Int32.toNatClampNeg; omega, ← cx_14]; omega))⟩, hx_EL_pi (hx_EL_v vi15_2 eh_16) eh_21⟩⟩, hT, hM, pf_23⟩ dX8_putOnList_74
        · skip
          refine lv_aload_n hx hb dX8_putOnList_37 rfl (lv_at hl 1 rfl) ?_
          refine hk_getr hx hb hts hC_8 hown hW (gx.S hM) tt_8 3 ?o60 rfl kw_351 ⟨rfl, rfl, rfl⟩ ((hM.o gx trivial rfl).2.trans f_x_3) dX8_putOnList_38 ?_
          case o60 => decide
          refine lv_iload_n hx hb dX8_putOnList_41 rfl (lv_at hl 0 rfl) ?_
          refine lv_aload_n hx hb dX8_putOnList_42 rfl (lv_at hl 1 rfl) ?_
          refine hk_getr hx hb hts hC_8 hown hW (gx.S hM) tt_8 3 ?o61 rfl kw_351 ⟨rfl, rfl, rfl⟩ ((hM.o gx trivial rfl).2.trans f_x_3) dX8_putOnList_43 ?_
          case o61 => decide
          refine lv_iload_n hx hb dX8_putOnList_46 rfl (lv_at hl 0 rfl) ?_
          refine lv_iconst (v := 1) hx hb dX8_putOnList_47 ?o62 ?_
          case o62 => decide
          refine lv_isub hx hb dX8_putOnList_48 ?_
          refine lv_topi (fun x_24 ex_24 => ?_)
          have zx_24 : x_24.toInt = iv15_2.toInt - 1 := ?o63
          case o63 =>
            rw [ex_24]
            refine i32_sub rfl ?o64 ?o65 ?o66
            case o64 => decide
            case o65 => omega
            case o66 => omega
          obtain rfl : x_12 = x_24 := ex_12.trans ex_24.symm
          refine hx_aaldN hx hb hW hT (gql.S hM) tt_40 (t1 := 2) rfl ⟨?o67, ?o68⟩ (hole15 _ (by rw [hx_cl (by omega)]; omega) (by rw [hx_cl (by omega)]; omega)) dX8_putOnList_49 (fun q_25 fq_25 gq_25 => ?_)
          case o67 => omega
          case o68 => omega
          have hTo := hT
          have nic15_ql_0O := nic15_ql_0
          have fk_26 : hl1.2.1 q_25 0 = ic15_ql_0 x_12.toNatClampNeg := ?o69
          case o69 =>
            rw [← nic15_ql_0]
            exact (hx_col_at fq_25 (by unfold Int32.toNatClampNeg; omega)).symm
          have fk_26O := fk_26
          refine hx_aast hx hb hW hT (hx_S.rf (M := [(40, 0)])) (gql.S hM) tt_40 rfl gq_25 tt_2 rfl ?o70 ⟨?o71, ?o72⟩ (List.mem_singleton.mpr rfl) dX8_putOnList_50 (fun H locs h_27 eh_27 hW hT hs => ?_)
          case o70 => decide
          case o71 => omega
          case o72 => omega
          replace f_x_0 := (hs.o (gx.S hM) trivial rfl).1.trans f_x_0
          replace fx_14 := (hs.o gq_13 trivial rfl).1.trans fx_14
          replace hM := hM.tr (hs.mono ?o73)
          case o73 => decide
          replace gq_13 := gq_13.S hs
          replace gq_25 := gq_25.S hs
          have px_28 : ∀ j : Nat, (j : Int) < cn.toInt + 1 → h_27.2.2 ql j ≠ none := hx_hole hole15 ?o74 eh_27
          case o74 => omega
          obtain ⟨fc_29, dfc_29⟩ : ∃ g : Nat → Int32, g = hx_up ic15_ql_0 iv15_2.toNatClampNeg (ic15_ql_0 x_12.toNatClampNeg) := ⟨_, rfl⟩
          have nfc_29 : hx_col 8 h_27 ql 0 = fc_29 := ?o75
          case o75 =>
            rw [dfc_29]
            exact (hx_col_pr eh_27 (by unfold Int32.toNatClampNeg; omega)).trans (by rw [nic15_ql_0O, fk_26O])
          obtain ⟨x_30, ex_30⟩ : ∃ y : Int32, y = iv15_2 + Int32.ofInt (-1) := ⟨_, rfl⟩
          have zx_30 : x_30.toInt = iv15_2.toInt + (-1) := ?o76
          case o76 =>
            rw [ex_30]
            refine i32_add rfl ?o77 ?o78 ?o79
            case o77 => decide
            case o78 => omega
            case o79 => omega
          refine lv_iinc (v := x_30) (lv' := [(2, .int x_30), (0, .ref x), (1, .ref v1)]) hx hb dX8_putOnList_51 hl (k := 0) rfl ex_30.symm ?o80 rfl (fun ls hl => ?_)
          case o80 => decide
          refine lv_goto (tgt := 15) hx hb dX8_putOnList_54 ?o81 ?_
          case o81 => decide
          refine ih15 x_30 fc_29 _ _ hL1 h_27 ?o82 ?o83 ?o84 (by have e9 : x_30.toInt = x_12.toInt := (by omega); rw [e9]; exact hx_is_s vi15_1 (by omega) (by omega) zx_12 (by rw [← cx_14]; omega) rfl dfc_29) (hx_EL_s vi15_2 eh_27 fq_25 (by unfold Int32.toNatClampNeg; omega)) ls ?o85 hW hT hM f_x_0 (fun j hj _ => px_28 j hj) nfc_29 (lv_sub hl [0, 1, 2] rfl)
          case o82 => omega
          case o83 => omega
          case o84 => omega
          case o85 => omega
  refine loop15 9 cn lf _ _ L h ?o86 ?o87 ?o88 hx_is_0 hx_EL_rf ls ?o89 hW hT hM f_x_0 (fun j hj hn => pf_x_0 j (by rw [f_x_0]; omega)) cl_ql_0 hl
  case o86 => omega
  case o87 => omega
  case o88 => omega
  case o89 => omega


set_option maxHeartbeats 4000000 in
set_option maxRecDepth 100000 in
theorem t_X9_list_2 (l : Launch) (dC : Nat → ClassId) (dI : Nat → Nat → Nat) (dA : Nat → ClassId) (L : List Nat) (h : hx_h) (sz : Nat) (x : Nat) (i1 : Int32) (hT : hx_T T_tb L h) (gx : hx_g L h x 9) (qc : Nat) (gqc : hx_g L h qc 45) (f_x_10 : h.2.2 x 10 = some qc) (qw : Nat) (gqw : hx_g L h qw 8) (f_x_19 : h.2.2 x 19 = some qw) (ql : Nat) (gql : hx_g L h ql 40) (f_qw_3 : h.2.2 qw 3 = some ql)  (cn0 : Int32) (f_x_11 : h.2.1 x 11 = cn0) (ln0 : Int32) (f_qw_0 : h.2.1 qw 0 = ln0) (ff : Nat → Int32) (cl_qc_10 : hx_col 100 h qc 10 = ff) (lf : Nat → Int32) (cl_ql_0 : hx_col 8 h ql 0 = lf) (nu_qc : hx_num 100 h qc 0 (cn0.toInt)) (sb_ql_qc : hx_LQ 8 100 h ql qc) (pf_x_11 : ∀ j : Nat, (j : Int) < (h.2.1 x 11).toInt → h.2.2 qc j ≠ none) (pf_qw_0 : ∀ j : Nat, (j : Int) < (h.2.1 qw 0).toInt → h.2.2 ql j ≠ none) : Met l yX9_list (Cond.code yX9_list cX9_list 3 (some .int) :: hx_all) ({ frames := 1, cells := 0, slots := 0, locals := 22 }) (va_Pc [.ref x, .int i1] (hx_B T_tb (P_ty dA) (dC, dI) vwCl L h sz)) (va_Qi (fun (r : Int32) (u : List Nat × hx_h) => (∃ (ln1 : Int32) (lf1 : Nat → Int32), u.2.2.1 qw 0 = ln1 ∧ hx_col 8 u.2 ql 0 = lf1 ∧ ((hx_LQ 8 100 u.2 ql qc) ∧ (hx_WL cn0.toInt i1.toInt ln0.toInt i1 ff lf lf1 r.toInt ln1.toInt))) ∧ hx_T T_tb u.1 u.2 ∧ hx_S T_tb [(8, 0), (40, 0)] L h u.1 u.2 ∧ (∀ j : Nat, (j : Int) < (u.2.2.1 qw 0).toInt → u.2.2.2 ql j ≠ none)) (hx_E T_tb (P_ty dA) (dC, dI) vwCl (hx_A L sz)) (hx_A L sz)) 0 0 (hx_A L sz) := by
  refine hx_met (lv := [(0, .ref x), (1, .int i1)]) (by decide +kernel) rfl (Nat.le_of_ble_eq_true rfl) rfl ?_
  intro p e s m below meth c hx hb hml hr hlk hts0 hown hin hsz hW ls hl
  have hts : ∀ w ∈ hx_all, w.before _ s = true := fun w hw => hts0 w (List.mem_cons_of_mem _ hw)
  have hown : s.vm.findClass "SmallCourt" = some m.cls := hown
  have hM : hx_S T_tb [(8, 0), (40, 0)] L h L h := hx_S.rf
  have b_cn0 := hT.gi gx tt_9 (k := 11) rfl
  rw [f_x_11] at b_cn0
  have b_cn0 : 0 ≤ cn0.toInt ∧ cn0.toInt ≤ 100 := b_cn0
  have b_ln0 := hT.gi gqw tt_8 (k := 0) rfl
  rw [f_qw_0] at b_ln0
  have b_ln0 : 0 ≤ ln0.toInt ∧ ln0.toInt ≤ 8 := b_ln0
  refine lv_aload_n hx hb dX9_list_0 rfl (lv_at hl 0 rfl) ?_
  refine lv_iload_n hx hb dX9_list_1 rfl (lv_at hl 1 rfl) ?_
  have hTo := hT
  refine hx_goq (hx_runV (As := [.int i1]) (rest := []) ⟨hx, hb, hml, hown, hts⟩ hW (gx.S hM) tt_9 (T := TX9) (N := 20) rfl (t_X9_claimAt_2 l dC dI dA L h s.heap.size x i1 hT (gx.S hM) cn0 ((hM.o gx trivial rfl).1.trans f_x_11) qc (gqc.S hM) ((hM.o gx trivial rfl).2.trans f_x_10) pf_x_11) (cwV 1 hts (hx_gV kw_810 kw_807 kw_809 kw_25 kw_94) rfl rfl rfl (by decide +kernel) ⟨Nat.le_of_ble_eq_true rfl, Nat.le_of_ble_eq_true rfl⟩) rfl hl.1 rfl (Nat.le_of_ble_eq_true rfl) dX9_list_2 ⟨Nat.le_of_ble_eq_true rfl, Nat.le_of_ble_eq_true rfl⟩) hW (fun r_3 L_1 h_2 H locs p_4 hW => ?_)
  obtain ⟨hr_5, hT, hs⟩ := p_4
  replace hT : hx_T T_tb L_1 h_2 := hT
  replace hs : hx_S T_tb [] L h L_1 h_2 := hs
  replace f_qw_0 := (hs.o (gqw.S hM) trivial rfl).1.trans f_qw_0
  replace pf_x_11 : ∀ j : Nat, (j : Int) < (h_2.2.1 x 11).toInt → h_2.2.2 qc j ≠ none := by
    intro j hj; rw [(hs.o (gx.S hM) trivial rfl).1] at hj; rw [(hs.a (gqc.S hM) rfl j).2]; exact pf_x_11 j hj
  replace pf_qw_0 : ∀ j : Nat, (j : Int) < (h_2.2.1 qw 0).toInt → h_2.2.2 ql j ≠ none := by
    intro j hj; rw [(hs.o (gqw.S hM) trivial rfl).1] at hj; rw [(hs.a (gql.S hM) rfl j).2]; exact pf_qw_0 j hj
  replace cl_qc_10 : hx_col 100 h_2 qc 10 = ff := (hx_col_S hs hTo (gqc.S hM) tt_45 tt_2 rfl rfl).trans cl_qc_10
  replace cl_ql_0 : hx_col 8 h_2 ql 0 = lf := (hx_col_S hs hTo (gql.S hM) tt_40 tt_2 rfl rfl).trans cl_ql_0
  replace nu_qc : hx_num 100 h_2 qc 0 (cn0.toInt) := hx_num_S hs hTo (gqc.S hM) tt_45 tt_2 rfl rfl nu_qc
  replace sb_ql_qc : hx_LQ 8 100 h_2 ql qc := hx_LQ_S hs (gql.S hM) (gqc.S hM) rfl rfl sb_ql_qc
  replace hM := hM.tr (hs.mono ?o0)
  case o0 => decide
  obtain ⟨hr_5, hr_5B⟩ := hr_5
  have hr_5 : ∀ q, r_3 = some q → hx_g L_1 h_2 q 2 := hr_5
  rcases r_3 with _ | q_6
  · skip
    have k_7 : i1.toInt < 0 ∨ cn0.toInt ≤ i1.toInt := by
      rcases hr_5B with ⟨_, z⟩ | ⟨_, _, q, z, _⟩
      · exact z
      · cases z
    refine lv_astore_nN (lv' := [(2, .null), (0, .ref x), (1, .int i1)]) hx hb dX9_list_5 rfl hl ?o1 rfl (fun ls hl => ?_)
    case o1 => decide
    refine lv_aload_nN hx hb dX9_list_6 rfl (lv_at hl 0 rfl) ?_
    refine lv_ifnullN (tgt := 41) hx hb dX9_list_7 ?o2 ?_
    case o2 => decide
    refine lv_iconst (v := -1) hx hb dX9_list_41 ?o3 ?_
    case o3 => decide
    refine hx_reti hx hb hr hlk hW ⟨⟨ln0, lf, f_qw_0, cl_ql_0, ⟨sb_ql_qc, (Or.inl ⟨?o4, rfl, ?o5, fun hc => by have := hc.1; have := hc.2.1; omega⟩)⟩⟩, hT, hM, pf_qw_0⟩ dX9_list_42
    case o4 => decide
    case o5 => omega
  · have gq_6 := hr_5 _ rfl
    have k_8 : 0 ≤ i1.toInt ∧ i1.toInt < cn0.toInt ∧ h_2.2.2 qc i1.toNatClampNeg = some q_6 := by
      rcases hr_5B with ⟨z, _⟩ | ⟨z1, z2, q, z3, z4⟩
      · cases z
      · cases z3; exact ⟨z1, z2, z4⟩
    have fo_9 := k_8.2.2
    have k_8 : 0 ≤ i1.toInt ∧ i1.toInt < cn0.toInt := ⟨k_8.1, k_8.2.1⟩
    refine lv_astore_n (lv' := [(2, .ref q_6), (0, .ref x), (1, .int i1)]) hx hb dX9_list_5 rfl hl ?o6 rfl (fun ls hl => ?_)
    case o6 => decide
    refine lv_aload_n hx hb dX9_list_6 rfl (lv_at hl 0 rfl) ?_
    refine lv_ifnull hx hb dX9_list_7 ?_
    refine lv_aload_n hx hb dX9_list_10 rfl (lv_at hl 0 rfl) ?_
    refine hx_geti hx hb hts hC_2 hown hW hT gq_6 tt_2 10 ?o7 rfl kw_747 ⟨rfl, rfl, rfl⟩ dX9_list_11 (fun x_10 ex_10 lx_10 ux_10 => ?_)
    case o7 => decide
    have fx_10 := ex_10.symm
    have cx_10 : x_10 = ff i1.toNatClampNeg := ?o8
    case o8 =>
      rw [ex_10, ← cl_qc_10]
      exact (hx_col_at fo_9 (by unfold Int32.toNatClampNeg; omega)).symm
    refine lv_iconst (v := -1) hx hb dX9_list_14 ?o9 ?_
    case o9 => decide
    refine hb_icmp_ne (zx := x_10.toInt) (zy := (-1)) (tgt := 41) hx hb rfl ?o10 dX9_list_15 ?o11 (fun c_11 => ?_) (fun c_11 => ?_)
    case o10 => decide
    case o11 => decide
    · skip
      refine lv_iconst (v := -1) hx hb dX9_list_41 ?o12 ?_
      case o12 => decide
      refine hx_reti hx hb hr hlk hW ⟨⟨ln0, lf, f_qw_0, cl_ql_0, ⟨sb_ql_qc, (Or.inl ⟨?o13, rfl, ?o14, fun hc => by have h1 : (ff i1.toNatClampNeg).toInt = -1 := hc.2.2.1; rw [← cx_10] at h1; omega⟩)⟩⟩, hT, hM, pf_qw_0⟩ dX9_list_42
      case o13 => decide
      case o14 => omega
    · skip
      refine lv_aload_n hx hb dX9_list_18 rfl (lv_at hl 1 rfl) ?_
      refine hk_getr hx hb hts hC_9 hown hW (gx.S hM) tt_9 19 ?o15 rfl kw_383 ⟨rfl, rfl, rfl⟩ ((hM.o gx trivial rfl).2.trans f_x_19) dX9_list_19 ?_
      case o15 => decide
      refine lv_aload_n hx hb dX9_list_22 rfl (lv_at hl 0 rfl) ?_
      have fk_12 : h_2.2.1 q_6 0 = i1 := hx_num_at nu_qc fo_9 ?o16 ?o17
      case o16 => omega
      case o17 => omega
      have hU : ∀ k p : Nat, k < 8 → h_2.2.2 ql k = some p → lf k = i1 → p = q_6 := fun k p hk f e => hx_LQ_u sb_ql_qc nu_qc cl_ql_0 fo_9 ?o18 ?o19 hk f e
      case o18 => omega
      case o19 => omega
      have hTo := hT
      refine hx_goi (hx_runV (As := [.ref q_6]) (rest := []) ⟨hx, hb, hml, hown, hts⟩ hW (gqw.S hM) tt_8 (T := TX8) (N := 5) rfl (t_X8_isListed_2 l dC dI dA L_1 h_2 H.size qw q_6 hT (gqw.S hM) gq_6 ql (gql.S hM) ((hM.o gqw trivial rfl).2.trans f_qw_3) ln0 f_qw_0 i1 fk_12 lf cl_ql_0 hU pf_qw_0) (cwV 1 hts (hx_gV kw_1043 kw_1040 kw_1041 kw_1042 kw_102) rfl rfl rfl (by decide +kernel) ⟨Nat.le_of_ble_eq_true rfl, Nat.le_of_ble_eq_true rfl⟩) rfl hl.1 rfl (Nat.le_of_ble_eq_true rfl) dX9_list_23 ⟨Nat.le_of_ble_eq_true rfl, Nat.le_of_ble_eq_true rfl⟩) hW (fun r_15 L_13 h_14 H locs p_16 hW => ?_)
      obtain ⟨hr_17, hT, hs⟩ := p_16
      replace hT : hx_T T_tb L_13 h_14 := hT
      replace hs : hx_S T_tb [] L_1 h_2 L_13 h_14 := hs
      replace f_qw_0 := (hs.o (gqw.S hM) trivial rfl).1.trans f_qw_0
      replace fx_10 := (hs.o gq_6 trivial rfl).1.trans fx_10
      replace fk_12 := (hs.o gq_6 trivial rfl).1.trans fk_12
      replace pf_x_11 : ∀ j : Nat, (j : Int) < (h_14.2.1 x 11).toInt → h_14.2.2 qc j ≠ none := by
        intro j hj; rw [(hs.o (gx.S hM) trivial rfl).1] at hj; rw [(hs.a (gqc.S hM) rfl j).2]; exact pf_x_11 j hj
      replace pf_qw_0 : ∀ j : Nat, (j : Int) < (h_14.2.1 qw 0).toInt → h_14.2.2 ql j ≠ none := by
        intro j hj; rw [(hs.o (gqw.S hM) trivial rfl).1] at hj; rw [(hs.a (gql.S hM) rfl j).2]; exact pf_qw_0 j hj
      replace cl_qc_10 : hx_col 100 h_14 qc 10 = ff := (hx_col_S hs hTo (gqc.S hM) tt_45 tt_2 rfl rfl).trans cl_qc_10
      replace cl_ql_0 : hx_col 8 h_14 ql 0 = lf := (hx_col_S hs hTo (gql.S hM) tt_40 tt_2 rfl rfl).trans cl_ql_0
      replace nu_qc : hx_num 100 h_14 qc 0 (cn0.toInt) := hx_num_S hs hTo (gqc.S hM) tt_45 tt_2 rfl rfl nu_qc
      replace sb_ql_qc : hx_LQ 8 100 h_14 ql qc := hx_LQ_S hs (gql.S hM) (gqc.S hM) rfl rfl sb_ql_qc
      replace fo_9 := (hs.a (gqc.S hM) rfl _).2.trans fo_9
      replace hM := hM.tr (hs.mono ?o20)
      case o20 => decide
      replace gq_6 := gq_6.S hs
      refine hb_if_ne (zx := r_15.toInt) (tgt := 41) hx hb rfl dX9_list_26 ?o21 (fun c_18 => ?_) (fun c_18 => ?_)
      case o21 => decide
      · skip
        refine lv_iconst (v := -1) hx hb dX9_list_41 ?o22 ?_
        case o22 => decide
        exact hx_reti hx hb hr hlk hW ⟨⟨ln0, lf, f_qw_0, cl_ql_0, ⟨sb_ql_qc, (Or.inl ⟨by decide, rfl, by omega, fun hc => by have h2 := hc.2.2.2.2; rcases hr_17 with z | z; (first | exact hc.2.2.2.1 z.2 | omega); omega⟩)⟩⟩, hT, hM, pf_qw_0⟩ dX9_list_42
      · skip
        refine lv_aload_n hx hb dX9_list_29 rfl (lv_at hl 1 rfl) ?_
        refine hk_getr hx hb hts hC_9 hown hW (gx.S hM) tt_9 19 ?o23 rfl kw_383 ⟨rfl, rfl, rfl⟩ ((hM.o gx trivial rfl).2.trans f_x_19) dX9_list_30 ?_
        case o23 => decide
        refine hk_geti hx hb hts hC_8 hown hW (gqw.S hM) tt_8 0 ?o24 rfl kw_346 ⟨rfl, rfl, rfl⟩ f_qw_0 dX9_list_33 ?_
        case o24 => decide
        refine lv_bipush (v := 8) hx hb dX9_list_36 ?o25 ?_
        case o25 => decide
        refine hb_icmp_lt (zx := ln0.toInt) (zy := 8) (tgt := 43) hx hb rfl ?o26 dX9_list_38 ?o27 (fun c_19 => ?_) (fun c_19 => ?_)
        case o26 => decide
        case o27 => decide
        · skip
          have gqcO := (gqc.S hM)
          have sbO := sb_ql_qc
          have foO := fo_9
          refine lv_aload_n hx hb dX9_list_43 rfl (lv_at hl 1 rfl) ?_
          refine hk_getr hx hb hts hC_9 hown hW (gx.S hM) tt_9 19 ?o28 rfl kw_383 ⟨rfl, rfl, rfl⟩ ((hM.o gx trivial rfl).2.trans f_x_19) dX9_list_44 ?_
          case o28 => decide
          refine lv_aload_n hx hb dX9_list_47 rfl (lv_at hl 0 rfl) ?_
          have hTo := hT
          refine hx_gov (hx_runV (As := [.ref q_6]) (rest := []) ⟨hx, hb, hml, hown, hts⟩ hW (gqw.S hM) tt_8 (T := TX8) (N := 5) rfl (t_X8_putOnList_2 l dC dI dA L_13 h_14 H.size qw q_6 hT (gqw.S hM) gq_6 ql (gql.S hM) ((hM.o gqw trivial rfl).2.trans f_qw_3) ln0 f_qw_0 i1 fk_12 lf cl_ql_0 ?o29 pf_qw_0) (cwV 1 hts (hx_gV kw_1047 kw_1044 kw_1045 kw_1046 kw_102) rfl rfl rfl (by decide +kernel) ⟨Nat.le_of_ble_eq_true rfl, Nat.le_of_ble_eq_true rfl⟩) rfl hl.1 rfl (Nat.le_of_ble_eq_true rfl) dX9_list_48 ⟨Nat.le_of_ble_eq_true rfl, Nat.le_of_ble_eq_true rfl⟩) hW (fun L_20 h_21 H locs p_23 hW => ?_)
          case o29 => omega
          obtain ⟨⟨w_26, w_27, fw_26, fw_27, hr_24⟩, hT, hs, pf_25⟩ := p_23
          replace hT : hx_T T_tb L_20 h_21 := hT
          replace hs : hx_S T_tb [(8, 0), (40, 0)] L_13 h_14 L_20 h_21 := hs
          replace fx_10 := (hs.o gq_6 trivial rfl).1.trans fx_10
          replace fk_12 := (hs.o gq_6 trivial rfl).1.trans fk_12
          replace pf_x_11 : ∀ j : Nat, (j : Int) < (h_21.2.1 x 11).toInt → h_21.2.2 qc j ≠ none := by
            intro j hj; rw [(hs.o (gx.S hM) trivial rfl).1] at hj; rw [(hs.a (gqc.S hM) rfl j).2]; exact pf_x_11 j hj
          replace cl_qc_10 : hx_col 100 h_21 qc 10 = ff := (hx_col_S hs hTo (gqc.S hM) tt_45 tt_2 rfl rfl).trans cl_qc_10
          replace nu_qc : hx_num 100 h_21 qc 0 (cn0.toInt) := hx_num_S hs hTo (gqc.S hM) tt_45 tt_2 rfl rfl nu_qc
          replace fo_9 := (hs.a (gqc.S hM) rfl _).2.trans fo_9
          replace hM := hM.tr (hs.mono ?o30)
          case o30 => decide
          replace gq_6 := gq_6.S hs
          have pf_25 : ∀ j : Nat, (j : Int) < (h_21.2.1 qw 0).toInt → h_21.2.2 ql j ≠ none := pf_25
          have fw_26 : h_21.2.1 qw 0 = w_26 := fw_26
          have bw_26 := hT.gi (gqw.S hM) tt_8 (k := 0) rfl
          rw [fw_26] at bw_26
          have bw_26 : 0 ≤ w_26.toInt ∧ w_26.toInt ≤ 8 := bw_26
          have fw_27 : hx_col 8 h_21 ql 0 = w_27 := fw_27
          have sb_28 : hx_LQ 8 100 h_21 ql qc := hx_LQ_EL sbO hr_24.2.2 foO (by unfold Int32.toNatClampNeg; omega) (fun c => (hs.a gqcO rfl c).2)
          refine lv_aload_n hx hb dX9_list_51 rfl (lv_at hl 1 rfl) ?_
          refine hk_getr hx hb hts hC_9 hown hW (gx.S hM) tt_9 19 ?o31 rfl kw_383 ⟨rfl, rfl, rfl⟩ ((hM.o gx trivial rfl).2.trans f_x_19) dX9_list_52 ?_
          case o31 => decide
          refine hk_geti hx hb hts hC_8 hown hW (gqw.S hM) tt_8 0 ?o32 rfl kw_346 ⟨rfl, rfl, rfl⟩ fw_26 dX9_list_55 ?_
          case o32 => decide
          refine hx_reti hx hb hr hlk hW ⟨⟨w_26, w_27, fw_26, fw_27, ⟨sb_28, (Or.inr ⟨?o33, ?o34, hr_24.2.1, ?o35, ?o36, (by show (ff i1.toNatClampNeg).toInt = -1; rw [← cx_10]; omega), (by rcases hr_17 with z | z; (exfalso; omega); exact z.2), ?o37⟩)⟩⟩, hT, hM, pf_25⟩ dX9_list_58
          case o33 => omega
          case o34 => omega
          case o35 => omega
          case o36 => omega
          case o37 => omega
        · skip
          refine lv_iconst (v := -1) hx hb dX9_list_41 ?o38 ?_
          case o38 => decide
          exact hx_reti hx hb hr hlk hW ⟨⟨ln0, lf, f_qw_0, cl_ql_0, ⟨sb_ql_qc, (Or.inl ⟨by decide, rfl, by omega, fun hc => by have h2 := hc.2.2.2.2; rcases hr_17 with z | z; (first | exact hc.2.2.2.1 z.2 | omega); omega⟩)⟩⟩, hT, hM, pf_qw_0⟩ dX9_list_42


set_option maxHeartbeats 4000000 in
set_option maxRecDepth 100000 in
theorem t_X10_areLives_2 (l : Launch) (dC : Nat → ClassId) (dI : Nat → Nat → Nat) (dA : Nat → ClassId) (L : List Nat) (h : hx_h) (sz : Nat) (i1 : Int32) (i2 : Int32) (i3 : Int32) (i4 : Int32) (hT : hx_T T_tb L h)   : Met l yX10_areLives (Cond.code yX10_areLives cX10_areLives 4 (some .boolean) :: hx_all) ({ frames := 1, cells := 0, slots := 0, locals := 22 }) (va_Pc [.int i1, .int i2, .int i3, .int i4] (hx_B T_tb (P_ty dA) (dC, dI) vwCl L h sz)) (va_Qi (fun (r : Int32) (u : List Nat × hx_h) => ((r.toInt = 0 ∧ (i1.toInt < 0 ∨ 9999 < i1.toInt ∨ i2.toInt < 1 ∨ 20 < i2.toInt ∨ i3.toInt < 0 ∨ 99 < i3.toInt ∨ i4.toInt < 0 ∨ 99 < i4.toInt)) ∨ (r.toInt = 1 ∧ 0 ≤ i1.toInt ∧ i1.toInt ≤ 9999 ∧ 1 ≤ i2.toInt ∧ i2.toInt ≤ 20 ∧ 0 ≤ i3.toInt ∧ i3.toInt ≤ 99 ∧ 0 ≤ i4.toInt ∧ i4.toInt ≤ 99)) ∧ hx_T T_tb u.1 u.2 ∧ hx_S T_tb [] L h u.1 u.2) (hx_E T_tb (P_ty dA) (dC, dI) vwCl (hx_A L sz)) (hx_A L sz)) 0 0 (hx_A L sz) := by
  refine hx_met (lv := [(0, .int i1), (1, .int i2), (2, .int i3), (3, .int i4)]) (by decide +kernel) rfl (Nat.le_of_ble_eq_true rfl) rfl ?_
  intro p e s m below meth c hx hb hml hr hlk hts0 hown hin hsz hW ls hl
  have hts : ∀ w ∈ hx_all, w.before _ s = true := fun w hw => hts0 w (List.mem_cons_of_mem _ hw)
  have hown : s.vm.findClass "SmallCourtModel" = some m.cls := hown
  have hM : hx_S T_tb [] L h L h := hx_S.rf
  refine lv_iload_n hx hb dX10_areLives_0 rfl (lv_at hl 0 rfl) ?_
  refine lv_iconst (v := 0) hx hb dX10_areLives_1 ?o0 ?_
  case o0 => decide
  refine lv_sipush (v := 9999) hx hb dX10_areLives_2 ?o1 ?_
  case o1 => decide
  have zc_9999 : (9999 : Int32).toInt = 9999 := ?o2
  case o2 => decide
  have zc_0 : (0 : Int32).toInt = 0 := ?o3
  case o3 => decide
  refine hx_goi (hx_runS (As := [.int i1, .int (0 : Int32), .int (9999 : Int32)]) (rest := []) ⟨hx, hb, hml, hown, hts⟩ hW (t_X10_in l dC dI dA L h s.heap.size i1 (0 : Int32) (9999 : Int32) hT) (va_cwS 3 hts (hx_gS kw_1445 kw_1443 kw_1444 kw_103) rfl rfl rfl (by decide +kernel) ⟨Nat.le_of_ble_eq_true rfl, Nat.le_of_ble_eq_true rfl⟩) rfl hl.1 rfl (Nat.le_of_ble_eq_true rfl) dX10_areLives_5 ⟨Nat.le_of_ble_eq_true rfl, Nat.le_of_ble_eq_true rfl⟩) hW (fun r_3 L_1 h_2 H locs p_4 hW => ?_)
  obtain ⟨hr_5, hT, hs⟩ := p_4
  replace hT : hx_T T_tb L_1 h_2 := hT
  replace hs : hx_S T_tb [] L h L_1 h_2 := hs
  replace hM := hM.tr (hs.mono ?o4)
  case o4 => decide
  refine hb_if_eq (zx := r_3.toInt) (tgt := 45) hx hb rfl dX10_areLives_8 ?o5 (fun c_6 => ?_) (fun c_6 => ?_)
  case o5 => decide
  · skip
    replace hr_5 := hr_5.resolve_right (fun z9 => absurd (c_6.symm.trans z9.1) ?o6)
    case o6 => decide
    replace hr_5 := hr_5.2
    refine lv_iconst (v := 0) hx hb dX10_areLives_45 ?o7 ?_
    case o7 => decide
    exact hx_retz hx hb hr rfl hlk hW ⟨(by have zr : (0 : Int32).toInt = 0 := (by decide); (first | omega | (refine ⟨?_, ?_⟩ <;> omega))), hT, hM⟩ dX10_areLives_46
  · skip
    replace hr_5 := hr_5.resolve_left (fun z9 => c_6 z9.1)
    replace c_6 := hr_5.1
    replace hr_5 := hr_5.2
    refine lv_iload_n hx hb dX10_areLives_11 rfl (lv_at hl 1 rfl) ?_
    refine lv_iconst (v := 1) hx hb dX10_areLives_12 ?o8 ?_
    case o8 => decide
    refine lv_bipush (v := 20) hx hb dX10_areLives_13 ?o9 ?_
    case o9 => decide
    have zc_20 : (20 : Int32).toInt = 20 := ?o10
    case o10 => decide
    have zc_1 : (1 : Int32).toInt = 1 := ?o11
    case o11 => decide
    refine hx_goi (hx_runS (As := [.int i2, .int (1 : Int32), .int (20 : Int32)]) (rest := []) ⟨hx, hb, hml, hown, hts⟩ hW (t_X10_in l dC dI dA L_1 h_2 H.size i2 (1 : Int32) (20 : Int32) hT) (va_cwS 3 hts (hx_gS kw_1445 kw_1443 kw_1444 kw_103) rfl rfl rfl (by decide +kernel) ⟨Nat.le_of_ble_eq_true rfl, Nat.le_of_ble_eq_true rfl⟩) rfl hl.1 rfl (Nat.le_of_ble_eq_true rfl) dX10_areLives_15 ⟨Nat.le_of_ble_eq_true rfl, Nat.le_of_ble_eq_true rfl⟩) hW (fun r_9 L_7 h_8 H locs p_10 hW => ?_)
    obtain ⟨hr_11, hT, hs⟩ := p_10
    replace hT : hx_T T_tb L_7 h_8 := hT
    replace hs : hx_S T_tb [] L_1 h_2 L_7 h_8 := hs
    replace hM := hM.tr (hs.mono ?o12)
    case o12 => decide
    refine hb_if_eq (zx := r_9.toInt) (tgt := 45) hx hb rfl dX10_areLives_18 ?o13 (fun c_12 => ?_) (fun c_12 => ?_)
    case o13 => decide
    · skip
      replace hr_11 := hr_11.resolve_right (fun z9 => absurd (c_12.symm.trans z9.1) ?o14)
      case o14 => decide
      replace hr_11 := hr_11.2
      refine lv_iconst (v := 0) hx hb dX10_areLives_45 ?o15 ?_
      case o15 => decide
      exact hx_retz hx hb hr rfl hlk hW ⟨(by have zr : (0 : Int32).toInt = 0 := (by decide); (first | omega | (refine ⟨?_, ?_⟩ <;> omega))), hT, hM⟩ dX10_areLives_46
    · skip
      replace hr_11 := hr_11.resolve_left (fun z9 => c_12 z9.1)
      replace c_12 := hr_11.1
      replace hr_11 := hr_11.2
      refine lv_iload_n hx hb dX10_areLives_21 rfl (lv_at hl 2 rfl) ?_
      refine lv_iconst (v := 0) hx hb dX10_areLives_22 ?o16 ?_
      case o16 => decide
      refine lv_bipush (v := 99) hx hb dX10_areLives_23 ?o17 ?_
      case o17 => decide
      have zc_99 : (99 : Int32).toInt = 99 := ?o18
      case o18 => decide
      refine hx_goi (hx_runS (As := [.int i3, .int (0 : Int32), .int (99 : Int32)]) (rest := []) ⟨hx, hb, hml, hown, hts⟩ hW (t_X10_in l dC dI dA L_7 h_8 H.size i3 (0 : Int32) (99 : Int32) hT) (va_cwS 3 hts (hx_gS kw_1445 kw_1443 kw_1444 kw_103) rfl rfl rfl (by decide +kernel) ⟨Nat.le_of_ble_eq_true rfl, Nat.le_of_ble_eq_true rfl⟩) rfl hl.1 rfl (Nat.le_of_ble_eq_true rfl) dX10_areLives_25 ⟨Nat.le_of_ble_eq_true rfl, Nat.le_of_ble_eq_true rfl⟩) hW (fun r_15 L_13 h_14 H locs p_16 hW => ?_)
      obtain ⟨hr_17, hT, hs⟩ := p_16
      replace hT : hx_T T_tb L_13 h_14 := hT
      replace hs : hx_S T_tb [] L_7 h_8 L_13 h_14 := hs
      replace hM := hM.tr (hs.mono ?o19)
      case o19 => decide
      refine hb_if_eq (zx := r_15.toInt) (tgt := 45) hx hb rfl dX10_areLives_28 ?o20 (fun c_18 => ?_) (fun c_18 => ?_)
      case o20 => decide
      · skip
        replace hr_17 := hr_17.resolve_right (fun z9 => absurd (c_18.symm.trans z9.1) ?o21)
        case o21 => decide
        replace hr_17 := hr_17.2
        refine lv_iconst (v := 0) hx hb dX10_areLives_45 ?o22 ?_
        case o22 => decide
        exact hx_retz hx hb hr rfl hlk hW ⟨(by have zr : (0 : Int32).toInt = 0 := (by decide); (first | omega | (refine ⟨?_, ?_⟩ <;> omega))), hT, hM⟩ dX10_areLives_46
      · skip
        replace hr_17 := hr_17.resolve_left (fun z9 => c_18 z9.1)
        replace c_18 := hr_17.1
        replace hr_17 := hr_17.2
        refine lv_iload_n hx hb dX10_areLives_31 rfl (lv_at hl 3 rfl) ?_
        refine lv_iconst (v := 0) hx hb dX10_areLives_32 ?o23 ?_
        case o23 => decide
        refine lv_bipush (v := 99) hx hb dX10_areLives_33 ?o24 ?_
        case o24 => decide
        refine hx_goi (hx_runS (As := [.int i4, .int (0 : Int32), .int (99 : Int32)]) (rest := []) ⟨hx, hb, hml, hown, hts⟩ hW (t_X10_in l dC dI dA L_13 h_14 H.size i4 (0 : Int32) (99 : Int32) hT) (va_cwS 3 hts (hx_gS kw_1445 kw_1443 kw_1444 kw_103) rfl rfl rfl (by decide +kernel) ⟨Nat.le_of_ble_eq_true rfl, Nat.le_of_ble_eq_true rfl⟩) rfl hl.1 rfl (Nat.le_of_ble_eq_true rfl) dX10_areLives_35 ⟨Nat.le_of_ble_eq_true rfl, Nat.le_of_ble_eq_true rfl⟩) hW (fun r_21 L_19 h_20 H locs p_22 hW => ?_)
        obtain ⟨hr_23, hT, hs⟩ := p_22
        replace hT : hx_T T_tb L_19 h_20 := hT
        replace hs : hx_S T_tb [] L_13 h_14 L_19 h_20 := hs
        replace hM := hM.tr (hs.mono ?o25)
        case o25 => decide
        refine hb_if_eq (zx := r_21.toInt) (tgt := 45) hx hb rfl dX10_areLives_38 ?o26 (fun c_24 => ?_) (fun c_24 => ?_)
        case o26 => decide
        · skip
          replace hr_23 := hr_23.resolve_right (fun z9 => absurd (c_24.symm.trans z9.1) ?o27)
          case o27 => decide
          replace hr_23 := hr_23.2
          refine lv_iconst (v := 0) hx hb dX10_areLives_45 ?o28 ?_
          case o28 => decide
          exact hx_retz hx hb hr rfl hlk hW ⟨(by have zr : (0 : Int32).toInt = 0 := (by decide); (first | omega | (refine ⟨?_, ?_⟩ <;> omega))), hT, hM⟩ dX10_areLives_46
        · skip
          replace hr_23 := hr_23.resolve_left (fun z9 => c_24 z9.1)
          replace c_24 := hr_23.1
          replace hr_23 := hr_23.2
          refine lv_iconst (v := 1) hx hb dX10_areLives_41 ?o29 ?_
          case o29 => decide
          refine lv_goto (tgt := 46) hx hb dX10_areLives_42 ?o30 ?_
          case o30 => decide
          exact hx_retz hx hb hr rfl hlk hW ⟨(by have zr : (1 : Int32).toInt = 1 := (by decide); (first | omega | (refine ⟨?_, ?_⟩ <;> omega))), hT, hM⟩ dX10_areLives_46


set_option maxHeartbeats 4000000 in
set_option maxRecDepth 100000 in
theorem t_X10_lives_2 (l : Launch) (dC : Nat → ClassId) (dI : Nat → Nat → Nat) (dA : Nat → ClassId) (L : List Nat) (h : hx_h) (sz : Nat) (x : Nat) (i1 : Int32) (i2 : Int32) (i3 : Int32) (i4 : Int32) (i5 : Int32) (hT : hx_T T_tb L h) (gx : hx_g L h x 10) (qdx : Nat) (gqdx : hx_g L h qdx 61) (f_x_24 : h.2.2 x 24 = some qdx) (qdy : Nat) (gqdy : hx_g L h qdy 62) (f_x_25 : h.2.2 x 25 = some qdy) (qea : Nat) (gqea : hx_g L h qea 59) (f_x_22 : h.2.2 x 22 = some qea) (qhd : Nat) (gqhd : hx_g L h qhd 60) (f_x_23 : h.2.2 x 23 = some qhd) (dxf : Nat → Int32) (af_qdx : h.2.1 qdx = dxf) (dyf : Nat → Int32) (af_qdy : h.2.1 qdy = dyf) (eaf : Nat → Int32) (af_qea : h.2.1 qea = eaf) (hdf : Nat → Int32) (af_qhd : h.2.1 qhd = hdf) (hi1 : 0 ≤ i1.toInt ∧ i1.toInt ≤ 39) (hi2 : 0 ≤ i2.toInt ∧ i2.toInt ≤ 9999) (hi3 : 0 ≤ i3.toInt ∧ i3.toInt ≤ 20) (hi4 : 0 ≤ i4.toInt ∧ i4.toInt ≤ 99) (hi5 : 0 ≤ i5.toInt ∧ i5.toInt ≤ 99) : Met l yX10_lives (Cond.code yX10_lives cX10_lives 6 none :: hx_all) ({ frames := 0, cells := 0, slots := 0, locals := 0 }) (va_Pc [.ref x, .int i1, .int i2, .int i3, .int i4, .int i5] (hx_B T_tb (P_ty dA) (dC, dI) vwCl L h sz)) (va_Qv (fun (u : List Nat × hx_h) => (∃ (dxf1 : Nat → Int32) (dyf1 : Nat → Int32) (eaf1 : Nat → Int32) (hdf1 : Nat → Int32), u.2.2.1 qdx = dxf1 ∧ u.2.2.1 qdy = dyf1 ∧ u.2.2.1 qea = eaf1 ∧ u.2.2.1 qhd = hdf1 ∧ ((dxf1 = hx_up dxf i1.toInt.toNat i4 ∧ dyf1 = hx_up dyf i1.toInt.toNat i5) ∧ (eaf1 = hx_up eaf i1.toInt.toNat i2 ∧ hdf1 = hx_up hdf i1.toInt.toNat i3))) ∧ hx_T T_tb u.1 u.2 ∧ hx_S T_tb [(59, 0), (60, 0), (61, 0), (62, 0)] L h u.1 u.2) (hx_E T_tb (P_ty dA) (dC, dI) vwCl (hx_A L sz)) (hx_A L sz)) 0 0 (hx_A L sz) := by
  refine hx_met (lv := [(0, .ref x), (1, .int i1), (2, .int i2), (3, .int i3), (4, .int i4), (5, .int i5)]) (by decide +kernel) rfl (Nat.le_of_ble_eq_true rfl) rfl ?_
  intro p e s m below meth c hx hb hml hr hlk hts0 hown hin hsz hW ls hl
  have hts : ∀ w ∈ hx_all, w.before _ s = true := fun w hw => hts0 w (List.mem_cons_of_mem _ hw)
  have hown : s.vm.findClass "SmallCourtModel" = some m.cls := hown
  have hM : hx_S T_tb [(59, 0), (60, 0), (61, 0), (62, 0)] L h L h := hx_S.rf
  refine lv_aload_n hx hb dX10_lives_0 rfl (lv_at hl 0 rfl) ?_
  refine hk_getr hx hb hts hC_10 hown hW (gx.S hM) tt_10 22 ?o0 rfl kw_1165 ⟨rfl, rfl, rfl⟩ ((hM.o gx trivial rfl).2.trans f_x_22) dX10_lives_1 ?_
  case o0 => decide
  refine lv_iload_n hx hb dX10_lives_4 rfl (lv_at hl 1 rfl) ?_
  refine lv_iload_n hx hb dX10_lives_5 rfl (lv_at hl 2 rfl) ?_
  have af_qeaO := af_qea
  refine hx_iast hx hb hW hT (hx_S.rf (M := [(59, 0)])) (gqea.S hM) tt_59 rfl ⟨?o1, ?o2⟩ rfl ⟨?o3, ?o4⟩ (List.mem_singleton.mpr rfl) dX10_lives_6 (fun H locs h_1 eh_1 hW hT hs => ?_)
  case o1 => omega
  case o2 => omega
  case o3 => omega
  case o4 => omega
  replace af_qdx : h_1.2.1 qdx = dxf := (funext fun j => (hs.a (gqdx.S hM) rfl j).1).trans af_qdx
  replace af_qdy : h_1.2.1 qdy = dyf := (funext fun j => (hs.a (gqdy.S hM) rfl j).1).trans af_qdy
  replace af_qhd : h_1.2.1 qhd = hdf := (funext fun j => (hs.a (gqhd.S hM) rfl j).1).trans af_qhd
  replace hM := hM.tr (hs.mono ?o5)
  case o5 => decide
  obtain ⟨fa_2, dfa_2⟩ : ∃ g : Nat → Int32, g = hx_up eaf i1.toNatClampNeg i2 := ⟨_, rfl⟩
  have nfa_2 : h_1.2.1 qea = fa_2 := ?o6
  case o6 =>
    rw [eh_1, dfa_2, ← af_qeaO]
    exact hx_pi_fun _ _ _ _
  refine lv_aload_n hx hb dX10_lives_7 rfl (lv_at hl 0 rfl) ?_
  refine hk_getr hx hb hts hC_10 hown hW (gx.S hM) tt_10 23 ?o7 rfl kw_1166 ⟨rfl, rfl, rfl⟩ ((hM.o gx trivial rfl).2.trans f_x_23) dX10_lives_8 ?_
  case o7 => decide
  refine lv_iload_n hx hb dX10_lives_11 rfl (lv_at hl 1 rfl) ?_
  refine lv_iload_n hx hb dX10_lives_12 rfl (lv_at hl 3 rfl) ?_
  have af_qhdO := af_qhd
  refine hx_iast hx hb hW hT (hx_S.rf (M := [(60, 0)])) (gqhd.S hM) tt_60 rfl ⟨?o8, ?o9⟩ rfl ⟨?o10, ?o11⟩ (List.mem_singleton.mpr rfl) dX10_lives_13 (fun H locs h_3 eh_3 hW hT hs => ?_)
  case o8 => omega
  case o9 => omega
  case o10 => omega
  case o11 => omega
  replace af_qdx : h_3.2.1 qdx = dxf := (funext fun j => (hs.a (gqdx.S hM) rfl j).1).trans af_qdx
  replace af_qdy : h_3.2.1 qdy = dyf := (funext fun j => (hs.a (gqdy.S hM) rfl j).1).trans af_qdy
  replace nfa_2 : h_3.2.1 qea = fa_2 := (funext fun j => (hs.a (gqea.S hM) rfl j).1).trans nfa_2
  replace hM := hM.tr (hs.mono ?o12)
  case o12 => decide
  obtain ⟨fa_4, dfa_4⟩ : ∃ g : Nat → Int32, g = hx_up hdf i1.toNatClampNeg i3 := ⟨_, rfl⟩
  have nfa_4 : h_3.2.1 qhd = fa_4 := ?o13
  case o13 =>
    rw [eh_3, dfa_4, ← af_qhdO]
    exact hx_pi_fun _ _ _ _
  refine lv_aload_n hx hb dX10_lives_14 rfl (lv_at hl 0 rfl) ?_
  refine hk_getr hx hb hts hC_10 hown hW (gx.S hM) tt_10 24 ?o14 rfl kw_1167 ⟨rfl, rfl, rfl⟩ ((hM.o gx trivial rfl).2.trans f_x_24) dX10_lives_15 ?_
  case o14 => decide
  refine lv_iload_n hx hb dX10_lives_18 rfl (lv_at hl 1 rfl) ?_
  refine lv_iload hx hb dX10_lives_19 (lv_at hl 4 rfl) ?_
  have af_qdxO := af_qdx
  refine hx_iast hx hb hW hT (hx_S.rf (M := [(61, 0)])) (gqdx.S hM) tt_61 rfl ⟨?o15, ?o16⟩ rfl ⟨?o17, ?o18⟩ (List.mem_singleton.mpr rfl) dX10_lives_21 (fun H locs h_5 eh_5 hW hT hs => ?_)
  case o15 => omega
  case o16 => omega
  case o17 => omega
  case o18 => omega
  replace af_qdy : h_5.2.1 qdy = dyf := (funext fun j => (hs.a (gqdy.S hM) rfl j).1).trans af_qdy
  replace nfa_2 : h_5.2.1 qea = fa_2 := (funext fun j => (hs.a (gqea.S hM) rfl j).1).trans nfa_2
  replace nfa_4 : h_5.2.1 qhd = fa_4 := (funext fun j => (hs.a (gqhd.S hM) rfl j).1).trans nfa_4
  replace hM := hM.tr (hs.mono ?o19)
  case o19 => decide
  obtain ⟨fa_6, dfa_6⟩ : ∃ g : Nat → Int32, g = hx_up dxf i1.toNatClampNeg i4 := ⟨_, rfl⟩
  have nfa_6 : h_5.2.1 qdx = fa_6 := ?o20
  case o20 =>
    rw [eh_5, dfa_6, ← af_qdxO]
    exact hx_pi_fun _ _ _ _
  refine lv_aload_n hx hb dX10_lives_22 rfl (lv_at hl 0 rfl) ?_
  refine hk_getr hx hb hts hC_10 hown hW (gx.S hM) tt_10 25 ?o21 rfl kw_1168 ⟨rfl, rfl, rfl⟩ ((hM.o gx trivial rfl).2.trans f_x_25) dX10_lives_23 ?_
  case o21 => decide
  refine lv_iload_n hx hb dX10_lives_26 rfl (lv_at hl 1 rfl) ?_
  refine lv_iload hx hb dX10_lives_27 (lv_at hl 5 rfl) ?_
  have af_qdyO := af_qdy
  refine hx_iast hx hb hW hT (hx_S.rf (M := [(62, 0)])) (gqdy.S hM) tt_62 rfl ⟨?o22, ?o23⟩ rfl ⟨?o24, ?o25⟩ (List.mem_singleton.mpr rfl) dX10_lives_29 (fun H locs h_7 eh_7 hW hT hs => ?_)
  case o22 => omega
  case o23 => omega
  case o24 => omega
  case o25 => omega
  replace nfa_2 : h_7.2.1 qea = fa_2 := (funext fun j => (hs.a (gqea.S hM) rfl j).1).trans nfa_2
  replace nfa_4 : h_7.2.1 qhd = fa_4 := (funext fun j => (hs.a (gqhd.S hM) rfl j).1).trans nfa_4
  replace nfa_6 : h_7.2.1 qdx = fa_6 := (funext fun j => (hs.a (gqdx.S hM) rfl j).1).trans nfa_6
  replace hM := hM.tr (hs.mono ?o26)
  case o26 => decide
  obtain ⟨fa_8, dfa_8⟩ : ∃ g : Nat → Int32, g = hx_up dyf i1.toNatClampNeg i5 := ⟨_, rfl⟩
  have nfa_8 : h_7.2.1 qdy = fa_8 := ?o27
  case o27 =>
    rw [eh_7, dfa_8, ← af_qdyO]
    exact hx_pi_fun _ _ _ _
  exact hx_retv hx hb hr hlk hW ⟨⟨fa_6, fa_8, fa_2, fa_4, nfa_6, nfa_8, nfa_2, nfa_4, ⟨⟨dfa_6, dfa_8⟩, ⟨dfa_2, dfa_4⟩⟩⟩, hT, hM⟩ dX10_lives_30


set_option maxHeartbeats 4000000 in
set_option maxRecDepth 100000 in
theorem t_X10_dies_2 (l : Launch) (dC : Nat → ClassId) (dI : Nat → Nat → Nat) (dA : Nat → ClassId) (L : List Nat) (h : hx_h) (sz : Nat) (x : Nat) (i1 : Int32) (hT : hx_T T_tb L h) (gx : hx_g L h x 10) (qd : Nat) (gqd : hx_g L h qd 64) (f_x_27 : h.2.2 x 27 = some qd) (df : Nat → Int32) (af_qd : h.2.1 qd = df) (pn0 : Int32) (f_x_20 : h.2.1 x 20 = pn0) : Met l yX10_dies (Cond.code yX10_dies cX10_dies 2 (some .boolean) :: hx_all) ({ frames := 2, cells := 0, slots := 0, locals := 43 }) (va_Pc [.ref x, .int i1] (hx_B T_tb (P_ty dA) (dC, dI) vwCl L h sz)) (va_Qi (fun (r : Int32) (u : List Nat × hx_h) => (∃ (df1 : Nat → Int32), u.2.2.1 qd = df1 ∧ (hx_JS pn0.toInt i1.toInt 1 df r.toInt df1)) ∧ hx_T T_tb u.1 u.2 ∧ hx_S T_tb [(64, 0)] L h u.1 u.2) (hx_E T_tb (P_ty dA) (dC, dI) vwCl (hx_A L sz)) (hx_A L sz)) 0 0 (hx_A L sz) := by
  refine hx_met (lv := [(0, .ref x), (1, .int i1)]) (by decide +kernel) rfl (Nat.le_of_ble_eq_true rfl) rfl ?_
  intro p e s m below meth c hx hb hml hr hlk hts0 hown hin hsz hW ls hl
  have hts : ∀ w ∈ hx_all, w.before _ s = true := fun w hw => hts0 w (List.mem_cons_of_mem _ hw)
  have hown : s.vm.findClass "SmallCourtModel" = some m.cls := hown
  have hM : hx_S T_tb [(64, 0)] L h L h := hx_S.rf
  have b_pn0 := hT.gi gx tt_10 (k := 20) rfl
  rw [f_x_20] at b_pn0
  have b_pn0 : 0 ≤ pn0.toInt ∧ pn0.toInt ≤ 40 := b_pn0
  refine lv_aload_n hx hb dX10_dies_0 rfl (lv_at hl 0 rfl) ?_
  refine lv_iload_n hx hb dX10_dies_1 rfl (lv_at hl 1 rfl) ?_
  refine hx_goi (hx_runV (As := [.int i1]) (rest := []) ⟨hx, hb, hml, hown, hts⟩ hW (gx.S hM) tt_10 (T := TX10) (N := 98) rfl (t_X10_isPerson l dC dI dA L h s.heap.size x i1 hT (gx.S hM) pn0 ((hM.o gx trivial rfl).1.trans f_x_20)) (cwV 1 hts (hx_gV kw_1552 kw_1549 kw_1551 kw_68 kw_103) rfl rfl rfl (by decide +kernel) ⟨Nat.le_of_ble_eq_true rfl, Nat.le_of_ble_eq_true rfl⟩) rfl hl.1 rfl (Nat.le_of_ble_eq_true rfl) dX10_dies_2 ⟨Nat.le_of_ble_eq_true rfl, Nat.le_of_ble_eq_true rfl⟩) hW (fun r_3 L_1 h_2 H locs p_4 hW => ?_)
  obtain ⟨hr_5, hT, hs⟩ := p_4
  replace hT : hx_T T_tb L_1 h_2 := hT
  replace hs : hx_S T_tb [] L h L_1 h_2 := hs
  replace af_qd : h_2.2.1 qd = df := (funext fun j => (hs.a (gqd.S hM) rfl j).1).trans af_qd
  replace hM := hM.tr (hs.mono ?o0)
  case o0 => decide
  refine hb_if_eq (zx := r_3.toInt) (tgt := 17) hx hb rfl dX10_dies_5 ?o1 (fun c_6 => ?_) (fun c_6 => ?_)
  case o1 => decide
  · skip
    replace hr_5 := hr_5.resolve_right (fun z9 => absurd (c_6.symm.trans z9.1) ?o2)
    case o2 => decide
    replace hr_5 := hr_5.2
    refine lv_iconst (v := 0) hx hb dX10_dies_17 ?o3 ?_
    case o3 => decide
    refine hx_retz hx hb hr rfl hlk hW ⟨⟨df, af_qd, (Or.inl ⟨?o4, rfl, fun hc => by have := hc.1; have := hc.2.1; omega⟩)⟩, hT, hM⟩ dX10_dies_18
    case o4 => decide
  · skip
    replace hr_5 := hr_5.resolve_left (fun z9 => c_6 z9.1)
    replace c_6 := hr_5.1
    replace hr_5 := hr_5.2
    refine lv_aload_n hx hb dX10_dies_8 rfl (lv_at hl 0 rfl) ?_
    refine hk_getr hx hb hts hC_10 hown hW (gx.S hM) tt_10 27 ?o5 rfl kw_1170 ⟨rfl, rfl, rfl⟩ ((hM.o gx trivial rfl).2.trans f_x_27) dX10_dies_9 ?_
    case o5 => decide
    refine lv_iload_n hx hb dX10_dies_12 rfl (lv_at hl 1 rfl) ?_
    refine hx_zald hx hb hW hT (gqd.S hM) tt_64 rfl ⟨?o6, ?o7⟩ dX10_dies_13 (fun x_7 ex_7 lx_7 ux_7 => ?_)
    case o6 => omega
    case o7 => omega
    have ax_7 : x_7 = df i1.toNatClampNeg := ex_7.trans (congrFun af_qd _)
    refine hb_if_eq (zx := x_7.toInt) (tgt := 19) hx hb rfl dX10_dies_14 ?o8 (fun c_8 => ?_) (fun c_8 => ?_)
    case o8 => decide
    · skip
      refine lv_aload_n hx hb dX10_dies_19 rfl (lv_at hl 0 rfl) ?_
      refine hk_getr hx hb hts hC_10 hown hW (gx.S hM) tt_10 27 ?o9 rfl kw_1170 ⟨rfl, rfl, rfl⟩ ((hM.o gx trivial rfl).2.trans f_x_27) dX10_dies_20 ?_
      case o9 => decide
      refine lv_iload_n hx hb dX10_dies_23 rfl (lv_at hl 1 rfl) ?_
      refine lv_iconst (v := 1) hx hb dX10_dies_24 ?o10 ?_
      case o10 => decide
      have af_qdO := af_qd
      refine hx_zast hx hb hW hT (hx_S.rf (M := [(64, 0)])) (gqd.S hM) tt_64 rfl ⟨?o11, ?o12⟩ (y := 1) ?o13 ?o14 (List.mem_singleton.mpr rfl) dX10_dies_25 (fun H locs h_9 eh_9 hW hT hs => ?_)
      case o11 => omega
      case o12 => omega
      case o13 => decide
      case o14 => decide
      replace hM := hM.tr (hs.mono ?o15)
      case o15 => decide
      obtain ⟨fa_10, dfa_10⟩ : ∃ g : Nat → Int32, g = hx_up df i1.toNatClampNeg (1 : Int32) := ⟨_, rfl⟩
      have nfa_10 : h_9.2.1 qd = fa_10 := ?o16
      case o16 =>
        rw [eh_9, dfa_10, ← af_qdO]
        exact hx_pi_fun _ _ _ _
      refine lv_iconst (v := 1) hx hb dX10_dies_26 ?o17 ?_
      case o17 => decide
      refine hx_retz hx hb hr rfl hlk hW ⟨⟨fa_10, nfa_10, (Or.inr ⟨?o18, dfa_10, ?o19, ?o20, (by have z1 : (1 : Int32).toInt = 1 := (by decide); show (df i1.toNatClampNeg).toInt ≠ _; rw [← ax_7]; omega)⟩)⟩, hT, hM⟩ dX10_dies_27
      case o18 => decide
      case o19 => omega
      case o20 => omega
    · skip
      refine lv_iconst (v := 0) hx hb dX10_dies_17 ?o21 ?_
      case o21 => decide
      refine hx_retz hx hb hr rfl hlk hW ⟨⟨df, af_qd, (Or.inl ⟨?o22, rfl, fun hc => hc.2.2 (by have z1 : (1 : Int32).toInt = 1 := (by decide); show (df i1.toNatClampNeg).toInt = _; rw [← ax_7]; omega)⟩)⟩, hT, hM⟩ dX10_dies_18
      case o22 => decide


set_option maxHeartbeats 4000000 in
set_option maxRecDepth 100000 in
theorem t_X10_judge_2 (l : Launch) (dC : Nat → ClassId) (dI : Nat → Nat → Nat) (dA : Nat → ClassId) (L : List Nat) (h : hx_h) (sz : Nat) (x : Nat) (i1 : Int32) (i2 : Int32) (hT : hx_T T_tb L h) (gx : hx_g L h x 10) (qd : Nat) (gqd : hx_g L h qd 65) (f_x_28 : h.2.2 x 28 = some qd) (df : Nat → Int32) (af_qd : h.2.1 qd = df) (pn0 : Int32) (f_x_20 : h.2.1 x 20 = pn0) (hi2 : i2.toInt = 0 ∨ i2.toInt = 1) : Met l yX10_judge (Cond.code yX10_judge cX10_judge 3 (some .boolean) :: hx_all) ({ frames := 2, cells := 0, slots := 0, locals := 43 }) (va_Pc [.ref x, .int i1, .int i2] (hx_B T_tb (P_ty dA) (dC, dI) vwCl L h sz)) (va_Qi (fun (r : Int32) (u : List Nat × hx_h) => (∃ (df1 : Nat → Int32), u.2.2.1 qd = df1 ∧ (hx_JS pn0.toInt i1.toInt i2 df r.toInt df1)) ∧ hx_T T_tb u.1 u.2 ∧ hx_S T_tb [(65, 0)] L h u.1 u.2) (hx_E T_tb (P_ty dA) (dC, dI) vwCl (hx_A L sz)) (hx_A L sz)) 0 0 (hx_A L sz) := by
  refine hx_met (lv := [(0, .ref x), (1, .int i1), (2, .int i2)]) (by decide +kernel) rfl (Nat.le_of_ble_eq_true rfl) rfl ?_
  intro p e s m below meth c hx hb hml hr hlk hts0 hown hin hsz hW ls hl
  have hts : ∀ w ∈ hx_all, w.before _ s = true := fun w hw => hts0 w (List.mem_cons_of_mem _ hw)
  have hown : s.vm.findClass "SmallCourtModel" = some m.cls := hown
  have hM : hx_S T_tb [(65, 0)] L h L h := hx_S.rf
  have b_pn0 := hT.gi gx tt_10 (k := 20) rfl
  rw [f_x_20] at b_pn0
  have b_pn0 : 0 ≤ pn0.toInt ∧ pn0.toInt ≤ 40 := b_pn0
  refine lv_aload_n hx hb dX10_judge_0 rfl (lv_at hl 0 rfl) ?_
  refine lv_iload_n hx hb dX10_judge_1 rfl (lv_at hl 1 rfl) ?_
  refine hx_goi (hx_runV (As := [.int i1]) (rest := []) ⟨hx, hb, hml, hown, hts⟩ hW (gx.S hM) tt_10 (T := TX10) (N := 98) rfl (t_X10_isPerson l dC dI dA L h s.heap.size x i1 hT (gx.S hM) pn0 ((hM.o gx trivial rfl).1.trans f_x_20)) (cwV 1 hts (hx_gV kw_1552 kw_1549 kw_1551 kw_68 kw_103) rfl rfl rfl (by decide +kernel) ⟨Nat.le_of_ble_eq_true rfl, Nat.le_of_ble_eq_true rfl⟩) rfl hl.1 rfl (Nat.le_of_ble_eq_true rfl) dX10_judge_2 ⟨Nat.le_of_ble_eq_true rfl, Nat.le_of_ble_eq_true rfl⟩) hW (fun r_3 L_1 h_2 H locs p_4 hW => ?_)
  obtain ⟨hr_5, hT, hs⟩ := p_4
  replace hT : hx_T T_tb L_1 h_2 := hT
  replace hs : hx_S T_tb [] L h L_1 h_2 := hs
  replace af_qd : h_2.2.1 qd = df := (funext fun j => (hs.a (gqd.S hM) rfl j).1).trans af_qd
  replace hM := hM.tr (hs.mono ?o0)
  case o0 => decide
  refine hb_if_eq (zx := r_3.toInt) (tgt := 18) hx hb rfl dX10_judge_5 ?o1 (fun c_6 => ?_) (fun c_6 => ?_)
  case o1 => decide
  · skip
    replace hr_5 := hr_5.resolve_right (fun z9 => absurd (c_6.symm.trans z9.1) ?o2)
    case o2 => decide
    replace hr_5 := hr_5.2
    refine lv_iconst (v := 0) hx hb dX10_judge_18 ?o3 ?_
    case o3 => decide
    refine hx_retz hx hb hr rfl hlk hW ⟨⟨df, af_qd, (Or.inl ⟨?o4, rfl, fun hc => by have := hc.1; have := hc.2.1; omega⟩)⟩, hT, hM⟩ dX10_judge_19
    case o4 => decide
  · skip
    replace hr_5 := hr_5.resolve_left (fun z9 => c_6 z9.1)
    replace c_6 := hr_5.1
    replace hr_5 := hr_5.2
    refine lv_aload_n hx hb dX10_judge_8 rfl (lv_at hl 0 rfl) ?_
    refine hk_getr hx hb hts hC_10 hown hW (gx.S hM) tt_10 28 ?o5 rfl kw_1171 ⟨rfl, rfl, rfl⟩ ((hM.o gx trivial rfl).2.trans f_x_28) dX10_judge_9 ?_
    case o5 => decide
    refine lv_iload_n hx hb dX10_judge_12 rfl (lv_at hl 1 rfl) ?_
    refine hx_zald hx hb hW hT (gqd.S hM) tt_65 rfl ⟨?o6, ?o7⟩ dX10_judge_13 (fun x_7 ex_7 lx_7 ux_7 => ?_)
    case o6 => omega
    case o7 => omega
    have ax_7 : x_7 = df i1.toNatClampNeg := ex_7.trans (congrFun af_qd _)
    refine lv_iload_n hx hb dX10_judge_14 rfl (lv_at hl 2 rfl) ?_
    refine hb_icmp_ne (zx := x_7.toInt) (zy := i2.toInt) (tgt := 20) hx hb rfl rfl dX10_judge_15 ?o8 (fun c_8 => ?_) (fun c_8 => ?_)
    case o8 => decide
    · skip
      refine lv_aload_n hx hb dX10_judge_20 rfl (lv_at hl 0 rfl) ?_
      refine hk_getr hx hb hts hC_10 hown hW (gx.S hM) tt_10 28 ?o9 rfl kw_1171 ⟨rfl, rfl, rfl⟩ ((hM.o gx trivial rfl).2.trans f_x_28) dX10_judge_21 ?_
      case o9 => decide
      refine lv_iload_n hx hb dX10_judge_24 rfl (lv_at hl 1 rfl) ?_
      refine lv_iload_n hx hb dX10_judge_25 rfl (lv_at hl 2 rfl) ?_
      have af_qdO := af_qd
      refine hx_zast hx hb hW hT (hx_S.rf (M := [(65, 0)])) (gqd.S hM) tt_65 rfl ⟨?o10, ?o11⟩ (y := i2) (hx_nz01 ?o12) ⟨?o13, ?o14⟩ (List.mem_singleton.mpr rfl) dX10_judge_26 (fun H locs h_9 eh_9 hW hT hs => ?_)
      case o10 => omega
      case o11 => omega
      case o12 => omega
      case o13 => omega
      case o14 => omega
      replace hM := hM.tr (hs.mono ?o15)
      case o15 => decide
      obtain ⟨fa_10, dfa_10⟩ : ∃ g : Nat → Int32, g = hx_up df i1.toNatClampNeg i2 := ⟨_, rfl⟩
      have nfa_10 : h_9.2.1 qd = fa_10 := ?o16
      case o16 =>
        rw [eh_9, dfa_10, ← af_qdO]
        exact hx_pi_fun _ _ _ _
      refine lv_iconst (v := 1) hx hb dX10_judge_27 ?o17 ?_
      case o17 => decide
      refine hx_retz hx hb hr rfl hlk hW ⟨⟨fa_10, nfa_10, (Or.inr ⟨?o18, dfa_10, ?o19, ?o20, (by have z1 : (1 : Int32).toInt = 1 := (by decide); show (df i1.toNatClampNeg).toInt ≠ _; rw [← ax_7]; omega)⟩)⟩, hT, hM⟩ dX10_judge_28
      case o18 => decide
      case o19 => omega
      case o20 => omega
    · skip
      refine lv_iconst (v := 0) hx hb dX10_judge_18 ?o21 ?_
      case o21 => decide
      refine hx_retz hx hb hr rfl hlk hW ⟨⟨df, af_qd, (Or.inl ⟨?o22, rfl, fun hc => hc.2.2 (by have z1 : (1 : Int32).toInt = 1 := (by decide); show (df i1.toNatClampNeg).toInt = _; rw [← ax_7]; omega)⟩)⟩, hT, hM⟩ dX10_judge_19
      case o22 => decide


set_option maxHeartbeats 4000000 in
set_option maxRecDepth 100000 in
theorem t_X10_anew_2 (l : Launch) (dC : Nat → ClassId) (dI : Nat → Nat → Nat) (dA : Nat → ClassId) (L : List Nat) (h : hx_h) (sz : Nat) (x : Nat) (i1 : Int32) (i2 : Int32) (i3 : Int32) (i4 : Int32) (i5 : Int32) (hT : hx_T T_tb L h) (gx : hx_g L h x 10) (qd : Nat) (gqd : hx_g L h qd 64) (f_x_27 : h.2.2 x 27 = some qd) (qdx : Nat) (gqdx : hx_g L h qdx 61) (f_x_24 : h.2.2 x 24 = some qdx) (qdy : Nat) (gqdy : hx_g L h qdy 62) (f_x_25 : h.2.2 x 25 = some qdy) (qea : Nat) (gqea : hx_g L h qea 59) (f_x_22 : h.2.2 x 22 = some qea) (qhd : Nat) (gqhd : hx_g L h qhd 60) (f_x_23 : h.2.2 x 23 = some qhd) (df : Nat → Int32) (af_qd : h.2.1 qd = df) (dxf : Nat → Int32) (af_qdx : h.2.1 qdx = dxf) (dyf : Nat → Int32) (af_qdy : h.2.1 qdy = dyf) (eaf : Nat → Int32) (af_qea : h.2.1 qea = eaf) (hdf : Nat → Int32) (af_qhd : h.2.1 qhd = hdf) (pn0 : Int32) (f_x_20 : h.2.1 x 20 = pn0) : Met l yX10_anew (Cond.code yX10_anew cX10_anew 6 (some .boolean) :: hx_all) ({ frames := 2, cells := 0, slots := 0, locals := 45 }) (va_Pc [.ref x, .int i1, .int i2, .int i3, .int i4, .int i5] (hx_B T_tb (P_ty dA) (dC, dI) vwCl L h sz)) (va_Qi (fun (r : Int32) (u : List Nat × hx_h) => (∃ (dxf1 : Nat → Int32) (dyf1 : Nat → Int32) (eaf1 : Nat → Int32) (hdf1 : Nat → Int32), u.2.2.1 qdx = dxf1 ∧ u.2.2.1 qdy = dyf1 ∧ u.2.2.1 qea = eaf1 ∧ u.2.2.1 qhd = hdf1 ∧ ((hx_AS pn0.toInt i1.toInt i2.toInt i3.toInt i4.toInt i5.toInt df r.toInt ∧ hw_AD r.toInt i1.toInt i4 dxf dxf1 ∧ hw_AD r.toInt i1.toInt i5 dyf dyf1) ∧ (hw_AD r.toInt i1.toInt i2 eaf eaf1 ∧ hw_AD r.toInt i1.toInt i3 hdf hdf1))) ∧ hx_T T_tb u.1 u.2 ∧ hx_S T_tb [(59, 0), (60, 0), (61, 0), (62, 0)] L h u.1 u.2) (hx_E T_tb (P_ty dA) (dC, dI) vwCl (hx_A L sz)) (hx_A L sz)) 0 0 (hx_A L sz) := by
  refine hx_met (lv := [(0, .ref x), (1, .int i1), (2, .int i2), (3, .int i3), (4, .int i4), (5, .int i5)]) (by decide +kernel) rfl (Nat.le_of_ble_eq_true rfl) rfl ?_
  intro p e s m below meth c hx hb hml hr hlk hts0 hown hin hsz hW ls hl
  have hts : ∀ w ∈ hx_all, w.before _ s = true := fun w hw => hts0 w (List.mem_cons_of_mem _ hw)
  have hown : s.vm.findClass "SmallCourtModel" = some m.cls := hown
  have hM : hx_S T_tb [(59, 0), (60, 0), (61, 0), (62, 0)] L h L h := hx_S.rf
  have b_pn0 := hT.gi gx tt_10 (k := 20) rfl
  rw [f_x_20] at b_pn0
  have b_pn0 : 0 ≤ pn0.toInt ∧ pn0.toInt ≤ 40 := b_pn0
  refine lv_aload_n hx hb dX10_anew_0 rfl (lv_at hl 0 rfl) ?_
  refine lv_iload_n hx hb dX10_anew_1 rfl (lv_at hl 1 rfl) ?_
  refine hx_goi (hx_runV (As := [.int i1]) (rest := []) ⟨hx, hb, hml, hown, hts⟩ hW (gx.S hM) tt_10 (T := TX10) (N := 98) rfl (t_X10_isPerson l dC dI dA L h s.heap.size x i1 hT (gx.S hM) pn0 ((hM.o gx trivial rfl).1.trans f_x_20)) (cwV 1 hts (hx_gV kw_1552 kw_1549 kw_1551 kw_68 kw_103) rfl rfl rfl (by decide +kernel) ⟨Nat.le_of_ble_eq_true rfl, Nat.le_of_ble_eq_true rfl⟩) rfl hl.1 rfl (Nat.le_of_ble_eq_true rfl) dX10_anew_2 ⟨Nat.le_of_ble_eq_true rfl, Nat.le_of_ble_eq_true rfl⟩) hW (fun r_3 L_1 h_2 H locs p_4 hW => ?_)
  obtain ⟨hr_5, hT, hs⟩ := p_4
  replace hT : hx_T T_tb L_1 h_2 := hT
  replace hs : hx_S T_tb [] L h L_1 h_2 := hs
  replace af_qdx : h_2.2.1 qdx = dxf := (funext fun j => (hs.a (gqdx.S hM) rfl j).1).trans af_qdx
  replace af_qdy : h_2.2.1 qdy = dyf := (funext fun j => (hs.a (gqdy.S hM) rfl j).1).trans af_qdy
  replace af_qea : h_2.2.1 qea = eaf := (funext fun j => (hs.a (gqea.S hM) rfl j).1).trans af_qea
  replace af_qhd : h_2.2.1 qhd = hdf := (funext fun j => (hs.a (gqhd.S hM) rfl j).1).trans af_qhd
  replace hM := hM.tr (hs.mono ?o0)
  case o0 => decide
  refine hb_if_eq (zx := r_3.toInt) (tgt := 29) hx hb rfl dX10_anew_5 ?o1 (fun c_6 => ?_) (fun c_6 => ?_)
  case o1 => decide
  · skip
    replace hr_5 := hr_5.resolve_right (fun z9 => absurd (c_6.symm.trans z9.1) ?o2)
    case o2 => decide
    replace hr_5 := hr_5.2
    refine lv_iconst (v := 0) hx hb dX10_anew_29 ?o3 ?_
    case o3 => decide
    refine hx_retz hx hb hr rfl hlk hW ⟨⟨dxf, dyf, eaf, hdf, af_qdx, af_qdy, af_qea, af_qhd, ⟨⟨(Or.inl ⟨?o4, fun hc => by have := hc.1; omega⟩), (Or.inl ⟨?o5, rfl⟩), (Or.inl ⟨?o6, rfl⟩)⟩, ⟨(Or.inl ⟨?o7, rfl⟩), (Or.inl ⟨?o8, rfl⟩)⟩⟩⟩, hT, hM⟩ dX10_anew_30
    case o4 => decide
    case o5 => decide
    case o6 => decide
    case o7 => decide
    case o8 => decide
  · skip
    replace hr_5 := hr_5.resolve_left (fun z9 => c_6 z9.1)
    replace c_6 := hr_5.1
    replace hr_5 := hr_5.2
    refine lv_aload_n hx hb dX10_anew_8 rfl (lv_at hl 0 rfl) ?_
    refine hk_getr hx hb hts hC_10 hown hW (gx.S hM) tt_10 27 ?o9 rfl kw_1170 ⟨rfl, rfl, rfl⟩ ((hM.o gx trivial rfl).2.trans f_x_27) dX10_anew_9 ?_
    case o9 => decide
    refine lv_iload_n hx hb dX10_anew_12 rfl (lv_at hl 1 rfl) ?_
    refine hx_zald hx hb hW hT (gqd.S hM) tt_64 rfl ⟨?o10, ?o11⟩ dX10_anew_13 (fun x_7 ex_7 lx_7 ux_7 => ?_)
    case o10 => omega
    case o11 => omega
    have ax_7 : x_7 = df i1.toNatClampNeg := ex_7.trans (congrFun (hx_afS hM gqd rfl af_qd) _)
    refine hb_if_ne (zx := x_7.toInt) (tgt := 29) hx hb rfl dX10_anew_14 ?o12 (fun c_8 => ?_) (fun c_8 => ?_)
    case o12 => decide
    · skip
      refine lv_iconst (v := 0) hx hb dX10_anew_29 ?o13 ?_
      case o13 => decide
      refine hx_retz hx hb hr rfl hlk hW ⟨⟨dxf, dyf, eaf, hdf, af_qdx, af_qdy, af_qea, af_qhd, ⟨⟨(Or.inl ⟨?o14, fun hc => by have h1 : (df i1.toNatClampNeg).toInt = 0 := hc.2.1; have h2 := hc.2.2; unfold hx_hh at h2; rw [← ax_7] at h1; omega⟩), (Or.inl ⟨?o15, rfl⟩), (Or.inl ⟨?o16, rfl⟩)⟩, ⟨(Or.inl ⟨?o17, rfl⟩), (Or.inl ⟨?o18, rfl⟩)⟩⟩⟩, hT, hM⟩ dX10_anew_30
      case o14 => decide
      case o15 => decide
      case o16 => decide
      case o17 => decide
      case o18 => decide
    · skip
      refine lv_iload_n hx hb dX10_anew_17 rfl (lv_at hl 2 rfl) ?_
      refine lv_iload_n hx hb dX10_anew_18 rfl (lv_at hl 3 rfl) ?_
      refine lv_iload hx hb dX10_anew_19 (lv_at hl 4 rfl) ?_
      refine lv_iload hx hb dX10_anew_21 (lv_at hl 5 rfl) ?_
      refine hx_goi (hx_runS (As := [.int i2, .int i3, .int i4, .int i5]) (rest := []) ⟨hx, hb, hml, hown, hts⟩ hW (t_X10_areLives_2 l dC dI dA L_1 h_2 H.size i2 i3 i4 i5 hT) (va_cwS 4 hts (hx_gS kw_1540 kw_1538 kw_1539 kw_103) rfl rfl rfl (by decide +kernel) ⟨Nat.le_of_ble_eq_true rfl, Nat.le_of_ble_eq_true rfl⟩) rfl hl.1 rfl (Nat.le_of_ble_eq_true rfl) dX10_anew_23 ⟨Nat.le_of_ble_eq_true rfl, Nat.le_of_ble_eq_true rfl⟩) hW (fun r_11 L_9 h_10 H locs p_12 hW => ?_)
      obtain ⟨hr_13, hT, hs⟩ := p_12
      replace hT : hx_T T_tb L_9 h_10 := hT
      replace hs : hx_S T_tb [] L_1 h_2 L_9 h_10 := hs
      replace af_qdx : h_10.2.1 qdx = dxf := (funext fun j => (hs.a (gqdx.S hM) rfl j).1).trans af_qdx
      replace af_qdy : h_10.2.1 qdy = dyf := (funext fun j => (hs.a (gqdy.S hM) rfl j).1).trans af_qdy
      replace af_qea : h_10.2.1 qea = eaf := (funext fun j => (hs.a (gqea.S hM) rfl j).1).trans af_qea
      replace af_qhd : h_10.2.1 qhd = hdf := (funext fun j => (hs.a (gqhd.S hM) rfl j).1).trans af_qhd
      replace ex_7 := ex_7.trans (hs.a (gqd.S hM) rfl _).1.symm
      replace hM := hM.tr (hs.mono ?o19)
      case o19 => decide
      refine hb_if_ne (zx := r_11.toInt) (tgt := 31) hx hb rfl dX10_anew_26 ?o20 (fun c_14 => ?_) (fun c_14 => ?_)
      case o20 => decide
      · skip
        refine lv_aload_n hx hb dX10_anew_31 rfl (lv_at hl 0 rfl) ?_
        refine lv_iload_n hx hb dX10_anew_32 rfl (lv_at hl 1 rfl) ?_
        refine lv_iload_n hx hb dX10_anew_33 rfl (lv_at hl 2 rfl) ?_
        refine lv_iload_n hx hb dX10_anew_34 rfl (lv_at hl 3 rfl) ?_
        refine lv_iload hx hb dX10_anew_35 (lv_at hl 4 rfl) ?_
        refine lv_iload hx hb dX10_anew_37 (lv_at hl 5 rfl) ?_
        refine hx_gov (hx_runV (As := [.int i1, .int i2, .int i3, .int i4, .int i5]) (rest := []) ⟨hx, hb, hml, hown, hts⟩ hW (gx.S hM) tt_10 (T := TX10) (N := 98) rfl (t_X10_lives_2 l dC dI dA L_9 h_10 H.size x i1 i2 i3 i4 i5 hT (gx.S hM) qdx (gqdx.S hM) ((hM.o gx trivial rfl).2.trans f_x_24) qdy (gqdy.S hM) ((hM.o gx trivial rfl).2.trans f_x_25) qea (gqea.S hM) ((hM.o gx trivial rfl).2.trans f_x_22) qhd (gqhd.S hM) ((hM.o gx trivial rfl).2.trans f_x_23) dxf af_qdx dyf af_qdy eaf af_qea hdf af_qhd ⟨?o21, ?o22⟩ ⟨?o23, ?o24⟩ ⟨?o25, ?o26⟩ ⟨?o27, ?o28⟩ ⟨?o29, ?o30⟩) (cwV 5 hts (hx_gV kw_1544 kw_1541 kw_1543 kw_67 kw_103) rfl rfl rfl (by decide +kernel) ⟨Nat.le_of_ble_eq_true rfl, Nat.le_of_ble_eq_true rfl⟩) rfl hl.1 rfl (Nat.le_of_ble_eq_true rfl) dX10_anew_39 ⟨Nat.le_of_ble_eq_true rfl, Nat.le_of_ble_eq_true rfl⟩) hW (fun L_15 h_16 H locs p_18 hW => ?_)
        case o21 => omega
        case o22 => omega
        case o23 => omega
        case o24 => omega
        case o25 => omega
        case o26 => omega
        case o27 => omega
        case o28 => omega
        case o29 => omega
        case o30 => omega
        obtain ⟨⟨w_20, w_21, w_22, w_23, fw_20, fw_21, fw_22, fw_23, hr_19⟩, hT, hs⟩ := p_18
        replace hT : hx_T T_tb L_15 h_16 := hT
        replace hs : hx_S T_tb [(59, 0), (60, 0), (61, 0), (62, 0)] L_9 h_10 L_15 h_16 := hs
        replace ex_7 := ex_7.trans (hs.a (gqd.S hM) rfl _).1.symm
        replace hM := hM.tr (hs.mono ?o31)
        case o31 => decide
        have fw_20 : h_16.2.1 qdx = w_20 := fw_20
        have fw_21 : h_16.2.1 qdy = w_21 := fw_21
        have fw_22 : h_16.2.1 qea = w_22 := fw_22
        have fw_23 : h_16.2.1 qhd = w_23 := fw_23
        obtain ⟨hr_19a, hr_19b⟩ := hr_19
        refine lv_iconst (v := 1) hx hb dX10_anew_42 ?o32 ?_
        case o32 => decide
        refine hx_retz hx hb hr rfl hlk hW ⟨⟨w_20, w_21, w_22, w_23, fw_20, fw_21, fw_22, fw_23, ⟨⟨(Or.inr ⟨?o33, ⟨?o34, ?o35⟩, (by show (df i1.toNatClampNeg).toInt = 0; rw [← ax_7]; omega), by unfold hx_hh; omega⟩), (Or.inr ⟨?o36, (hr_19a.1.trans (congrArg (fun z => hx_up dxf z i4) ?o37))⟩), (Or.inr ⟨?o38, (hr_19a.2.trans (congrArg (fun z => hx_up dyf z i5) ?o39))⟩)⟩, ⟨(Or.inr ⟨?o40, (hr_19b.1.trans (congrArg (fun z => hx_up eaf z i2) ?o41))⟩), (Or.inr ⟨?o42, (hr_19b.2.trans (congrArg (fun z => hx_up hdf z i3) ?o43))⟩)⟩⟩⟩, hT, hM⟩ dX10_anew_43
        case o33 => decide
        case o34 => omega
        case o35 => omega
        case o36 => decide
        case o37 => omega
        case o38 => decide
        case o39 => omega
        case o40 => decide
        case o41 => omega
        case o42 => decide
        case o43 => omega
      · skip
        refine lv_iconst (v := 0) hx hb dX10_anew_29 ?o44 ?_
        case o44 => decide
        refine hx_retz hx hb hr rfl hlk hW ⟨⟨dxf, dyf, eaf, hdf, af_qdx, af_qdy, af_qea, af_qhd, ⟨⟨(Or.inl ⟨?o45, fun hc => by have h1 : (df i1.toNatClampNeg).toInt = 0 := hc.2.1; have h2 := hc.2.2; unfold hx_hh at h2; rw [← ax_7] at h1; omega⟩), (Or.inl ⟨?o46, rfl⟩), (Or.inl ⟨?o47, rfl⟩)⟩, ⟨(Or.inl ⟨?o48, rfl⟩), (Or.inl ⟨?o49, rfl⟩)⟩⟩⟩, hT, hM⟩ dX10_anew_30
        case o45 => decide
        case o46 => decide
        case o47 => decide
        case o48 => decide
        case o49 => decide


set_option maxHeartbeats 4000000 in
set_option maxRecDepth 100000 in
theorem t_X10_summons_2 (l : Launch) (dC : Nat → ClassId) (dI : Nat → Nat → Nat) (dA : Nat → ClassId) (L : List Nat) (h : hx_h) (sz : Nat) (x : Nat) (i1 : Int32) (i2 : Int32) (hT : hx_T T_tb L h) (gx : hx_g L h x 10) (qtr : Nat) (gqtr : hx_g L h qtr 80) (f_x_45 : h.2.2 x 45 = some qtr) (qf : Nat) (gqf : hx_g L h qf 81) (f_x_46 : h.2.2 x 46 = some qf) (qh : Nat) (gqh : hx_g L h qh 82) (f_x_47 : h.2.2 x 47 = some qh) (trf : Nat → Int32) (af_qtr : h.2.1 qtr = trf) (ff : Nat → Int32) (af_qf : h.2.1 qf = ff) (hf : Nat → Int32) (af_qh : h.2.1 qh = hf) (c0 : Int32) (f_x_36 : h.2.1 x 36 = c0) (nw0 : Int32) (f_x_0 : h.2.1 x 0 = nw0) (T1 : Int) (hT1 : T1 ≤ 511) (hTR : hx_TR trf T1) (hHF : hx_HF c0.toInt hf ff) : Met l yX10_summons (Cond.code yX10_summons cX10_summons 3 (some .int) :: hx_all) ({ frames := 2, cells := 0, slots := 0, locals := 43 }) (va_Pc [.ref x, .int i1, .int i2] (hx_B T_tb (P_ty dA) (dC, dI) vwCl L h sz)) (va_Qi (fun (r : Int32) (u : List Nat × hx_h) => (∃ (trf1 : Nat → Int32) (ff1 : Nat → Int32), u.2.2.1 qtr = trf1 ∧ u.2.2.1 qf = ff1 ∧ (hx_TR trf1 (T1 + 1) ∧ hx_SS c0.toInt i1.toInt i2 nw0 r ff ff1 trf trf1)) ∧ hx_T T_tb u.1 u.2 ∧ hx_S T_tb [(80, 0), (81, 0)] L h u.1 u.2) (hx_E T_tb (P_ty dA) (dC, dI) vwCl (hx_A L sz)) (hx_A L sz)) 0 0 (hx_A L sz) := by
  refine hx_met (lv := [(0, .ref x), (1, .int i1), (2, .int i2)]) (by decide +kernel) rfl (Nat.le_of_ble_eq_true rfl) rfl ?_
  intro p e s m below meth c hx hb hml hr hlk hts0 hown hin hsz hW ls hl
  have hts : ∀ w ∈ hx_all, w.before _ s = true := fun w hw => hts0 w (List.mem_cons_of_mem _ hw)
  have hown : s.vm.findClass "SmallCourtModel" = some m.cls := hown
  have hM : hx_S T_tb [(80, 0), (81, 0)] L h L h := hx_S.rf
  have b_c0 := hT.gi gx tt_10 (k := 36) rfl
  rw [f_x_36] at b_c0
  have b_c0 : 0 ≤ c0.toInt ∧ c0.toInt ≤ 100 := b_c0
  have b_nw0 := hT.gi gx tt_10 (k := 0) rfl
  rw [f_x_0] at b_nw0
  have b_nw0 : 0 ≤ nw0.toInt ∧ nw0.toInt ≤ 7999 := b_nw0
  refine lv_aload_n hx hb dX10_summons_0 rfl (lv_at hl 0 rfl) ?_
  refine lv_iload_n hx hb dX10_summons_1 rfl (lv_at hl 1 rfl) ?_
  refine hx_goi (hx_runV (As := [.int i1]) (rest := []) ⟨hx, hb, hml, hown, hts⟩ hW (gx.S hM) tt_10 (T := TX10) (N := 98) rfl (t_X10_isClaim l dC dI dA L h s.heap.size x i1 hT (gx.S hM) c0 ((hM.o gx trivial rfl).1.trans f_x_36)) (cwV 1 hts (hx_gV kw_1597 kw_1594 kw_1596 kw_73 kw_103) rfl rfl rfl (by decide +kernel) ⟨Nat.le_of_ble_eq_true rfl, Nat.le_of_ble_eq_true rfl⟩) rfl hl.1 rfl (Nat.le_of_ble_eq_true rfl) dX10_summons_2 ⟨Nat.le_of_ble_eq_true rfl, Nat.le_of_ble_eq_true rfl⟩) hW (fun r_3 L_1 h_2 H locs p_4 hW => ?_)
  obtain ⟨hr_5, hT, hs⟩ := p_4
  replace hT : hx_T T_tb L_1 h_2 := hT
  replace hs : hx_S T_tb [] L h L_1 h_2 := hs
  replace af_qtr : h_2.2.1 qtr = trf := (funext fun j => (hs.a (gqtr.S hM) rfl j).1).trans af_qtr
  replace af_qf : h_2.2.1 qf = ff := (funext fun j => (hs.a (gqf.S hM) rfl j).1).trans af_qf
  replace hM := hM.tr (hs.mono ?o0)
  case o0 => decide
  refine hb_if_eq (zx := r_3.toInt) (tgt := 28) hx hb rfl dX10_summons_5 ?o1 (fun c_6 => ?_) (fun c_6 => ?_)
  case o1 => decide
  · skip
    replace hr_5 := hr_5.resolve_right (fun z9 => absurd (c_6.symm.trans z9.1) ?o2)
    case o2 => decide
    replace hr_5 := hr_5.2
    refine lv_iconst (v := -1) hx hb dX10_summons_28 ?o3 ?_
    case o3 => decide
    refine hx_reti hx hb hr hlk hW ⟨⟨trf, ff, af_qtr, af_qf, ⟨(hx_TR_le hTR ?o4), (Or.inl ⟨rfl, rfl, rfl, fun hc => by have := hc.1; have := hc.2.1; omega⟩)⟩⟩, hT, hM⟩ dX10_summons_29
    case o4 => omega
  · skip
    replace hr_5 := hr_5.resolve_left (fun z9 => c_6 z9.1)
    replace c_6 := hr_5.1
    replace hr_5 := hr_5.2
    refine lv_aload_n hx hb dX10_summons_8 rfl (lv_at hl 0 rfl) ?_
    refine hk_getr hx hb hts hC_10 hown hW (gx.S hM) tt_10 46 ?o5 rfl kw_1189 ⟨rfl, rfl, rfl⟩ ((hM.o gx trivial rfl).2.trans f_x_46) dX10_summons_9 ?_
    case o5 => decide
    refine lv_iload_n hx hb dX10_summons_12 rfl (lv_at hl 1 rfl) ?_
    refine hx_iald hx hb hW hT (gqf.S hM) tt_81 rfl ⟨?o6, ?o7⟩ dX10_summons_13 (fun x_7 ex_7 lx_7 ux_7 => ?_)
    case o6 => omega
    case o7 => omega
    have ax_7 : x_7 = ff i1.toNatClampNeg := ex_7.trans (congrFun af_qf _)
    refine lv_iconst (v := -1) hx hb dX10_summons_14 ?o8 ?_
    case o8 => decide
    refine hb_icmp_ne (zx := x_7.toInt) (zy := (-1)) (tgt := 28) hx hb rfl ?o9 dX10_summons_15 ?o10 (fun c_8 => ?_) (fun c_8 => ?_)
    case o9 => decide
    case o10 => decide
    · skip
      refine lv_iconst (v := -1) hx hb dX10_summons_28 ?o11 ?_
      case o11 => decide
      refine hx_reti hx hb hr hlk hW ⟨⟨trf, ff, af_qtr, af_qf, ⟨(hx_TR_le hTR ?o12), (Or.inl ⟨rfl, rfl, rfl, fun hc => by have h1 : (ff i1.toNatClampNeg).toInt = -1 := hc.2.2; rw [← ax_7] at h1; omega⟩)⟩⟩, hT, hM⟩ dX10_summons_29
      case o12 => omega
    · skip
      refine lv_aload_n hx hb dX10_summons_18 rfl (lv_at hl 0 rfl) ?_
      refine hk_getr hx hb hts hC_10 hown hW (gx.S hM) tt_10 47 ?o13 rfl kw_1190 ⟨rfl, rfl, rfl⟩ ((hM.o gx trivial rfl).2.trans f_x_47) dX10_summons_19 ?_
      case o13 => decide
      refine lv_iload_n hx hb dX10_summons_22 rfl (lv_at hl 1 rfl) ?_
      refine hx_iald hx hb hW hT (gqh.S hM) tt_82 rfl ⟨?o14, ?o15⟩ dX10_summons_23 (fun x_9 ex_9 lx_9 ux_9 => ?_)
      case o14 => omega
      case o15 => omega
      have ax_9 : x_9 = hf i1.toNatClampNeg := ex_9.trans (congrFun (hx_afS hM gqh rfl af_qh) _)
      refine lv_iconst (v := -1) hx hb dX10_summons_24 ?o16 ?_
      case o16 => decide
      refine hb_icmp_eq (zx := x_9.toInt) (zy := (-1)) (tgt := 30) hx hb rfl ?o17 dX10_summons_25 ?o18 (fun c_10 => ?_) (fun c_10 => ?_)
      case o17 => decide
      case o18 => decide
      · skip
        refine lv_aload_n hx hb dX10_summons_30 rfl (lv_at hl 0 rfl) ?_
        refine hk_getr hx hb hts hC_10 hown hW (gx.S hM) tt_10 45 ?o19 rfl kw_1188 ⟨rfl, rfl, rfl⟩ ((hM.o gx trivial rfl).2.trans f_x_45) dX10_summons_31 ?_
        case o19 => decide
        refine lv_iload_n hx hb dX10_summons_34 rfl (lv_at hl 1 rfl) ?_
        refine lv_dup2_11 hx hb dX10_summons_35 rfl rfl ?_
        refine hx_iald hx hb hW hT (gqtr.S hM) tt_80 rfl ⟨?o20, ?o21⟩ dX10_summons_36 (fun x_11 ex_11 lx_11 ux_11 => ?_)
        case o20 => omega
        case o21 => omega
        have ax_11 : x_11 = trf i1.toNatClampNeg := ex_11.trans (congrFun af_qtr _)
        have htr : x_11.toInt ≤ T1 := ?o22
        case o22 =>
          rw [ax_11]
          exact hTR _ (by unfold Int32.toNatClampNeg; omega)
        refine lv_iconst (v := 1) hx hb dX10_summons_37 ?o23 ?_
        case o23 => decide
        refine lv_iadd hx hb dX10_summons_38 ?_
        have rg_12 := i32_r x_11
        refine lv_topi (fun x_13 ex_13 => ?_)
        have zx_13 : x_13.toInt = x_11.toInt + 1 := ?o24
        case o24 =>
          rw [ex_13]
          refine i32_add rfl ?o25 ?o26 ?o27
          case o25 => decide
          case o26 => omega
          case o27 => omega
        have af_qtrO := af_qtr
        refine hx_iast hx hb hW hT (hx_S.rf (M := [(80, 0)])) (gqtr.S hM) tt_80 rfl ⟨?o28, ?o29⟩ rfl ⟨?o30, ?o31⟩ (List.mem_singleton.mpr rfl) dX10_summons_39 (fun H locs h_14 eh_14 hW hT hs => ?_)
        case o28 => omega
        case o29 => omega
        case o30 => omega
        case o31 => omega
        replace af_qf : h_14.2.1 qf = ff := (funext fun j => (hs.a (gqf.S hM) rfl j).1).trans af_qf
        replace ex_7 := ex_7.trans (hs.a (gqf.S hM) rfl _).1.symm
        replace ex_9 := ex_9.trans (hs.a (gqh.S hM) rfl _).1.symm
        replace hM := hM.tr (hs.mono ?o32)
        case o32 => decide
        obtain ⟨fa_15, dfa_15⟩ : ∃ g : Nat → Int32, g = hx_up trf i1.toNatClampNeg x_13 := ⟨_, rfl⟩
        have nfa_15 : h_14.2.1 qtr = fa_15 := ?o33
        case o33 =>
          rw [eh_14, dfa_15, ← af_qtrO]
          exact hx_pi_fun _ _ _ _
        refine lv_iload_n hx hb dX10_summons_40 rfl (lv_at hl 2 rfl) ?_
        refine hb_if_eq (zx := i2.toInt) (tgt := 54) hx hb rfl dX10_summons_41 ?o34 (fun c_16 => ?_) (fun c_16 => ?_)
        case o34 => decide
        · skip
          refine lv_aload_n hx hb dX10_summons_54 rfl (lv_at hl 0 rfl) ?_
          refine hk_getr hx hb hts hC_10 hown hW (gx.S hM) tt_10 45 ?o35 rfl kw_1188 ⟨rfl, rfl, rfl⟩ ((hM.o gx trivial rfl).2.trans f_x_45) dX10_summons_55 ?_
          case o35 => decide
          refine lv_iload_n hx hb dX10_summons_58 rfl (lv_at hl 1 rfl) ?_
          refine hx_iald hx hb hW hT (gqtr.S hM) tt_80 rfl ⟨?o36, ?o37⟩ dX10_summons_59 (fun x_17 ex_17 lx_17 ux_17 => ?_)
          case o36 => omega
          case o37 => omega
          have ax_17 : x_17 = fa_15 i1.toNatClampNeg := ex_17.trans (congrFun nfa_15 _)
          refine hx_reti hx hb hr hlk hW ⟨⟨fa_15, ff, nfa_15, af_qf, ⟨(hx_TR_up hTR dfa_15 ?o38), (Or.inr ⟨⟨?o39, ?o40, (by show (ff i1.toNatClampNeg).toInt = -1; rw [← ax_7]; omega)⟩, (by rw [ax_17, dfa_15, hx_up_at, ex_13, ax_11]; rfl), (by rw [dfa_15, ex_13, ax_11]; rfl), (Or.inl ⟨?o41, rfl⟩)⟩)⟩⟩, hT, hM⟩ dX10_summons_60
          case o38 => omega
          case o39 => omega
          case o40 => omega
          case o41 => omega
        · skip
          refine lv_aload_n hx hb dX10_summons_44 rfl (lv_at hl 0 rfl) ?_
          refine hk_getr hx hb hts hC_10 hown hW (gx.S hM) tt_10 46 ?o42 rfl kw_1189 ⟨rfl, rfl, rfl⟩ ((hM.o gx trivial rfl).2.trans f_x_46) dX10_summons_45 ?_
          case o42 => decide
          refine lv_iload_n hx hb dX10_summons_48 rfl (lv_at hl 1 rfl) ?_
          refine lv_aload_n hx hb dX10_summons_49 rfl (lv_at hl 0 rfl) ?_
          refine hk_geti hx hb hts hC_10 hown hW (gx.S hM) tt_10 0 ?o43 rfl kw_1143 ⟨rfl, rfl, rfl⟩ ((hM.o gx trivial rfl).1.trans f_x_0) dX10_summons_50 ?_
          case o43 => decide
          have af_qfO := af_qf
          refine hx_iast hx hb hW hT (hx_S.rf (M := [(81, 0)])) (gqf.S hM) tt_81 rfl ⟨?o44, ?o45⟩ rfl ⟨?o46, ?o47⟩ (List.mem_singleton.mpr rfl) dX10_summons_53 (fun H locs h_18 eh_18 hW hT hs => ?_)
          case o44 => omega
          case o45 => omega
          case o46 => omega
          case o47 => omega
          replace nfa_15 : h_18.2.1 qtr = fa_15 := (funext fun j => (hs.a (gqtr.S hM) rfl j).1).trans nfa_15
          replace ex_9 := ex_9.trans (hs.a (gqh.S hM) rfl _).1.symm
          replace hM := hM.tr (hs.mono ?o48)
          case o48 => decide
          obtain ⟨fa_19, dfa_19⟩ : ∃ g : Nat → Int32, g = hx_up ff i1.toNatClampNeg nw0 := ⟨_, rfl⟩
          have nfa_19 : h_18.2.1 qf = fa_19 := ?o49
          case o49 =>
            rw [eh_18, dfa_19, ← af_qfO]
            exact hx_pi_fun _ _ _ _
          refine lv_aload_n hx hb dX10_summons_54 rfl (lv_at hl 0 rfl) ?_
          refine hk_getr hx hb hts hC_10 hown hW (gx.S hM) tt_10 45 ?o50 rfl kw_1188 ⟨rfl, rfl, rfl⟩ ((hM.o gx trivial rfl).2.trans f_x_45) dX10_summons_55 ?_
          case o50 => decide
          refine lv_iload_n hx hb dX10_summons_58 rfl (lv_at hl 1 rfl) ?_
          refine hx_iald hx hb hW hT (gqtr.S hM) tt_80 rfl ⟨?o51, ?o52⟩ dX10_summons_59 (fun x_20 ex_20 lx_20 ux_20 => ?_)
          case o51 => omega
          case o52 => omega
          have ax_20 : x_20 = fa_15 i1.toNatClampNeg := ex_20.trans (congrFun nfa_15 _)
          refine hx_reti hx hb hr hlk hW ⟨⟨fa_15, fa_19, nfa_15, nfa_19, ⟨(hx_TR_up hTR dfa_15 ?o53), (Or.inr ⟨⟨?o54, ?o55, (by show (ff i1.toNatClampNeg).toInt = -1; rw [← ax_7]; omega)⟩, (by rw [ax_20, dfa_15, hx_up_at, ex_13, ax_11]; rfl), (by rw [dfa_15, ex_13, ax_11]; rfl), (Or.inr ⟨?o56, dfa_19⟩)⟩)⟩⟩, hT, hM⟩ dX10_summons_60
          case o53 => omega
          case o54 => omega
          case o55 => omega
          case o56 => omega
      · skip
        refine lv_iconst (v := -1) hx hb dX10_summons_28 ?o57 ?_
        case o57 => decide
        refine hx_reti hx hb hr hlk hW ⟨⟨trf, ff, af_qtr, af_qf, ⟨(hx_TR_le hTR ?o58), (Or.inl ⟨rfl, rfl, rfl, fun hc => hHF i1.toNatClampNeg (by unfold Int32.toNatClampNeg; omega) (by rw [← ax_9]; omega) hc.2.2⟩)⟩⟩, hT, hM⟩ dX10_summons_29
        case o58 => omega


set_option maxHeartbeats 4000000 in
set_option maxRecDepth 100000 in
theorem t_X10_list_2 (l : Launch) (dC : Nat → ClassId) (dI : Nat → Nat → Nat) (dA : Nat → ClassId) (L : List Nat) (h : hx_h) (sz : Nat) (x : Nat) (i1 : Int32) (hT : hx_T T_tb L h) (gx : hx_g L h x 10) (qf : Nat) (gqf : hx_g L h qf 81) (f_x_46 : h.2.2 x 46 = some qf) (qh : Nat) (gqh : hx_g L h qh 82) (f_x_47 : h.2.2 x 47 = some qh) (qls : Nat) (gqls : hx_g L h qls 112) (f_x_91 : h.2.2 x 91 = some qls) (ff : Nat → Int32) (af_qf : h.2.1 qf = ff) (hf : Nat → Int32) (af_qh : h.2.1 qh = hf) (lf : Nat → Int32) (af_qls : h.2.1 qls = lf) (c0 : Int32) (f_x_36 : h.2.1 x 36 = c0) (ln0 : Int32) (f_x_90 : h.2.1 x 90 = ln0) (hHF : hx_HF c0.toInt hf ff) : Met l yX10_list (Cond.code yX10_list cX10_list 3 (some .int) :: hx_all) ({ frames := 2, cells := 0, slots := 0, locals := 43 }) (va_Pc [.ref x, .int i1] (hx_B T_tb (P_ty dA) (dC, dI) vwCl L h sz)) (va_Qi (fun (r : Int32) (u : List Nat × hx_h) => (∃ (ln1 : Int32) (lf1 : Nat → Int32), u.2.2.1 x 90 = ln1 ∧ u.2.2.1 qls = lf1 ∧ (hx_WL c0.toInt i1.toInt ln0.toInt i1 ff lf lf1 r.toInt ln1.toInt)) ∧ hx_T T_tb u.1 u.2 ∧ hx_S T_tb [(10, 90), (112, 0)] L h u.1 u.2) (hx_E T_tb (P_ty dA) (dC, dI) vwCl (hx_A L sz)) (hx_A L sz)) 0 0 (hx_A L sz) := by
  refine hx_met (lv := [(0, .ref x), (1, .int i1)]) (by decide +kernel) rfl (Nat.le_of_ble_eq_true rfl) rfl ?_
  intro p e s m below meth c hx hb hml hr hlk hts0 hown hin hsz hW ls hl
  have hts : ∀ w ∈ hx_all, w.before _ s = true := fun w hw => hts0 w (List.mem_cons_of_mem _ hw)
  have hown : s.vm.findClass "SmallCourtModel" = some m.cls := hown
  have hM : hx_S T_tb [(10, 90), (112, 0)] L h L h := hx_S.rf
  have b_c0 := hT.gi gx tt_10 (k := 36) rfl
  rw [f_x_36] at b_c0
  have b_c0 : 0 ≤ c0.toInt ∧ c0.toInt ≤ 100 := b_c0
  have b_ln0 := hT.gi gx tt_10 (k := 90) rfl
  rw [f_x_90] at b_ln0
  have b_ln0 : 0 ≤ ln0.toInt ∧ ln0.toInt ≤ 8 := b_ln0
  refine lv_aload_n hx hb dX10_list_0 rfl (lv_at hl 0 rfl) ?_
  refine lv_iload_n hx hb dX10_list_1 rfl (lv_at hl 1 rfl) ?_
  refine hx_goi (hx_runV (As := [.int i1]) (rest := []) ⟨hx, hb, hml, hown, hts⟩ hW (gx.S hM) tt_10 (T := TX10) (N := 98) rfl (t_X10_isClaim l dC dI dA L h s.heap.size x i1 hT (gx.S hM) c0 ((hM.o gx trivial rfl).1.trans f_x_36)) (cwV 1 hts (hx_gV kw_1597 kw_1594 kw_1596 kw_73 kw_103) rfl rfl rfl (by decide +kernel) ⟨Nat.le_of_ble_eq_true rfl, Nat.le_of_ble_eq_true rfl⟩) rfl hl.1 rfl (Nat.le_of_ble_eq_true rfl) dX10_list_2 ⟨Nat.le_of_ble_eq_true rfl, Nat.le_of_ble_eq_true rfl⟩) hW (fun r_3 L_1 h_2 H locs p_4 hW => ?_)
  obtain ⟨hr_5, hT, hs⟩ := p_4
  replace hT : hx_T T_tb L_1 h_2 := hT
  replace hs : hx_S T_tb [] L h L_1 h_2 := hs
  replace f_x_90 := (hs.o (gx.S hM) trivial rfl).1.trans f_x_90
  replace af_qls : h_2.2.1 qls = lf := (funext fun j => (hs.a (gqls.S hM) rfl j).1).trans af_qls
  replace hM := hM.tr (hs.mono ?o0)
  case o0 => decide
  refine hb_if_eq (zx := r_3.toInt) (tgt := 37) hx hb rfl dX10_list_5 ?o1 (fun c_6 => ?_) (fun c_6 => ?_)
  case o1 => decide
  · skip
    replace hr_5 := hr_5.resolve_right (fun z9 => absurd (c_6.symm.trans z9.1) ?o2)
    case o2 => decide
    replace hr_5 := hr_5.2
    refine lv_iconst (v := -1) hx hb dX10_list_37 ?o3 ?_
    case o3 => decide
    refine hx_reti hx hb hr hlk hW ⟨⟨ln0, lf, f_x_90, af_qls, (Or.inl ⟨?o4, rfl, ?o5, fun hc => by have := hc.1; have := hc.2.1; omega⟩)⟩, hT, hM⟩ dX10_list_38
    case o4 => decide
    case o5 => omega
  · skip
    replace hr_5 := hr_5.resolve_left (fun z9 => c_6 z9.1)
    replace c_6 := hr_5.1
    replace hr_5 := hr_5.2
    refine lv_aload_n hx hb dX10_list_8 rfl (lv_at hl 0 rfl) ?_
    refine hk_getr hx hb hts hC_10 hown hW (gx.S hM) tt_10 46 ?o6 rfl kw_1189 ⟨rfl, rfl, rfl⟩ ((hM.o gx trivial rfl).2.trans f_x_46) dX10_list_9 ?_
    case o6 => decide
    refine lv_iload_n hx hb dX10_list_12 rfl (lv_at hl 1 rfl) ?_
    refine hx_iald hx hb hW hT (gqf.S hM) tt_81 rfl ⟨?o7, ?o8⟩ dX10_list_13 (fun x_7 ex_7 lx_7 ux_7 => ?_)
    case o7 => omega
    case o8 => omega
    have ax_7 : x_7 = ff i1.toNatClampNeg := ex_7.trans (congrFun (hx_afS hM gqf rfl af_qf) _)
    refine lv_iconst (v := -1) hx hb dX10_list_14 ?o9 ?_
    case o9 => decide
    refine hb_icmp_ne (zx := x_7.toInt) (zy := (-1)) (tgt := 37) hx hb rfl ?o10 dX10_list_15 ?o11 (fun c_8 => ?_) (fun c_8 => ?_)
    case o10 => decide
    case o11 => decide
    · skip
      refine lv_iconst (v := -1) hx hb dX10_list_37 ?o12 ?_
      case o12 => decide
      refine hx_reti hx hb hr hlk hW ⟨⟨ln0, lf, f_x_90, af_qls, (Or.inl ⟨?o13, rfl, ?o14, fun hc => by have h1 : (ff i1.toNatClampNeg).toInt = -1 := hc.2.2.1; rw [← ax_7] at h1; omega⟩)⟩, hT, hM⟩ dX10_list_38
      case o13 => decide
      case o14 => omega
    · skip
      refine lv_aload_n hx hb dX10_list_18 rfl (lv_at hl 0 rfl) ?_
      refine hk_getr hx hb hts hC_10 hown hW (gx.S hM) tt_10 47 ?o15 rfl kw_1190 ⟨rfl, rfl, rfl⟩ ((hM.o gx trivial rfl).2.trans f_x_47) dX10_list_19 ?_
      case o15 => decide
      refine lv_iload_n hx hb dX10_list_22 rfl (lv_at hl 1 rfl) ?_
      refine hx_iald hx hb hW hT (gqh.S hM) tt_82 rfl ⟨?o16, ?o17⟩ dX10_list_23 (fun x_9 ex_9 lx_9 ux_9 => ?_)
      case o16 => omega
      case o17 => omega
      have ax_9 : x_9 = hf i1.toNatClampNeg := ex_9.trans (congrFun (hx_afS hM gqh rfl af_qh) _)
      refine lv_iconst (v := -1) hx hb dX10_list_24 ?o18 ?_
      case o18 => decide
      refine hb_icmp_ne (zx := x_9.toInt) (zy := (-1)) (tgt := 37) hx hb rfl ?o19 dX10_list_25 ?o20 (fun c_10 => ?_) (fun c_10 => ?_)
      case o19 => decide
      case o20 => decide
      · skip
        refine lv_iconst (v := -1) hx hb dX10_list_37 ?o21 ?_
        case o21 => decide
        refine hx_reti hx hb hr hlk hW ⟨⟨ln0, lf, f_x_90, af_qls, (Or.inl ⟨?o22, rfl, ?o23, fun hc => by have h2 := hc.2.2.2.2; have h3 := hHF i1.toNatClampNeg (by unfold Int32.toNatClampNeg; omega); rw [← ax_9, ← ax_7] at h3; omega⟩)⟩, hT, hM⟩ dX10_list_38
        case o22 => decide
        case o23 => omega
      · skip
        refine lv_aload_n hx hb dX10_list_28 rfl (lv_at hl 0 rfl) ?_
        refine hk_geti hx hb hts hC_10 hown hW (gx.S hM) tt_10 90 ?o24 rfl kw_1233 ⟨rfl, rfl, rfl⟩ f_x_90 dX10_list_29 ?_
        case o24 => decide
        refine lv_bipush (v := 8) hx hb dX10_list_32 ?o25 ?_
        case o25 => decide
        refine hb_icmp_ne (zx := ln0.toInt) (zy := 8) (tgt := 39) hx hb rfl ?o26 dX10_list_34 ?o27 (fun c_11 => ?_) (fun c_11 => ?_)
        case o26 => decide
        case o27 => decide
        · skip
          refine lv_iconst (v := 0) hx hb dX10_list_39 ?o28 ?_
          case o28 => decide
          refine lv_istore_n (lv' := [(2, .int (0 : Int32)), (0, .ref x), (1, .int i1)]) hx hb dX10_list_40 rfl hl ?o29 rfl (fun ls hl => ?_)
          case o29 => decide
          have loop41 : ∀ (n41 : Nat) (iv41_2 : Int32) (H : Heap) (locs : List Loc) (hL1 : List Nat) (hl1 : hx_h), 0 ≤ iv41_2.toInt → iv41_2.toInt ≤ 8 → (∀ k : Nat, (k : Int) < iv41_2.toInt → lf k ≠ i1) → ∀ (ls : Array Slot), 8 - iv41_2.toInt < (n41 : Int) → hx_W T_tb (P_ty dA) (dC, dI) vwCl (hx_A L sz) s.heap hL1 hl1 s H locs → hx_T T_tb hL1 hl1 → hx_S T_tb [(10, 90), (112, 0)] L h hL1 hl1 → hl1.2.1 x 90 = ln0 → hl1.2.1 qls = lf → lv_has ls 3 [(2, .int iv41_2), (0, .ref x), (1, .int i1)] → W p l e ({ frames := 2, cells := 0, slots := 0, locals := 43 }) s m ([.ref x, .int i1] : List Value).toArray below meth c H locs 0 0 (MQ below (va_Qi (fun (r : Int32) (u : List Nat × hx_h) => (∃ (ln1 : Int32) (lf1 : Nat → Int32), u.2.2.1 x 90 = ln1 ∧ u.2.2.1 qls = lf1 ∧ (hx_WL c0.toInt i1.toInt ln0.toInt i1 ff lf lf1 r.toInt ln1.toInt)) ∧ hx_T T_tb u.1 u.2 ∧ hx_S T_tb [(10, 90), (112, 0)] L h u.1 u.2) (hx_E T_tb (P_ty dA) (dC, dI) vwCl (hx_A L sz)) (hx_A L sz)) ([.ref x, .int i1] : List Value).toArray s 0 0 (hx_A L sz)) (F0 m 41 ls []) := by
            intro n41
            induction n41 with
            | zero => intro iv41_2 H locs hL1 hl1 bliv41_2 buiv41_2 vi41_0 ls hn41; exfalso; omega
            | succ n41 ih41 =>
              intro iv41_2 H locs hL1 hl1 bliv41_2 buiv41_2 vi41_0 ls hn41 hW hT hM f_x_90 af_qls hl
              refine lv_iload_n hx hb dX10_list_41 rfl (lv_at hl 0 rfl) ?_
              refine lv_aload_n hx hb dX10_list_42 rfl (lv_at hl 1 rfl) ?_
              refine hk_geti hx hb hts hC_10 hown hW (gx.S hM) tt_10 90 ?o30 rfl kw_1233 ⟨rfl, rfl, rfl⟩ f_x_90 dX10_list_43 ?_
              case o30 => decide
              refine hb_icmp_ge (zx := iv41_2.toInt) (zy := ln0.toInt) (tgt := 67) hx hb rfl rfl dX10_list_46 ?o31 (fun c_12 => ?_) (fun c_12 => ?_)
              case o31 => decide
              · skip
                refine lv_aload_n hx hb dX10_list_67 rfl (lv_at hl 1 rfl) ?_
                refine hk_geti hx hb hts hC_10 hown hW (gx.S hM) tt_10 90 ?o32 rfl kw_1233 ⟨rfl, rfl, rfl⟩ f_x_90 dX10_list_68 ?_
                case o32 => decide
                refine lv_istore_n (lv' := [(2, .int ln0), (0, .ref x), (1, .int i1)]) hx hb dX10_list_71 rfl hl ?o33 rfl (fun ls hl => ?_)
                case o33 => decide
                have loop72 : ∀ (n72 : Nat) (iv72_2 : Int32) (ia72_qls : Nat → Int32) (H : Heap) (locs : List Loc) (hL1 : List Nat) (hl1 : hx_h), 0 ≤ iv72_2.toInt → iv72_2.toInt ≤ 8 → (iv72_2.toInt ≤ ln0.toInt) → (hx_is lf ia72_qls ln0.toInt iv72_2.toInt i1) → ∀ (ls : Array Slot), iv72_2.toInt < (n72 : Int) → hx_W T_tb (P_ty dA) (dC, dI) vwCl (hx_A L sz) s.heap hL1 hl1 s H locs → hx_T T_tb hL1 hl1 → hx_S T_tb [(10, 90), (112, 0)] L h hL1 hl1 → hl1.2.1 x 90 = ln0 → hl1.2.1 qls = ia72_qls → lv_has ls 3 [(2, .int iv72_2), (0, .ref x), (1, .int i1)] → W p l e ({ frames := 2, cells := 0, slots := 0, locals := 43 }) s m ([.ref x, .int i1] : List Value).toArray below meth c H locs 0 0 (MQ below (va_Qi (fun (r : Int32) (u : List Nat × hx_h) => (∃ (ln1 : Int32) (lf1 : Nat → Int32), u.2.2.1 x 90 = ln1 ∧ u.2.2.1 qls = lf1 ∧ (hx_WL c0.toInt i1.toInt ln0.toInt i1 ff lf lf1 r.toInt ln1.toInt)) ∧ hx_T T_tb u.1 u.2 ∧ hx_S T_tb [(10, 90), (112, 0)] L h u.1 u.2) (hx_E T_tb (P_ty dA) (dC, dI) vwCl (hx_A L sz)) (hx_A L sz)) ([.ref x, .int i1] : List Value).toArray s 0 0 (hx_A L sz)) (F0 m 72 ls []) := by
                  intro n72
                  induction n72 with
                  | zero => intro iv72_2 ia72_qls H locs hL1 hl1 bliv72_2 buiv72_2 vi72_0 vi72_1 ls hn72; exfalso; omega
                  | succ n72 ih72 =>
                    intro iv72_2 ia72_qls H locs hL1 hl1 bliv72_2 buiv72_2 vi72_0 vi72_1 ls hn72 hW hT hM f_x_90 nia72_qls hl
                    refine lv_iload_n hx hb dX10_list_72 rfl (lv_at hl 0 rfl) ?_
                    refine hb_if_le (zx := iv72_2.toInt) (tgt := 108) hx hb rfl dX10_list_73 ?o34 (fun c_13 => ?_) (fun c_13 => ?_)
                    case o34 => decide
                    · skip
                      refine lv_aload_n hx hb dX10_list_108 rfl (lv_at hl 1 rfl) ?_
                      refine hk_getr hx hb hts hC_10 hown hW (gx.S hM) tt_10 91 ?o35 rfl kw_1234 ⟨rfl, rfl, rfl⟩ ((hM.o gx trivial rfl).2.trans f_x_91) dX10_list_109 ?_
                      case o35 => decide
                      refine lv_iload_n hx hb dX10_list_112 rfl (lv_at hl 0 rfl) ?_
                      refine lv_iload_n hx hb dX10_list_113 rfl (lv_at hl 2 rfl) ?_
                      have nia72_qlsO := nia72_qls
                      refine hx_iast hx hb hW hT (hx_S.rf (M := [(112, 0)])) (gqls.S hM) tt_112 rfl ⟨?o36, ?o37⟩ rfl ⟨?o38, ?o39⟩ (List.mem_singleton.mpr rfl) dX10_list_114 (fun H locs h_14 eh_14 hW hT hs => ?_)
                      case o36 => omega
                      case o37 => omega
                      case o38 => omega
                      case o39 => omega
                      replace f_x_90 := (hs.o (gx.S hM) trivial rfl).1.trans f_x_90
                      replace hM := hM.tr (hs.mono ?o40)
                      case o40 => decide
                      obtain ⟨fa_15, dfa_15⟩ : ∃ g : Nat → Int32, g = hx_up ia72_qls iv72_2.toNatClampNeg i1 := ⟨_, rfl⟩
                      have nfa_15 : h_14.2.1 qls = fa_15 := ?o41
                      case o41 =>
                        rw [eh_14, dfa_15, ← nia72_qlsO]
                        exact hx_pi_fun _ _ _ _
                      refine lv_aload_n hx hb dX10_list_115 rfl (lv_at hl 1 rfl) ?_
                      refine lv_dup hx hb dX10_list_116 rfl ?_
                      refine hk_geti hx hb hts hC_10 hown hW (gx.S hM) tt_10 90 ?o42 rfl kw_1233 ⟨rfl, rfl, rfl⟩ f_x_90 dX10_list_117 ?_
                      case o42 => decide
                      refine lv_iconst (v := 1) hx hb dX10_list_120 ?o43 ?_
                      case o43 => decide
                      refine lv_iadd hx hb dX10_list_121 ?_
                      have rg_16 := i32_r ln0
                      refine lv_topi (fun x_17 ex_17 => ?_)
                      have zx_17 : x_17.toInt = ln0.toInt + 1 := ?o44
                      case o44 =>
                        rw [ex_17]
                        refine i32_add rfl ?o45 ?o46 ?o47
                        case o45 => decide
                        case o46 => omega
                        case o47 => omega
                      refine hx_puti hx hb hts hC_10 hown hW hT (hx_S.rf (M := [(10, 90)])) (gx.S hM) tt_10 90 ?o48 rfl kw_1233 ⟨rfl, rfl, rfl⟩ rfl (x := x_17) ⟨?o49, ?o50⟩ rfl rfl rfl (List.mem_singleton.mpr rfl) dX10_list_122 (fun H locs h_18 eh_18 hW hT hs => ?_)
                      case o48 => decide
                      case o49 => omega
                      case o50 => omega
                      replace nfa_15 : h_18.2.1 qls = fa_15 := (funext fun j => (hs.a (gqls.S hM) rfl j).1).trans nfa_15
                      replace hM := hM.tr (hs.mono ?o51)
                      case o51 => decide
                      have f_19 : h_18.2.1 x 90 = x_17 := ?o52
                      case o52 =>
                        rw [eh_18]
                        exact hx_pi_at _ _ _ _
                      refine lv_aload_n hx hb dX10_list_125 rfl (lv_at hl 1 rfl) ?_
                      refine hk_geti hx hb hts hC_10 hown hW (gx.S hM) tt_10 90 ?o53 rfl kw_1233 ⟨rfl, rfl, rfl⟩ f_19 dX10_list_126 ?_
                      case o53 => decide
                      refine hx_reti hx hb hr hlk hW ⟨⟨x_17, fa_15, f_19, nfa_15, (Or.inr ⟨?o54, ?o55, ⟨iv72_2.toInt, _, ?o56, ?o57, vi72_1, dfa_15, (Or.inl ?o58)⟩, ?o59, ?o60, (by show (ff i1.toNatClampNeg).toInt = -1; rw [← ax_7]; omega), (fun hc => by obtain ⟨k, hk, ek⟩ := hc; exact vi41_0 k (by omega) ek), ?o61⟩)⟩, hT, hM⟩ dX10_list_129
                      case o54 => omega
                      case o55 => omega
                      case o56 => omega
                      case o57 => omega
                      case o58 => omega
                      case o59 => omega
                      case o60 => omega
                      case o61 => omega
                    · skip
                      refine lv_aload_n hx hb dX10_list_76 rfl (lv_at hl 1 rfl) ?_
                      refine hk_getr hx hb hts hC_10 hown hW (gx.S hM) tt_10 91 ?o62 rfl kw_1234 ⟨rfl, rfl, rfl⟩ ((hM.o gx trivial rfl).2.trans f_x_91) dX10_list_77 ?_
                      case o62 => decide
                      refine lv_iload_n hx hb dX10_list_80 rfl (lv_at hl 0 rfl) ?_
                      refine lv_iconst (v := 1) hx hb dX10_list_81 ?o63 ?_
                      case o63 => decide
                      refine lv_isub hx hb dX10_list_82 ?_
                      have rg_20 := i32_r iv72_2
                      refine lv_topi (fun x_21 ex_21 => ?_)
                      have zx_21 : x_21.toInt = iv72_2.toInt - 1 := ?o64
                      case o64 =>
                        rw [ex_21]
                        refine i32_sub rfl ?o65 ?o66 ?o67
                        case o65 => decide
                        case o66 => omega
                        case o67 => omega
                      refine hx_iald hx hb hW hT (gqls.S hM) tt_112 rfl ⟨?o68, ?o69⟩ dX10_list_83 (fun x_22 ex_22 lx_22 ux_22 => ?_)
                      case o68 => omega
                      case o69 => omega
                      have ax_22 : x_22 = ia72_qls x_21.toNatClampNeg := ex_22.trans (congrFun nia72_qls _)
                      refine lv_iload_n hx hb dX10_list_84 rfl (lv_at hl 2 rfl) ?_
                      refine hb_icmp_le (zx := x_22.toInt) (zy := i1.toInt) (tgt := 108) hx hb rfl rfl dX10_list_85 ?o70 (fun c_23 => ?_) (fun c_23 => ?_)
                      case o70 => decide
                      · skip
                        refine lv_aload_n hx hb dX10_list_108 rfl (lv_at hl 1 rfl) ?_
                        refine hk_getr hx hb hts hC_10 hown hW (gx.S hM) tt_10 91 ?o71 rfl kw_1234 ⟨rfl, rfl, rfl⟩ ((hM.o gx trivial rfl).2.trans f_x_91) dX10_list_109 ?_
                        case o71 => decide
                        refine lv_iload_n hx hb dX10_list_112 rfl (lv_at hl 0 rfl) ?_
                        refine lv_iload_n hx hb dX10_list_113 rfl (lv_at hl 2 rfl) ?_
                        have nia72_qlsO := nia72_qls
                        refine hx_iast hx hb hW hT (hx_S.rf (M := [(112, 0)])) (gqls.S hM) tt_112 rfl ⟨?o72, ?o73⟩ rfl ⟨?o74, ?o75⟩ (List.mem_singleton.mpr rfl) dX10_list_114 (fun H locs h_24 eh_24 hW hT hs => ?_)
                        case o72 => omega
                        case o73 => omega
                        case o74 => omega
                        case o75 => omega
                        replace f_x_90 := (hs.o (gx.S hM) trivial rfl).1.trans f_x_90
                        replace hM := hM.tr (hs.mono ?o76)
                        case o76 => decide
                        obtain ⟨fa_25, dfa_25⟩ : ∃ g : Nat → Int32, g = hx_up ia72_qls iv72_2.toNatClampNeg i1 := ⟨_, rfl⟩
                        have nfa_25 : h_24.2.1 qls = fa_25 := ?o77
                        case o77 =>
                          rw [eh_24, dfa_25, ← nia72_qlsO]
                          exact hx_pi_fun _ _ _ _
                        refine lv_aload_n hx hb dX10_list_115 rfl (lv_at hl 1 rfl) ?_
                        refine lv_dup hx hb dX10_list_116 rfl ?_
                        refine hk_geti hx hb hts hC_10 hown hW (gx.S hM) tt_10 90 ?o78 rfl kw_1233 ⟨rfl, rfl, rfl⟩ f_x_90 dX10_list_117 ?_
                        case o78 => decide
                        refine lv_iconst (v := 1) hx hb dX10_list_120 ?o79 ?_
                        case o79 => decide
                        refine lv_iadd hx hb dX10_list_121 ?_
                        have rg_26 := i32_r ln0
                        refine lv_topi (fun x_27 ex_27 => ?_)
                        have zx_27 : x_27.toInt = ln0.toInt + 1 := ?o80
                        case o80 =>
                          rw [ex_27]
                          refine i32_add rfl ?o81 ?o82 ?o83
                          case o81 => decide
                          case o82 => omega
                          case o83 => omega
                        refine hx_puti hx hb hts hC_10 hown hW hT (hx_S.rf (M := [(10, 90)])) (gx.S hM) tt_10 90 ?o84 rfl kw_1233 ⟨rfl, rfl, rfl⟩ rfl (x := x_27) ⟨?o85, ?o86⟩ rfl rfl rfl (List.mem_singleton.mpr rfl) dX10_list_122 (fun H locs h_28 eh_28 hW hT hs => ?_)
                        case o84 => decide
                        case o85 => omega
                        case o86 => omega
                        replace nfa_25 : h_28.2.1 qls = fa_25 := (funext fun j => (hs.a (gqls.S hM) rfl j).1).trans nfa_25
                        replace hM := hM.tr (hs.mono ?o87)
                        case o87 => decide
                        have f_29 : h_28.2.1 x 90 = x_27 := ?o88
                        case o88 =>
                          rw [eh_28]
                          exact hx_pi_at _ _ _ _
                        refine lv_aload_n hx hb dX10_list_125 rfl (lv_at hl 1 rfl) ?_
                        refine hk_geti hx hb hts hC_10 hown hW (gx.S hM) tt_10 90 ?o89 rfl kw_1233 ⟨rfl, rfl, rfl⟩ f_29 dX10_list_126 ?_
                        case o89 => decide
                        exact hx_reti hx hb hr hlk hW ⟨⟨x_27, fa_25, f_29, nfa_25, (Or.inr ⟨by omega, by omega, ⟨iv72_2.toInt, _, by omega, by omega, vi72_1, dfa_25, (by first | exact Or.inl (by omega) | exact Or.inr (by rw [← vi72_1.1 _ (by omega), ← show (x_21.toNatClampNeg) = (iv72_2.toInt - 1).toNat from by unfold Int32.toNatClampNeg; omega, ← ax_22]; omega))⟩, by omega, by omega, (by show (ff i1.toNatClampNeg).toInt = -1; rw [← ax_7]; omega), (fun hc => by obtain ⟨k, hk, ek⟩ := hc; exact vi41_0 k (by omega) ek), by omega⟩)⟩, hT, hM⟩ dX10_list_129
                      · skip
                        refine lv_aload_n hx hb dX10_list_88 rfl (lv_at hl 1 rfl) ?_
                        refine hk_getr hx hb hts hC_10 hown hW (gx.S hM) tt_10 91 ?o90 rfl kw_1234 ⟨rfl, rfl, rfl⟩ ((hM.o gx trivial rfl).2.trans f_x_91) dX10_list_89 ?_
                        case o90 => decide
                        refine lv_iload_n hx hb dX10_list_92 rfl (lv_at hl 0 rfl) ?_
                        refine lv_aload_n hx hb dX10_list_93 rfl (lv_at hl 1 rfl) ?_
                        refine hk_getr hx hb hts hC_10 hown hW (gx.S hM) tt_10 91 ?o91 rfl kw_1234 ⟨rfl, rfl, rfl⟩ ((hM.o gx trivial rfl).2.trans f_x_91) dX10_list_94 ?_
                        case o91 => decide
                        refine lv_iload_n hx hb dX10_list_97 rfl (lv_at hl 0 rfl) ?_
                        refine lv_iconst (v := 1) hx hb dX10_list_98 ?o92 ?_
                        case o92 => decide
                        refine lv_isub hx hb dX10_list_99 ?_
                        refine lv_topi (fun x_30 ex_30 => ?_)
                        have zx_30 : x_30.toInt = iv72_2.toInt - 1 := ?o93
                        case o93 =>
                          rw [ex_30]
                          refine i32_sub rfl ?o94 ?o95 ?o96
                          case o94 => decide
                          case o95 => omega
                          case o96 => omega
                        obtain rfl : x_21 = x_30 := ex_21.trans ex_30.symm
                        refine hx_iald hx hb hW hT (gqls.S hM) tt_112 rfl ⟨?o97, ?o98⟩ dX10_list_100 (fun x_31 ex_31 lx_31 ux_31 => ?_)
                        case o97 => omega
                        case o98 => omega
                        have ax_31 : x_31 = ia72_qls x_21.toNatClampNeg := ex_31.trans (congrFun nia72_qls _)
                        obtain rfl : x_22 = x_31 := ex_22.trans ex_31.symm
                        have nia72_qlsO := nia72_qls
                        refine hx_iast hx hb hW hT (hx_S.rf (M := [(112, 0)])) (gqls.S hM) tt_112 rfl ⟨?o99, ?o100⟩ rfl ⟨?o101, ?o102⟩ (List.mem_singleton.mpr rfl) dX10_list_101 (fun H locs h_32 eh_32 hW hT hs => ?_)
                        case o99 => omega
                        case o100 => omega
                        case o101 => omega
                        case o102 => omega
                        replace f_x_90 := (hs.o (gx.S hM) trivial rfl).1.trans f_x_90
                        replace hM := hM.tr (hs.mono ?o103)
                        case o103 => decide
                        obtain ⟨fa_33, dfa_33⟩ : ∃ g : Nat → Int32, g = hx_up ia72_qls iv72_2.toNatClampNeg x_22 := ⟨_, rfl⟩
                        have nfa_33 : h_32.2.1 qls = fa_33 := ?o104
                        case o104 =>
                          rw [eh_32, dfa_33, ← nia72_qlsO]
                          exact hx_pi_fun _ _ _ _
                        obtain ⟨x_34, ex_34⟩ : ∃ y : Int32, y = iv72_2 + Int32.ofInt (-1) := ⟨_, rfl⟩
                        have zx_34 : x_34.toInt = iv72_2.toInt + (-1) := ?o105
                        case o105 =>
                          rw [ex_34]
                          refine i32_add rfl ?o106 ?o107 ?o108
                          case o106 => decide
                          case o107 => omega
                          case o108 => omega
                        refine lv_iinc (v := x_34) (lv' := [(2, .int x_34), (0, .ref x), (1, .int i1)]) hx hb dX10_list_102 hl (k := 0) rfl ex_34.symm ?o109 rfl (fun ls hl => ?_)
                        case o109 => decide
                        refine lv_goto (tgt := 72) hx hb dX10_list_105 ?o110 ?_
                        case o110 => decide
                        refine ih72 x_34 fa_33 _ _ hL1 h_32 ?o111 ?o112 ?o113 (by have e9 : x_34.toInt = x_21.toInt := (by omega); rw [e9]; exact hx_is_s vi72_1 (by omega) (by omega) zx_21 (by rw [← ax_22]; omega) rfl (dfa_33.trans (by rw [ax_22]))) ls ?o114 hW hT hM f_x_90 nfa_33 (lv_sub hl [0, 1, 2] rfl)
                        case o111 => omega
                        case o112 => omega
                        case o113 => omega
                        case o114 => omega
                refine loop72 9 ln0 lf _ _ hL1 hl1 ?o115 ?o116 ?o117 hx_is_0 ls ?o118 hW hT hM f_x_90 af_qls hl
                case o115 => omega
                case o116 => omega
                case o117 => omega
                case o118 => omega
              · skip
                refine lv_aload_n hx hb dX10_list_49 rfl (lv_at hl 1 rfl) ?_
                refine hk_getr hx hb hts hC_10 hown hW (gx.S hM) tt_10 91 ?o119 rfl kw_1234 ⟨rfl, rfl, rfl⟩ ((hM.o gx trivial rfl).2.trans f_x_91) dX10_list_50 ?_
                case o119 => decide
                refine lv_iload_n hx hb dX10_list_53 rfl (lv_at hl 0 rfl) ?_
                refine hx_iald hx hb hW hT (gqls.S hM) tt_112 rfl ⟨?o120, ?o121⟩ dX10_list_54 (fun x_35 ex_35 lx_35 ux_35 => ?_)
                case o120 => omega
                case o121 => omega
                have ax_35 : x_35 = lf iv41_2.toNatClampNeg := ex_35.trans (congrFun af_qls _)
                refine lv_iload_n hx hb dX10_list_55 rfl (lv_at hl 2 rfl) ?_
                refine hb_icmp_ne (zx := x_35.toInt) (zy := i1.toInt) (tgt := 61) hx hb rfl rfl dX10_list_56 ?o122 (fun c_36 => ?_) (fun c_36 => ?_)
                case o122 => decide
                · skip
                  obtain ⟨x_37, ex_37⟩ : ∃ y : Int32, y = iv41_2 + Int32.ofInt 1 := ⟨_, rfl⟩
                  have rg_38 := i32_r iv41_2
                  have zx_37 : x_37.toInt = iv41_2.toInt + (1) := ?o123
                  case o123 =>
                    rw [ex_37]
                    refine i32_add rfl ?o124 ?o125 ?o126
                    case o124 => decide
                    case o125 => omega
                    case o126 => omega
                  refine lv_iinc (v := x_37) (lv' := [(2, .int x_37), (0, .ref x), (1, .int i1)]) hx hb dX10_list_61 hl (k := 0) rfl ex_37.symm ?o127 rfl (fun ls hl => ?_)
                  case o127 => decide
                  refine lv_goto (tgt := 41) hx hb dX10_list_64 ?o128 ?_
                  case o128 => decide
                  refine ih41 x_37 _ _ hL1 hl1 ?o129 ?o130 (hx_nin_s vi41_0 ?o131 (fun e => by have h9 : x_35.toInt = i1.toInt := congrArg Int32.toInt (ax_35.trans e); omega) zx_37) ls ?o132 hW hT hM f_x_90 af_qls (lv_sub hl [0, 1, 2] rfl)
                  case o129 => omega
                  case o130 => omega
                  case o131 => omega
                  case o132 => omega
                · skip
                  refine lv_iconst (v := -1) hx hb dX10_list_59 ?o133 ?_
                  case o133 => decide
                  refine hx_reti hx hb hr hlk hW ⟨⟨ln0, lf, f_x_90, af_qls, (Or.inl ⟨?o134, rfl, ?o135, fun hc => hc.2.2.2.1 ⟨iv41_2.toNatClampNeg, (by unfold Int32.toNatClampNeg; omega), by rw [← ax_35]; exact Int32.toInt_inj.mp (by omega)⟩⟩)⟩, hT, hM⟩ dX10_list_60
                  case o134 => decide
                  case o135 => omega
          have zk_0 : (0 : Int32).toInt = 0 := ?o136
          case o136 => decide
          refine loop41 9 (0 : Int32) _ _ L_1 h_2 ?o137 ?o138 (fun k hk => ?o139) ls ?o140 hW hT hM f_x_90 af_qls hl
          case o137 => decide
          case o138 => decide
          case o139 =>
            exfalso
            omega
          case o140 => omega
        · skip
          refine lv_iconst (v := -1) hx hb dX10_list_37 ?o141 ?_
          case o141 => decide
          refine hx_reti hx hb hr hlk hW ⟨⟨ln0, lf, f_x_90, af_qls, (Or.inl ⟨?o142, rfl, ?o143, fun hc => by have h2 := hc.2.2.2.2; have h3 := hHF i1.toNatClampNeg (by unfold Int32.toNatClampNeg; omega); rw [← ax_9, ← ax_7] at h3; omega⟩)⟩, hT, hM⟩ dX10_list_38
          case o142 => decide
          case o143 => omega
end
