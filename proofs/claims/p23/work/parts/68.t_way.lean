/-! THE WALK on the class's side; whom the claims are against -/
theorem hw_abs_s (a b : Int) : hx_ab a b = hx_ab b a := by
  unfold hx_ab
  split <;> split <;> omega
theorem hw_fg_s {gx gy : Nat → Int32} {n i k : Int} : hx_fg gx gy n i k = hx_fg gx gy n k i := by
  unfold hx_fg
  rw [hw_abs_s (hx_cg gx n i), hw_abs_s (hx_cg gy n i)]
theorem hw_cg_lt {g : Nat → Int32} {n i : Int} {x : Int32} (h : i < n) (e : x = g i.toNat) : hx_cg g n i = x.toInt := by
  unfold hx_cg
  rw [if_neg (by omega), e]
theorem hw_cg_n {g : Nat → Int32} {n : Int} : hx_cg g n n = 50 := by
  unfold hx_cg
  rw [if_pos rfl]
/-- the last one walked to; none: the court -/
def hw_la (n i : Int) : Int := if i = -1 then n else i
theorem hw_la1 {n i : Int} (h : i = -1) : hw_la n i = n := by
  unfold hw_la
  rw [if_pos h]
theorem hw_la2 {n i : Int} (h : 0 ≤ i) : hw_la n i = i := by
  unfold hw_la
  rw [if_neg (by omega)]
theorem hw_min {r x y : Int32} (e : r = if y < x then y else x) : (r.toInt = x.toInt ∧ x.toInt ≤ y.toInt) ∨ (r.toInt = y.toInt ∧ y.toInt ≤ x.toInt) := by
  by_cases z : y < x
  · rw [if_pos z] at e
    rw [Int32.lt_iff_toInt_lt] at z
    exact Or.inr ⟨by rw [e], by omega⟩
  · rw [if_neg z] at e
    rw [Int32.lt_iff_toInt_lt] at z
    exact Or.inl ⟨by rw [e], by omega⟩
theorem hw_E_w {F H : Int → Int → Int} {n l i : Int} (h : hw_E F H n l i) : hw_E F H n l 0 := ⟨h.1, fun i' a b => absurd b (by omega)⟩
theorem hw_E_le {F H : Int → Int → Int} {n l l0 : Int} (h : hw_E F H n l 0) (e : l0 ≤ l) : hw_E F H n l0 0 := ⟨fun l' i' a b => h.1 l' i' a (by omega), fun i' a b => absurd b (by omega)⟩
theorem hw_E_l {F H : Int → Int → Int} {n l l1 i : Int} (h : hw_E F H n l i) (e : l = l1) : hw_E F H n l1 i := by
  subst e
  exact h
theorem hw_p2n1 {n : Int} (n0 : 1 ≤ n) (n1 : n ≤ 8) : (2 : Int) ≤ 2 ^ n.toNat := by
  have h : (List.range 9).all (fun n => decide (n = 0) || decide ((2 : Int) ≤ 2 ^ n)) = true := by decide +kernel
  have h := List.all_eq_true.mp h n.toNat (List.mem_range.mpr (by omega))
  simp only [Bool.or_eq_true, decide_eq_true_eq] at h
  omega
theorem hw_bt0 {k : Int} : hx_bt 0 k = false := by simp [hx_bt]
theorem hw_mn0 {F H : Int → Int → Int} {n l i V : Int} (e : l = 0) (h : V = F i n) : hx_mn F H n l i V := by
  subst e
  exact ⟨fun _ => h, fun w => absurd rfl w, fun k _ _ kb => by rw [hw_bt0] at kb; cases kb⟩
theorem hw_mn_00 {gx gy : Nat → Int32} {H : Int → Int → Int} {n V : Int} (e : n = 0) (hV : V = 0) : hx_mn (hx_fg gx gy n) H n (2 ^ n.toNat - 1) n V := by
  subst e; subst hV
  refine hw_mn0 (by decide) ?_
  unfold hx_fg
  rw [hw_cg_n, hw_cg_n]
  decide
theorem hw_mn_c {F H : Int → Int → Int} {n l l1 i i1 V : Int} (h : hx_mn F H n l i V) (el : l = l1) (ei : i = i1) : hx_mn F H n l1 i1 V := by
  subst el; subst ei
  exact h
theorem hw_pc {l k : Int} (h0 : 0 ≤ l) (h1 : l ≤ 255) (k0 : 0 ≤ k) (k1 : k < 8) (hb : hx_bt l k = true) : hx_pc (l - hx_p2 k) = hx_pc l - 1 := by
  have h := List.all_eq_true.mp (List.all_eq_true.mp hx_bcb l.toNat (List.mem_range.mpr (by omega))) k.toNat (List.mem_range.mpr (by omega))
  have l1 : ((l.toNat : Nat) : Int) = l := by omega
  have l2 : ((k.toNat : Nat) : Int) = k := by omega
  simp only [hx_bck, Bool.and_eq_true, decide_eq_true_eq, Bool.or_eq_true, Bool.not_eq_true', l1, l2] at h
  rcases h.2 with d | d
  · rw [hb] at d; cases d
  · exact d.2
theorem hw_bf {n b k : Int} (n0 : 0 ≤ n) (n1 : n ≤ 8) (b0 : 0 ≤ b) (b1 : b < 2 ^ n.toNat) (k0 : 0 ≤ k) (k1 : k < n) (h : hx_bt (2 ^ n.toNat - 1 - b) k = true) : hx_bt b k = false := by
  rw [hx_btc n0 n1 b0 b1 k0 k1] at h
  simpa using h
theorem hw_bf2 {n b k : Int} (n0 : 0 ≤ n) (n1 : n ≤ 8) (b0 : 0 ≤ b) (b1 : b < 2 ^ n.toNat) (k0 : 0 ≤ k) (k1 : k < n) (h : hx_bt b k = true) : hx_bt (2 ^ n.toNat - 1 - b) k = false := by
  rw [hx_btc n0 n1 b0 b1 k0 k1, h]; rfl
theorem hw_bt2 {n b k : Int} (n0 : 0 ≤ n) (n1 : n ≤ 8) (b0 : 0 ≤ b) (b1 : b < 2 ^ n.toNat) (k0 : 0 ≤ k) (k1 : k < n) (h : hx_bt b k = false) : hx_bt (2 ^ n.toNat - 1 - b) k = true := by
  rw [hx_btc n0 n1 b0 b1 k0 k1, h]; rfl
theorem hw_lk {n : Int} {F : Int → Int → Int} {a : Nat → Int32} {B K : Int32} (n0 : 0 ≤ n) (n1 : n ≤ 8) (b0 : 0 ≤ B.toInt) (b1 : B.toInt < 2 ^ n.toNat) (k0 : 0 ≤ K.toInt) (k1 : K.toInt < n) (hb : hx_bt B.toInt K.toInt = false) (hE : hw_E F (hw_HC n a) n (2 ^ n.toNat - 1 - B.toInt) 0) : (B ||| ((1 : Int32) <<< (K &&& 31))).toInt = B.toInt + hx_p2 K.toInt ∧ 1 ≤ hx_p2 K.toInt ∧ B.toInt + hx_p2 K.toInt ≤ 2 ^ n.toNat - 1 ∧ hx_bt (2 ^ n.toNat - 1 - B.toInt) K.toInt = true ∧ 0 ≤ hw_HC n a (2 ^ n.toNat - 1 - B.toInt - hx_p2 K.toInt) K.toInt ∧ hw_HC n a (2 ^ n.toNat - 1 - B.toInt - hx_p2 K.toInt) K.toInt ≤ 198 * (2 ^ n.toNat - 1 - B.toInt - hx_p2 K.toInt + 1) := by
  have hn := hx_p2n n0 n1
  have h1 := hx_orc (B := B) (K := K) b0 (by omega) k0 (by omega) hb
  have hbl := hw_bt2 n0 n1 b0 b1 k0 k1 hb
  have hd := hx_sub_d n0 n1 (by omega) (by omega) k0 k1 hbl
  have hm := hE.1 _ _ hd.1 hd.2.1 k0 k1 hd.2.2.2
  exact ⟨h1.1, h1.2.1, by have := hd.1; omega, hbl, hm.1, hm.2.1⟩
theorem hw_HCv {n l i : Int} {a : Nat → Int32} {ix : Nat} {v : Int32} (e : v = a ix) (h : (ix : Int) = 8 * (2 ^ n.toNat - 1 - l) + i) : v.toInt = hw_HC n a l i := by
  subst e
  unfold hw_HC
  rw [show (8 * (2 ^ n.toNat - 1 - l) + i).toNat = ix by omega]
theorem hw_wd {n i : Int} {f g : Nat → Int32} {r1 r2 : Int32} (e : hx_eqN n.toNat f g) (p : (r1.toInt = -1 ∧ ¬ (0 ≤ i ∧ i < n)) ∨ ((0 ≤ i ∧ i < n) ∧ r1 = f i.toNat)) (q : (r2.toInt = -1 ∧ ¬ (0 ≤ i ∧ i < n)) ∨ ((0 ≤ i ∧ i < n) ∧ r2 = g i.toNat)) : r1.toInt = r2.toInt := by
  rcases p with ⟨a1, a2⟩ | ⟨a1, a2⟩ <;> rcases q with ⟨b1, b2⟩ | ⟨b1, b2⟩
  · omega
  · exact absurd b1 a2
  · exact absurd a1 b2
  · rw [a2, b2, e i.toNat (by omega)]
section HWS
variable {tb : List hx_d} {M : hx_m} {L L1 : List Nat} {h h1 : hx_h}
theorem hx_dc_S {q t t0 N u v pd px ci ci2 : Nat} {nn : Bool} {b : Bool} {fs fs2 : List hx_f} {g : Nat → Int32} {n : Int} (hs : hx_S tb M L h L1 h1) (hT : hx_T tb L h) (gq : hx_g L h q t) (hd : tb[t]? = some (.inr (t0, N, .inr (nn, [u])))) (hu : tb[u]? = some (.inl (ci, fs))) (hf : fs[pd]? = some (.inr (b, [v]))) (hv : tb[v]? = some (.inl (ci2, fs2))) (m1 : M.any (fun q => q.1 == t) = false) (m2 : M.contains (u, pd) = false) (m3 : M.contains (v, px) = false) (hn : n ≤ N) (H : hx_dc h q pd px g n) : hx_dc h1 q pd px g n := by
  intro k hk c d fc fd
  have hkN : k < N := by omega
  rw [(hs.a gq m1 k).2] at fc
  obtain ⟨c1, c2⟩ := (hT.er gq hd (k := k) hkN).2 c fc
  have gc : hx_g L h c u := ⟨c1, by simpa using c2⟩
  rw [(hs.o (k := pd) gc (by rw [hu]; trivial) m2).2] at fd
  obtain ⟨d1, d2⟩ := (hT.gr gc hu hf).2 d fd
  have gd : hx_g L h d v := ⟨d1, by simpa using d2⟩
  rw [(hs.o (k := px) gd (by rw [hv]; trivial) m3).1]
  exact H k hk c d fc fd
end HWS
/-- whom the claims are against, by their places: those of the numbers in agf -/
def hw_DF (h : hx_h) (qc qp pk : Nat) (agf : Nat → Int32) (n : Int) : Prop := ∀ c : Nat, c < 100 → (c : Int) < n → ∀ o d, h.2.2 qc c = some o → h.2.2 o pk = some d → 0 ≤ (agf c).toInt ∧ (agf c).toInt < 40 ∧ h.2.2 qp (agf c).toInt.toNat = some d
theorem hw_DF_S {tb : List hx_d} {M : hx_m} {L L1 : List Nat} {h h1 : hx_h} {qc qp pk t t2 t0 u ci : Nat} {nn : Bool} {fs : List hx_f} {agf : Nat → Int32} {n : Int} (hs : hx_S tb M L h L1 h1) (hT : hx_T tb L h) (gc : hx_g L h qc t) (gp : hx_g L h qp t2) (hd : tb[t]? = some (.inr (t0, 100, .inr (nn, [u])))) (hu : tb[u]? = some (.inl (ci, fs))) (m1 : M.any (fun q => q.1 == t) = false) (m2 : M.any (fun q => q.1 == t2) = false) (m3 : M.contains (u, pk) = false) (H : hw_DF h qc qp pk agf n) : hw_DF h1 qc qp pk agf n := by
  intro c hc hcn o d fo fd
  rw [(hs.a gc m1 c).2] at fo
  obtain ⟨c1, c2⟩ := (hT.er gc hd (k := c) hc).2 o fo
  have go : hx_g L h o u := ⟨c1, by simpa using c2⟩
  rw [(hs.o (k := pk) go (by rw [hu]; trivial) m3).2] at fd
  obtain ⟨a, b, e⟩ := H c hc hcn o d fo fd
  exact ⟨a, b, by rw [(hs.a gp m2 _).2]; exact e⟩
theorem hw_DF_X {tb : List hx_d} {M : hx_m} {L L1 : List Nat} {h h1 : hx_h} {qc qp pk x t t2 t9 t0 u ci : Nat} {nn : Bool} {fs : List hx_f} {agf : Nat → Int32} {n : Int} (hs : hx_S tb M (hx_X L x) h L1 h1) (hT : hx_T tb L h) (gc : hx_g (hx_X L x) h qc t) (gp : hx_g (hx_X L x) h qp t2) (gx : hx_g L h x t9) (hd : tb[t]? = some (.inr (t0, 100, .inr (nn, [u])))) (hu : tb[u]? = some (.inl (ci, fs))) (m1 : M.any (fun q => q.1 == t) = false) (m2 : M.any (fun q => q.1 == t2) = false) (m3 : M.contains (u, pk) = false) (ne : u ≠ t9) (H : hw_DF h qc qp pk agf n) : hw_DF h1 qc qp pk agf n := by
  intro c hc hcn o d fo fd
  rw [(hs.a gc m1 c).2] at fo
  obtain ⟨c1, c2⟩ := (hT.er ⟨(hx_X_m.mp gc.1).1, gc.2⟩ hd (k := c) hc).2 o fo
  have c2 : h.1 o = u := by simpa using c2
  have go : hx_g (hx_X L x) h o u := ⟨hx_X_m.mpr ⟨c1, fun z => ne (by rw [← c2, z, gx.2])⟩, c2⟩
  rw [(hs.o (k := pk) go (by rw [hu]; trivial) m3).2] at fd
  obtain ⟨a, b, e⟩ := H c hc hcn o d fo fd
  exact ⟨a, b, by rw [(hs.a gp m2 _).2]; exact e⟩
/-- one more person -/
theorem hw_DF_p {tb : List hx_d} {L : List Nat} {h h1 : hx_h} {qc qp pk p t t0 u k tp : Nat} {nn : Bool} {agf : Nat → Int32} {n np : Int} {i : Int32} (H : hw_DF h qc qp pk agf n) (hT : hx_T tb L h) (gc : hx_g L h qc t) (gp : hx_g L h qp tp) (hd : tb[t]? = some (.inr (t0, 100, .inr (nn, [u])))) (ne : t ≠ tp) (ne2 : u ≠ tp) (hn : hx_num 40 h qp k np) (eh : h1 = hx_pr h qp i.toNatClampNeg (some p)) (h0 : 0 ≤ i.toInt) (hi : i.toInt = np) : hw_DF h1 qc qp pk agf n := by
  have ei : ((i.toNatClampNeg : Nat) : Int) = i.toInt := by unfold Int32.toNatClampNeg; omega
  subst eh
  intro c hc hcn o d fo fd
  have q1 : qc ≠ qp := fun z => ne (by rw [← gc.2, z, gp.2])
  rw [hx_pr_ne h (some p) (fun z => q1 z.1)] at fo
  obtain ⟨c1, c2⟩ := (hT.er gc hd (k := c) hc).2 o fo
  have c2 : h.1 o = u := by simpa using c2
  have q2 : o ≠ qp := fun z => ne2 (by rw [← c2, z, gp.2])
  rw [hx_pr_ne h (some p) (fun z => q2 z.1)] at fd
  obtain ⟨a, b, e⟩ := H c hc hcn o d fo fd
  refine ⟨a, b, ?_⟩
  rw [hx_pr_ne h (some p) (fun z => ?_)]
  · exact e
  · have w := (hn (agf c).toInt.toNat (by omega)).2 (by have := z.2; omega)
    rw [w] at e; cases e
/-- one more claim -/
theorem hw_DF_c {tb : List hx_d} {L : List Nat} {h h1 : hx_h} {qc qp pk p d0 t t0 u tp : Nat} {nn : Bool} {agf : Nat → Int32} {n m : Int} {i j : Int32} (H : hw_DF h qc qp pk agf n) (hT : hx_T tb L h) (gc : hx_g L h qc t) (gp : hx_g L h qp tp) (gq : hx_g L h p u) (hd : tb[t]? = some (.inr (t0, 100, .inr (nn, [u])))) (ne : t ≠ tp) (ne2 : u ≠ t) (eh : h1 = hx_pr h qc i.toNatClampNeg (some p)) (h0 : 0 ≤ i.toInt) (hi : i.toInt = n) (fd : h.2.2 p pk = some d0) (fj : h.2.2 qp j.toNatClampNeg = some d0) (j0 : 0 ≤ j.toInt) (j1 : j.toInt < 40) (hm : m = n + 1) : hw_DF h1 qc qp pk (hx_up agf n.toNat j) m := by
  have ei : ((i.toNatClampNeg : Nat) : Int) = i.toInt := by unfold Int32.toNatClampNeg; omega
  have e1 : i.toNatClampNeg = n.toNat := by omega
  subst eh; subst hm
  rw [e1]
  have q1 : qp ≠ qc := fun z => ne (by rw [← gc.2, ← z, gp.2])
  intro c hc hcn o d fo fd1
  by_cases z : c = n.toNat
  · subst z
    rw [hx_pr_at] at fo
    cases fo
    have q2 : p ≠ qc := fun z => ne2 (by rw [← gq.2, z, gc.2])
    rw [hx_pr_ne h (some p) (fun z => q2 z.1), fd] at fd1
    cases fd1
    rw [hx_up_at]
    refine ⟨j0, j1, ?_⟩
    rw [hx_pr_ne h (some p) (fun z => q1 z.1)]
    exact fj
  · rw [hx_pr_ne h (some p) (fun w => z w.2)] at fo
    obtain ⟨c1, c2⟩ := (hT.er gc hd (k := c) hc).2 o fo
    have c2 : h.1 o = u := by simpa using c2
    have q2 : o ≠ qc := fun z => ne2 (by rw [← c2, z, gc.2])
    rw [hx_pr_ne h (some p) (fun z => q2 z.1)] at fd1
    obtain ⟨a, b, e⟩ := H c hc (by omega) o d fo fd1
    rw [hx_up_ne z]
    refine ⟨a, b, ?_⟩
    rw [hx_pr_ne h (some p) (fun z => q1 z.1)]
    exact e
theorem hw_DF_e {h : hx_h} {qc qp pk : Nat} {f g : Nat → Int32} {n m : Int} (H : hw_DF h qc qp pk f n) (e : f = g) (en : n = m) : hw_DF h qc qp pk g m := by
  subst e; subst en
  exact H
theorem hw_DF_0 {h : hx_h} {qc qp pk : Nat} {f : Nat → Int32} {n : Int} (z : ∀ j, h.2.1 qc j = 0 ∧ h.2.2 qc j = none) : hw_DF h qc qp pk f n := fun c _ _ o d fo _ => by
  rw [(z c).2] at fo; cases fo
/-- what becomes of a number that a claim is given -/
def hw_UP (r n : Int) (v : Int32) (f g : Nat → Int32) : Prop := (r = -1 ∧ g = f) ∨ (r ≠ -1 ∧ g = hx_up f n.toNat v)
theorem hw_UP_u {r r2 n : Int} {v : Int32} {f g g2 : Nat → Int32} (e : r = r2) (p : hw_UP r n v f g) (q : hw_UP r2 n v f g2) : g = g2 := by
  rcases p with ⟨a1, a2⟩ | ⟨a1, a2⟩ <;> rcases q with ⟨b1, b2⟩ | ⟨b1, b2⟩
  · rw [a2, b2]
  · exfalso; omega
  · exfalso; omega
  · rw [a2, b2]
theorem hw_dc_of {h : hx_h} {ql qc qp px k0 : Nat} {agf lf lm cx fx : Nat → Int32} {n c0 : Int} (hn : n ≤ 8) (hnu : hx_num 100 h qc k0 c0) (hLQ : hx_LQ 8 100 h ql qc) (cl : hx_col 8 h ql k0 = lf) (el : hx_eqN 8 lf lm) (hDF : hw_DF h qc qp 2 agf c0) (cx1 : hx_col 40 h qp px = cx) (ex : hx_eqN 40 cx fx) : hx_dc h ql 2 px (fun k => fx (agf (lm k).toInt.toNat).toInt.toNat) n := by
  intro k hk c d fc fd
  obtain ⟨c', hc', ec⟩ := hLQ k (by omega) c fc
  have hlt : (c' : Int) < c0 := by
    rcases (show (c' : Int) < c0 ∨ c0 ≤ (c' : Int) by omega) with z | z
    · exact z
    · rw [(hnu c' hc').2 z] at ec; cases ec
  obtain ⟨p, fp, en⟩ := (hnu c' hc').1 hlt
  rw [ec] at fp
  cases fp
  have e1 : lm k = h.2.1 c k0 := by rw [← el k (by omega), ← cl]; exact hx_col_at fc (by omega)
  have e2 : (lm k).toInt.toNat = c' := by rw [e1, en]; omega
  obtain ⟨a, b, e⟩ := hDF c' hc' hlt c d ec fd
  show h.2.1 d px = fx (agf (lm k).toInt.toNat).toInt.toNat
  rw [e2, ← ex _ (by omega), ← cx1]
  exact (hx_col_at e (by omega)).symm
theorem hw_B {agf lm fx : Nat → Int32} {n : Int} (hn : n ≤ 8) (b1 : ∀ k, k < 8 → 0 ≤ (lm k).toInt ∧ (lm k).toInt ≤ 99) (b2 : ∀ k, k < 100 → 0 ≤ (agf k).toInt ∧ (agf k).toInt ≤ 39) (b3 : ∀ k, k < 40 → 0 ≤ (fx k).toInt ∧ (fx k).toInt ≤ 99) : ∀ k : Nat, (k : Int) < n → 0 ≤ ((fun k => fx (agf (lm k).toInt.toNat).toInt.toNat) k).toInt ∧ ((fun k => fx (agf (lm k).toInt.toNat).toInt.toNat) k).toInt ≤ 99 := fun k hk => by
  have a1 := b1 k (by omega)
  have a2 := b2 (lm k).toInt.toNat (by omega)
  exact b3 (agf (lm k).toInt.toNat).toInt.toNat (by omega)
/-! A PERSON is told his household -/
theorem hw_col_k {N : Nat} {h h1 : hx_h} {q k x : Nat} {f : Nat → Int32} (e : ∀ a k, a ≠ x → h1.2.1 a k = h.2.1 a k) (er : ∀ j, h1.2.2 q j = h.2.2 q j) (hno : ∀ j, j < N → h.2.2 q j ≠ some x) (c : hx_col N h q k = f) : hx_col N h1 q k = f := by
  rw [← c]
  funext j
  unfold hx_col
  by_cases hj : j < N
  · rw [if_pos hj, if_pos hj, er j]
    cases hr : h.2.2 q j with
    | none => rfl
    | some p => exact e p k (fun z => hno j hj (by rw [hr, z]))
  · rw [if_neg hj, if_neg hj]
theorem hw_col_u {N : Nat} {h h1 : hx_h} {q k k0 x i : Nat} {v : Int32} {n : Int} {f : Nat → Int32} (e : ∀ a k, a ≠ x → h1.2.1 a k = h.2.1 a k) (er : ∀ j, h1.2.2 q j = h.2.2 q j) (hn : hx_num N h q k0 n) (fo : h.2.2 q i = some x) (hi : i < N) (ev : h1.2.1 x k = v) (c : hx_col N h q k = f) : hx_col N h1 q k = hx_up f i v := by
  rw [← c]
  funext j
  by_cases hji : j = i
  · subst hji
    rw [hx_up_at, hx_col_at (h := h1) (p := x) (by rw [er]; exact fo) hi, ev]
  · rw [hx_up_ne hji]
    unfold hx_col
    by_cases hj : j < N
    · rw [if_pos hj, if_pos hj, er j]
      cases hr : h.2.2 q j with
      | none => rfl
      | some p => exact e p k (fun z => hji (hx_num_eq hn hj hi (by rw [hr, z]) fo))
    · rw [if_neg hj, if_neg hj]
/-- one who has not come into the array yet has the number of none in it -/
theorem hw_num_no {N : Nat} {h : hx_h} {q k x : Nat} {n : Int} (hn : hx_num N h q k n) (hx : (h.2.1 x k).toInt = n) : ∀ j, j < N → h.2.2 q j ≠ some x := by
  intro j hj f
  rcases (show (j : Int) < n ∨ n ≤ (j : Int) by omega) with z | z
  · obtain ⟨p, fp, e⟩ := (hn j hj).1 z
    rw [f] at fp
    cases fp
    omega
  · rw [(hn j hj).2 z] at f; cases f
def hw_AD (r i : Int) (v : Int32) (d d1 : Nat → Int32) : Prop := (r = 0 ∧ d1 = d) ∨ (r = 1 ∧ d1 = hx_up d i.toNat v)
theorem hw_adk {N : Nat} {r r2 i : Int} {v : Int32} {d d1 g g1 : Nat → Int32} (er : r = r2) (e : hx_eqN N d g) (p : hw_AD r i v d d1) (q : hw_AD r2 i v g g1) : hx_eqN N d1 g1 := by
  rcases p with ⟨a1, a2⟩ | ⟨a1, a2⟩ <;> rcases q with ⟨b1, b2⟩ | ⟨b1, b2⟩
  · rw [a2, b2]; exact e
  · exfalso; omega
  · exfalso; omega
  · rw [a2, b2]; exact hx_eqN_up e
