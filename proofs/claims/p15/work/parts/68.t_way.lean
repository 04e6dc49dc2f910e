/-! THE WALK on the class's side; whom the claims are against -/
section HWS
variable {tb : List hx_d} {M : hx_m} {L L1 : List Nat} {h h1 : hx_h}
end HWS
/-- whom the claims are against, by their places: those of the numbers in agf -/
def hw_DF (h : hx_h) (qc qp pk : Nat) (agf : Nat → Int32) (n : Int) : Prop := ∀ c : Nat, c < 100 → (c : Int) < n → ∀ o d, h.2.2 qc c = some o → h.2.2 o pk = some d → 0 ≤ (agf c).toInt ∧ (agf c).toInt < 40 ∧ h.2.2 qp (agf c).toInt.toNat = some d
theorem hw_DF_S {tb : List hx_d} {M : hx_m} {L L1 : List Nat} {h h1 : hx_h} {qc qp pk t t2 t0 u ci : Nat} {nn : Bool} {fs : List hx_f} {agf : Nat → Int32} {n : Int} (hs : hx_S tb M L h L1 h1) (hT : hx_T tb L h) (gc : hx_g L h qc t) (gp : hx_g L h qp t2) (hd : tb[t]? = some (.inr (t0, 100, .inr (nn, [u])))) (hu : tb[u]? = some (.inl (ci, fs))) (m1 : M.any (fun q => q.1 == t) = false) (m2 : M.any (fun q => q.1 == t2) = false) (m3 : M.contains (u, pk) = false) (H : hw_DF h qc qp pk agf n) : hw_DF h1 qc qp pk agf n := by
  intro c hc hcn o d fo fd
  rw [(hs.a gc m1 c).2] at fo
  obtain ⟨c1, c2⟩ := (hT.er gc hd (k := c) hc).2 o fo
  have go : hx_g L h o u := ⟨c1, by simpa using c2⟩
  rw [(hs.o (k := pk) go (by rw [hu]; trivial) m3).2] at fd
  obtain ⟨a, b, e⟩ := H c hc hcn o d fo fd
  exact ⟨a, b, by rw [(hs.a gp m2 _).2]; exact e⟩
theorem hw_DF_X {tb : List hx_d} {M : hx_m} {L L1 : List Nat} {h h1 : hx_h} {qc qp pk x t t2 t9 t0 u ci : Nat} {nn : Bool} {fs : List hx_f} {agf : Nat → Int32} {n : Int} (hs : hx_S tb M (hx_X L x) h L1 h1) (hT : hx_T tb L h) (gc : hx_g (hx_X L x) h qc t) (gp : hx_g (hx_X L x) h qp t2) (gx : hx_g L h x t9) (hd : tb[t]? = some (.inr (t0, 100, .inr (nn, [u])))) (hu : tb[u]? = some (.inl (ci, fs))) (m1 : M.any (fun q => q.1 == t) = false) (m2 : M.any (fun q => q.1 == t2) = false) (m3 : M.contains (u, pk) = false) (ne : u ≠ t9) (H : hw_DF h qc qp pk agf n) : hw_DF h1 qc qp pk agf n := by
  intro c hc hcn o d fo fd
  rw [(hs.a gc m1 c).2] at fo
  obtain ⟨c1, c2⟩ := (hT.er ⟨(hx_X_m.mp gc.1).1, gc.2⟩ hd (k := c) hc).2 o fo
  have c2 : h.1 o = u := by simpa using c2
  have go : hx_g (hx_X L x) h o u := ⟨hx_X_m.mpr ⟨c1, fun z => ne (by rw [← c2, z, gx.2])⟩, c2⟩
  rw [(hs.o (k := pk) go (by rw [hu]; trivial) m3).2] at fd
  obtain ⟨a, b, e⟩ := H c hc hcn o d fo fd
  exact ⟨a, b, by rw [(hs.a gp m2 _).2]; exact e⟩
/-- one more person -/
theorem hw_DF_p {tb : List hx_d} {L : List Nat} {h h1 : hx_h} {qc qp pk p t t0 u k tp : Nat} {nn : Bool} {agf : Nat → Int32} {n np : Int} {i : Int32} (H : hw_DF h qc qp pk agf n) (hT : hx_T tb L h) (gc : hx_g L h qc t) (gp : hx_g L h qp tp) (hd : tb[t]? = some (.inr (t0, 100, .inr (nn, [u])))) (ne : t ≠ tp) (ne2 : u ≠ tp) (hn : hx_num 40 h qp k np) (eh : h1 = hx_pr h qp i.toNatClampNeg (some p)) (h0 : 0 ≤ i.toInt) (hi : i.toInt = np) : hw_DF h1 qc qp pk agf n := by
  have ei : ((i.toNatClampNeg : Nat) : Int) = i.toInt := by unfold Int32.toNatClampNeg; omega
  subst eh
  intro c hc hcn o d fo fd
  have q1 : qc ≠ qp := fun z => ne (by rw [← gc.2, z, gp.2])
  rw [hx_pr_ne h (some p) (fun z => q1 z.1)] at fo
  obtain ⟨c1, c2⟩ := (hT.er gc hd (k := c) hc).2 o fo
  have c2 : h.1 o = u := by simpa using c2
  have q2 : o ≠ qp := fun z => ne2 (by rw [← c2, z, gp.2])
  rw [hx_pr_ne h (some p) (fun z => q2 z.1)] at fd
  obtain ⟨a, b, e⟩ := H c hc hcn o d fo fd
  refine ⟨a, b, ?_⟩
  rw [hx_pr_ne h (some p) (fun z => ?_)]
  · exact e
  · have w := (hn (agf c).toInt.toNat (by omega)).2 (by have := z.2; omega)
    rw [w] at e; cases e
/-- one more claim -/
theorem hw_DF_c {tb : List hx_d} {L : List Nat} {h h1 : hx_h} {qc qp pk p d0 t t0 u tp : Nat} {nn : Bool} {agf : Nat → Int32} {n m : Int} {i j : Int32} (H : hw_DF h qc qp pk agf n) (hT : hx_T tb L h) (gc : hx_g L h qc t) (gp : hx_g L h qp tp) (gq : hx_g L h p u) (hd : tb[t]? = some (.inr (t0, 100, .inr (nn, [u])))) (ne : t ≠ tp) (ne2 : u ≠ t) (eh : h1 = hx_pr h qc i.toNatClampNeg (some p)) (h0 : 0 ≤ i.toInt) (hi : i.toInt = n) (fd : h.2.2 p pk = some d0) (fj : h.2.2 qp j.toNatClampNeg = some d0) (j0 : 0 ≤ j.toInt) (j1 : j.toInt < 40) (hm : m = n + 1) : hw_DF h1 qc qp pk (hx_up agf n.toNat j) m := by
  have ei : ((i.toNatClampNeg : Nat) : Int) = i.toInt := by unfold Int32.toNatClampNeg; omega
  have e1 : i.toNatClampNeg = n.toNat := by omega
  subst eh; subst hm
  rw [e1]
  have q1 : qp ≠ qc := fun z => ne (by rw [← gc.2, ← z, gp.2])
  intro c hc hcn o d fo fd1
  by_cases z : c = n.toNat
  · subst z
    rw [hx_pr_at] at fo
    cases fo
    have q2 : p ≠ qc := fun z => ne2 (by rw [← gq.2, z, gc.2])
    rw [hx_pr_ne h (some p) (fun z => q2 z.1), fd] at fd1
    cases fd1
    rw [hx_up_at]
    refine ⟨j0, j1, ?_⟩
    rw [hx_pr_ne h (some p) (fun z => q1 z.1)]
    exact fj
  · rw [hx_pr_ne h (some p) (fun w => z w.2)] at fo
    obtain ⟨c1, c2⟩ := (hT.er gc hd (k := c) hc).2 o fo
    have c2 : h.1 o = u := by simpa using c2
    have q2 : o ≠ qc := fun z => ne2 (by rw [← c2, z, gc.2])
    rw [hx_pr_ne h (some p) (fun z => q2 z.1)] at fd1
    obtain ⟨a, b, e⟩ := H c hc (by omega) o d fo fd1
    rw [hx_up_ne z]
    refine ⟨a, b, ?_⟩
    rw [hx_pr_ne h (some p) (fun z => q1 z.1)]
    exact e
theorem hw_DF_e {h : hx_h} {qc qp pk : Nat} {f g : Nat → Int32} {n m : Int} (H : hw_DF h qc qp pk f n) (e : f = g) (en : n = m) : hw_DF h qc qp pk g m := by
  subst e; subst en
  exact H
/-- what becomes of a number that a claim is given -/
def hw_UP (r n : Int) (v : Int32) (f g : Nat → Int32) : Prop := (r = -1 ∧ g = f) ∨ (r ≠ -1 ∧ g = hx_up f n.toNat v)
theorem hw_UP_u {r r2 n : Int} {v : Int32} {f g g2 : Nat → Int32} (e : r = r2) (p : hw_UP r n v f g) (q : hw_UP r2 n v f g2) : g = g2 := by
  rcases p with ⟨a1, a2⟩ | ⟨a1, a2⟩ <;> rcases q with ⟨b1, b2⟩ | ⟨b1, b2⟩
  · rw [a2, b2]
  · exfalso; omega
  · exfalso; omega
  · rw [a2, b2]
/-! A PERSON is told his household -/
theorem hw_col_k {N : Nat} {h h1 : hx_h} {q k x : Nat} {f : Nat → Int32} (e : ∀ a k, a ≠ x → h1.2.1 a k = h.2.1 a k) (er : ∀ j, h1.2.2 q j = h.2.2 q j) (hno : ∀ j, j < N → h.2.2 q j ≠ some x) (c : hx_col N h q k = f) : hx_col N h1 q k = f := by
  rw [← c]
  funext j
  unfold hx_col
  by_cases hj : j < N
  · rw [if_pos hj, if_pos hj, er j]
    cases hr : h.2.2 q j with
    | none => rfl
    | some p => exact e p k (fun z => hno j hj (by rw [hr, z]))
  · rw [if_neg hj, if_neg hj]
/-- one who has not come into the array yet has the number of none in it -/
theorem hw_num_no {N : Nat} {h : hx_h} {q k x : Nat} {n : Int} (hn : hx_num N h q k n) (hx : (h.2.1 x k).toInt = n) : ∀ j, j < N → h.2.2 q j ≠ some x := by
  intro j hj f
  rcases (show (j : Int) < n ∨ n ≤ (j : Int) by omega) with z | z
  · obtain ⟨p, fp, e⟩ := (hn j hj).1 z
    rw [f] at fp
    cases fp
    omega
  · rw [(hn j hj).2 z] at f; cases f