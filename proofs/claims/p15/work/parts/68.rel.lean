/-! COLUMNS: a field of all objects that an array holds, as a function of their places -/
def hx_col (N : Nat) (h : hx_h) (q k : Nat) : Nat → Int32 := fun j => if j < N then (match h.2.2 q j with | some p => h.2.1 p k | none => 0) else 0
/-- the array holds n objects, each with its place as its number, and none behind them -/
def hx_num (N : Nat) (h : hx_h) (q k : Nat) (n : Int) : Prop := ∀ j : Nat, j < N → ((j : Int) < n → ∃ p, h.2.2 q j = some p ∧ (h.2.1 p k).toInt = j) ∧ (n ≤ (j : Int) → h.2.2 q j = none)
def hx_eqN (N : Nat) (f g : Nat → Int32) : Prop := ∀ j, j < N → f j = g j
theorem hx_col_at {N : Nat} {h : hx_h} {q k j p : Nat} (f : h.2.2 q j = some p) (hj : j < N) : hx_col N h q k j = h.2.1 p k := by
  unfold hx_col
  rw [if_pos hj, f]
theorem hx_num_c {N : Nat} {h : hx_h} {q k : Nat} {n m : Int} (hn : hx_num N h q k n) (e : n = m) : hx_num N h q k m := e ▸ hn
section HXC
variable {tb : List hx_d} {M : hx_m} {L L1 : List Nat} {h h1 : hx_h} {q k t t0 N u ci x t9 : Nat} {nn : Bool} {fs : List hx_f}
theorem hx_col_S (hs : hx_S tb M L h L1 h1) (hT : hx_T tb L h) (g : hx_g L h q t) (hd : tb[t]? = some (.inr (t0, N, .inr (nn, [u])))) (hdu : tb[u]? = some (.inl (ci, fs))) (m1 : M.any (fun q => q.1 == t) = false) (m2 : M.contains (u, k) = false) : hx_col N h1 q k = hx_col N h q k := by
  funext j
  unfold hx_col
  by_cases hj : j < N
  · rw [if_pos hj, if_pos hj, (hs.a g m1 j).2]
    cases hr : h.2.2 q j with
    | none => rfl
    | some p =>
      obtain ⟨p1, p2⟩ := (hT.er g hd (k := j) hj).2 p hr
      exact (hs.o (k := k) ⟨p1, by simpa using p2⟩ (by rw [hdu]; trivial) m2).1
  · rw [if_neg hj, if_neg hj]
theorem hx_num_S {n : Int} (hs : hx_S tb M L h L1 h1) (hT : hx_T tb L h) (g : hx_g L h q t) (hd : tb[t]? = some (.inr (t0, N, .inr (nn, [u])))) (hdu : tb[u]? = some (.inl (ci, fs))) (m1 : M.any (fun q => q.1 == t) = false) (m2 : M.contains (u, k) = false) (hn : hx_num N h q k n) : hx_num N h1 q k n := by
  intro j hj
  rw [(hs.a g m1 j).2]
  refine ⟨fun hjn => ?_, (hn j hj).2⟩
  obtain ⟨p, f, e⟩ := (hn j hj).1 hjn
  obtain ⟨p1, p2⟩ := (hT.er g hd (k := j) hj).2 p f
  exact ⟨p, f, by rw [(hs.o (k := k) ⟨p1, by simpa using p2⟩ (by rw [hdu]; trivial) m2).1]; exact e⟩
theorem hx_col_X (hs : hx_S tb M (hx_X L x) h L1 h1) (hT : hx_T tb L h) (g : hx_g (hx_X L x) h q t) (gx : hx_g L h x t9) (hd : tb[t]? = some (.inr (t0, N, .inr (nn, [u])))) (hdu : tb[u]? = some (.inl (ci, fs))) (m1 : M.any (fun q => q.1 == t) = false) (m2 : M.contains (u, k) = false) (ne : u ≠ t9) : hx_col N h1 q k = hx_col N h q k := by
  funext j
  unfold hx_col
  by_cases hj : j < N
  · rw [if_pos hj, if_pos hj, (hs.a g m1 j).2]
    cases hr : h.2.2 q j with
    | none => rfl
    | some p =>
      obtain ⟨p1, p2⟩ := (hT.er ⟨(hx_X_m.mp g.1).1, g.2⟩ hd (k := j) hj).2 p hr
      have p2 : h.1 p = u := by simpa using p2
      exact (hs.o (k := k) ⟨hx_X_m.mpr ⟨p1, fun z => ne (by rw [← p2, z, gx.2])⟩, p2⟩ (by rw [hdu]; trivial) m2).1
  · rw [if_neg hj, if_neg hj]
theorem hx_num_X {n : Int} (hs : hx_S tb M (hx_X L x) h L1 h1) (hT : hx_T tb L h) (g : hx_g (hx_X L x) h q t) (gx : hx_g L h x t9) (hd : tb[t]? = some (.inr (t0, N, .inr (nn, [u])))) (hdu : tb[u]? = some (.inl (ci, fs))) (m1 : M.any (fun q => q.1 == t) = false) (m2 : M.contains (u, k) = false) (ne : u ≠ t9) (hn : hx_num N h q k n) : hx_num N h1 q k n := by
  intro j hj
  rw [(hs.a g m1 j).2]
  refine ⟨fun hjn => ?_, (hn j hj).2⟩
  obtain ⟨p, f, e⟩ := (hn j hj).1 hjn
  obtain ⟨p1, p2⟩ := (hT.er ⟨(hx_X_m.mp g.1).1, g.2⟩ hd (k := j) hj).2 p f
  have p2 : h.1 p = u := by simpa using p2
  exact ⟨p, f, by rw [(hs.o (k := k) ⟨hx_X_m.mpr ⟨p1, fun z => ne (by rw [← p2, z, gx.2])⟩, p2⟩ (by rw [hdu]; trivial) m2).1]; exact e⟩
end HXC
theorem hx_num_eq {N : Nat} {h : hx_h} {q k i j p : Nat} {n : Int} (hn : hx_num N h q k n) (hi : i < N) (hj : j < N) (fi : h.2.2 q i = some p) (fj : h.2.2 q j = some p) : i = j := by
  have ki : (i : Int) < n := by
    rcases (show (i : Int) < n ∨ n ≤ (i : Int) by omega) with z | z
    · exact z
    · rw [(hn i hi).2 z] at fi; cases fi
  have kj : (j : Int) < n := by
    rcases (show (j : Int) < n ∨ n ≤ (j : Int) by omega) with z | z
    · exact z
    · rw [(hn j hj).2 z] at fj; cases fj
  obtain ⟨a, fa, ea⟩ := (hn i hi).1 ki
  obtain ⟨b, fb, eb⟩ := (hn j hj).1 kj
  have e1 : a = p := Option.some.inj (fa.symm.trans fi)
  have e2 : b = p := Option.some.inj (fb.symm.trans fj)
  subst e1; subst e2
  omega
theorem hx_col_pi {N : Nat} {h h1 : hx_h} {q k k0 i p : Nat} {n : Int} {v : Int32} (hn : hx_num N h q k0 n) (f : h.2.2 q i = some p) (hi : i < N) (eh : h1 = hx_pi h p k v) : hx_col N h1 q k = hx_up (hx_col N h q k) i v := by
  subst eh
  funext j
  by_cases hji : j = i
  · subst hji
    rw [hx_up_at, hx_col_at (h := hx_pi h p k v) (p := p) f hi, hx_pi_at]
  · rw [hx_up_ne hji]
    unfold hx_col
    by_cases hj : j < N
    · rw [if_pos hj, if_pos hj]
      show (match h.2.2 q j with | some p1 => (hx_pi h p k v).2.1 p1 k | none => 0) = _
      cases hr : h.2.2 q j with
      | none => rfl
      | some p1 =>
        refine hx_pi_ne h v (fun z => hji ?_)
        rw [z.1] at hr
        exact hx_num_eq hn hj hi hr f
    · rw [if_neg hj, if_neg hj]
theorem hx_col_pr {N : Nat} {h h1 : hx_h} {q k i p : Nat} (eh : h1 = hx_pr h q i (some p)) (hi : i < N) : hx_col N h1 q k = hx_up (hx_col N h q k) i (h.2.1 p k) := by
  subst eh
  funext j
  by_cases hji : j = i
  · subst hji
    rw [hx_up_at, hx_col_at (h := hx_pr h q j (some p)) (p := p) (hx_pr_at _ _ _ _) hi]
    rfl
  · rw [hx_up_ne hji]
    unfold hx_col
    by_cases hj : j < N
    · rw [if_pos hj, if_pos hj, hx_pr_ne h (some p) (fun z => hji z.2)]
      rfl
    · rw [if_neg hj, if_neg hj]
theorem hx_num_pr {N : Nat} {h h1 : hx_h} {q k p : Nat} {i : Int32} {n : Int} (hn : hx_num N h q k n) (eh : h1 = hx_pr h q i.toNatClampNeg (some p)) (h0 : 0 ≤ i.toInt) (hi : i.toInt = n) (hp : (h.2.1 p k).toInt = i.toInt) : hx_num N h1 q k (n + 1) := by
  subst eh
  have hc : ((i.toNatClampNeg : Nat) : Int) = i.toInt := by unfold Int32.toNatClampNeg; omega
  intro j hj
  by_cases hji : j = i.toNatClampNeg
  · subst hji
    refine ⟨fun _ => ⟨p, hx_pr_at _ _ _ _, ?_⟩, fun z => by exfalso; omega⟩
    show (h.2.1 p k).toInt = _
    omega
  · rw [hx_pr_ne h (some p) (fun z => hji z.2)]
    refine ⟨fun z => ?_, fun z => (hn j hj).2 (by omega)⟩
    obtain ⟨a, fa, ea⟩ := (hn j hj).1 (by omega)
    exact ⟨a, fa, ea⟩
theorem hx_num_z {N : Nat} {h : hx_h} {q k k1 j : Nat} {n : Int} {f : Nat → Int32} (hn : hx_num N h q k n) (hc : hx_col N h q k1 = f) (hj : j < N) (hz : n ≤ (j : Int)) : f j = 0 := by
  rw [← hc]
  unfold hx_col
  rw [if_pos hj, (hn j hj).2 hz]
theorem hx_col_0 {N : Nat} {h : hx_h} {q k r : Nat} (z : ∀ j, h.2.1 q j = 0 ∧ h.2.2 q j = none) (z2 : ∀ j, h.2.1 r j = 0) : hx_eqN N (hx_col N h q k) (h.2.1 r) := fun j hj => by
  unfold hx_col
  rw [if_pos hj, (z j).2, z2 j]
theorem hx_eqN_up {N : Nat} {f g : Nat → Int32} {i : Nat} {v : Int32} (h : hx_eqN N f g) : hx_eqN N (hx_up f i v) (hx_up g i v) := fun j hj => by
  by_cases e : j = i
  · subst e; rw [hx_up_at, hx_up_at]
  · rw [hx_up_ne e, hx_up_ne e]; exact h j hj
theorem hx_eqN_upl {N : Nat} {f g : Nat → Int32} {i : Nat} {v : Int32} (h : hx_eqN N f g) (e : i < N → g i = v) : hx_eqN N (hx_up f i v) g := fun j hj => by
  by_cases e1 : j = i
  · subst e1; rw [hx_up_at]; exact (e hj).symm
  · rw [hx_up_ne e1]; exact h j hj
/-! WHAT BOTH SIDES ANSWER ALIKE -/
def hx_pcn (n a b c d e f : Int) : Prop := n < 40 ∧ (-30000 ≤ a ∧ a ≤ 7999) ∧ (0 ≤ b ∧ b ≤ 9999) ∧ (1 ≤ c ∧ c ≤ 20) ∧ (0 ≤ d ∧ d ≤ 99) ∧ (0 ≤ e ∧ e ≤ 99) ∧ (-1 ≤ f ∧ f ≤ 19)
def hx_PS (n a b c d e f r n1 : Int) : Prop := (r = -1 ∧ n1 = n ∧ ¬ hx_pcn n a b c d e f) ∨ (r = n ∧ n1 = n + 1 ∧ hx_pcn n a b c d e f)
theorem hx_pk {n a b c d e f : Int} {r1 r2 n1 n2 : Int32} (p : hx_PS n a b c d e f r1.toInt n1.toInt) (q : hx_PS n a b c d e f r2.toInt n2.toInt) : r1.toInt = r2.toInt ∧ n1 = n2 := by
  rcases p with ⟨a1, a2, a3⟩ | ⟨a1, a2, a3⟩ <;> rcases q with ⟨b1, b2, b3⟩ | ⟨b1, b2, b3⟩
  · exact ⟨by omega, Int32.toInt_inj.mp (by omega)⟩
  · exact absurd b3 a3
  · exact absurd a3 b3
  · exact ⟨by omega, Int32.toInt_inj.mp (by omega)⟩
/-- of a PERSON's new columns: as before, or one more 0 -/
def hx_PD (n r : Int) (d d1 : Nat → Int32) : Prop := (r = -1 ∧ d1 = d) ∨ (r = n ∧ 0 ≤ n ∧ d1 = hx_up d n.toNat 0)
theorem hx_pdk {n r : Int} {N : Nat} {d d1 g : Nat → Int32} (p : hx_PD n r d d1) (e : hx_eqN N d g) (z : n.toNat < N → d n.toNat = 0) : hx_eqN N d1 g := by
  rcases p with ⟨_, a⟩ | ⟨_, _, a⟩
  · rw [a]; exact e
  · rw [a]; exact hx_eqN_upl e (fun hn => by rw [← e _ hn]; exact z hn)
/-- a CLAIM is filed -/
def hx_FC (c n now a b s fr w : Int) (d : Nat → Int32) : Prop := c < 100 ∧ (0 ≤ a ∧ a < n) ∧ (0 ≤ b ∧ b < n) ∧ a ≠ b ∧ (d b.toNat).toInt = 0 ∧ (1 ≤ s ∧ s ≤ 9999) ∧ (0 ≤ fr ∧ fr ≤ now) ∧ (0 ≤ w ∧ w ≤ 9)
def hx_FS (c n now a b s fr w : Int) (d : Nat → Int32) (r c1 : Int) : Prop := (r = -1 ∧ c1 = c ∧ ¬ hx_FC c n now a b s fr w d) ∨ (r = c ∧ c1 = c + 1 ∧ hx_FC c n now a b s fr w d)
theorem hx_fk {c n now a b s fr w : Int} {N : Nat} {d g : Nat → Int32} {r1 r2 n1 n2 : Int32} (hn : n ≤ N) (e : hx_eqN N d g) (p : hx_FS c n now a b s fr w d r1.toInt n1.toInt) (q : hx_FS c n now a b s fr w g r2.toInt n2.toInt) : r1.toInt = r2.toInt ∧ n1 = n2 := by
  have key : hx_FC c n now a b s fr w d ↔ hx_FC c n now a b s fr w g := by
    constructor
    · exact fun z => ⟨z.1, z.2.1, z.2.2.1, z.2.2.2.1, by rw [← e b.toNat (by have := z.2.2.1; omega)]; exact z.2.2.2.2.1, z.2.2.2.2.2⟩
    · exact fun z => ⟨z.1, z.2.1, z.2.2.1, z.2.2.2.1, by rw [e b.toNat (by have := z.2.2.1; omega)]; exact z.2.2.2.2.1, z.2.2.2.2.2⟩
  rcases p with ⟨a1, a2, a3⟩ | ⟨a1, a2, a3⟩ <;> rcases q with ⟨b1, b2, b3⟩ | ⟨b1, b2, b3⟩
  · exact ⟨by omega, Int32.toInt_inj.mp (by omega)⟩
  · exact absurd (key.mpr b3) a3
  · exact absurd (key.mp a3) b3
  · exact ⟨by omega, Int32.toInt_inj.mp (by omega)⟩
theorem hx_nz01 {v : Int32} (h : v.toInt = 0 ∨ v.toInt = 1) : vp_nar .boolean v = v := by
  rcases h with h | h
  · have : v = 0 := Int32.toInt_inj.mp (h.trans (by decide))
    subst this; rfl
  · have : v = 1 := Int32.toInt_inj.mp (h.trans (by decide))
    subst this; rfl
/-- who was heard was found -/
def hx_HF (n : Int) (hf ff : Nat → Int32) : Prop := ∀ c : Nat, (c : Int) < n → (hf c).toInt ≠ -1 → (ff c).toInt ≠ -1
theorem hx_HF_f {n n1 : Int} {hf hf1 ff ff1 : Nat → Int32} (h : hx_HF n hf ff) (n0 : 0 ≤ n) (p : (n1 = n ∧ hf1 = hf ∧ ff1 = ff) ∨ (n1 = n + 1 ∧ hf1 = hx_up hf n.toNat (-1) ∧ ff1 = hx_up ff n.toNat (-1))) : hx_HF n1 hf1 ff1 := by
  rcases p with ⟨a, b, c⟩ | ⟨a, b, c⟩
  · rw [a, b, c]; exact h
  · rw [a, b, c]
    intro k hk hh
    by_cases z : k = n.toNat
    · rw [z, hx_up_at] at hh; exact absurd (by decide) hh
    · rw [hx_up_ne z] at hh ⊢; exact h k (by omega) hh
theorem hx_HF_h {n : Int} {hf hf1 ff : Nat → Int32} (h : hx_HF n hf ff) (p : hf1 = hf ∨ ∃ (j : Nat) (v : Int32), hf1 = hx_up hf j v ∧ (ff j).toInt ≠ -1) : hx_HF n hf1 ff := by
  rcases p with e | ⟨j, v, e, hj⟩
  · rw [e]; exact h
  · rw [e]
    intro c hc hh
    by_cases z : c = j
    · rw [z]; exact hj
    · rw [hx_up_ne z] at hh; exact h c hc hh
/-- of a new CLAIM's columns: as before, or one more at the end -/
def hx_CD (n r : Int) (v : Int32) (d d1 : Nat → Int32) : Prop := (r = -1 ∧ d1 = d) ∨ (r = n ∧ 0 ≤ n ∧ d1 = hx_up d n.toNat v)
theorem hx_cdk {n r r2 : Int} {N : Nat} {v : Int32} {d d1 g g1 : Nat → Int32} (hr : r = r2) (p : hx_CD n r v d d1) (q : hx_CD n r2 v g g1) (e : hx_eqN N d g) : hx_eqN N d1 g1 := by
  rcases p with ⟨a1, a2⟩ | ⟨a1, a2, a3⟩ <;> rcases q with ⟨b1, b2⟩ | ⟨b1, b2, b3⟩
  · rw [a2, b2]; exact e
  · exfalso; omega
  · exfalso; omega
  · rw [a3, b3]; exact hx_eqN_up e
theorem hx_cdz {n r : Int} {N : Nat} {d d1 g : Nat → Int32} (p : hx_CD n r 0 d d1) (e : hx_eqN N d g) (z : n.toNat < N → d n.toNat = 0) : hx_eqN N d1 g := by
  rcases p with ⟨_, a⟩ | ⟨_, _, a⟩
  · rw [a]; exact e
  · rw [a]; exact hx_eqN_upl e (fun hn => by rw [← e _ hn]; exact z hn)
/-! THE LIST OF THE WALK -/
theorem hx_num_at {N : Nat} {h : hx_h} {q k p : Nat} {i : Int32} {n : Int} (hn : hx_num N h q k n) (f : h.2.2 q i.toNatClampNeg = some p) (h0 : 0 ≤ i.toInt) (h1 : i.toInt < N) : h.2.1 p k = i := by
  have hc : ((i.toNatClampNeg : Nat) : Int) = i.toInt := by unfold Int32.toNatClampNeg; omega
  have hj : i.toNatClampNeg < N := by omega
  rcases (show i.toInt < n ∨ n ≤ i.toInt by omega) with z | z
  · obtain ⟨p', f', e⟩ := (hn _ hj).1 (by omega)
    rw [f] at f'
    cases f'
    exact Int32.toInt_inj.mp (by omega)
  · rw [(hn _ hj).2 (by omega)] at f
    cases f
/-- what the one array holds, the other holds too -/
def hx_LQ (N Nc : Nat) (h : hx_h) (a b : Nat) : Prop := ∀ k, k < N → ∀ p, h.2.2 a k = some p → ∃ c, c < Nc ∧ h.2.2 b c = some p
theorem hx_LQ_S {tb : List hx_d} {M : hx_m} {L L1 : List Nat} {h h1 : hx_h} {a b t u N Nc : Nat} (hs : hx_S tb M L h L1 h1) (ga : hx_g L h a t) (gb : hx_g L h b u) (m1 : M.any (fun q => q.1 == t) = false) (m2 : M.any (fun q => q.1 == u) = false) (q : hx_LQ N Nc h a b) : hx_LQ N Nc h1 a b := fun k hk p f => by
  rw [(hs.a ga m1 k).2] at f
  obtain ⟨c, hc, e⟩ := q k hk p f
  exact ⟨c, hc, by rw [(hs.a gb m2 c).2]; exact e⟩
theorem hx_LQ_pr2 {N Nc : Nat} {h h1 : hx_h} {a b k p : Nat} {i : Int32} {n : Int} (q : hx_LQ N Nc h a b) (hn : hx_num Nc h b k n) (eh : h1 = hx_pr h b i.toNatClampNeg (some p)) (h0 : 0 ≤ i.toInt) (hi : i.toInt = n) (ne : b ≠ a) : hx_LQ N Nc h1 a b := by
  subst eh
  have hc : ((i.toNatClampNeg : Nat) : Int) = i.toInt := by unfold Int32.toNatClampNeg; omega
  intro j hj p1 f
  rw [hx_pr_ne h (some p) (fun z => ne z.1.symm)] at f
  obtain ⟨c, hcN, e⟩ := q j hj p1 f
  refine ⟨c, hcN, ?_⟩
  rw [hx_pr_ne h (some p) (fun z => ?_)]
  · exact e
  · rw [(hn c hcN).2 (by omega)] at e
    cases e