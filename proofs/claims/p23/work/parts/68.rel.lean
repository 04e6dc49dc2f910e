/-! COLUMNS: a field of all objects that an array holds, as a function of their places -/
def hx_col (N : Nat) (h : hx_h) (q k : Nat) : Nat → Int32 := fun j => if j < N then (match h.2.2 q j with | some p => h.2.1 p k | none => 0) else 0
/-- the array holds n objects, each with its place as its number, and none behind them -/
def hx_num (N : Nat) (h : hx_h) (q k : Nat) (n : Int) : Prop := ∀ j : Nat, j < N → ((j : Int) < n → ∃ p, h.2.2 q j = some p ∧ (h.2.1 p k).toInt = j) ∧ (n ≤ (j : Int) → h.2.2 q j = none)
def hx_eqN (N : Nat) (f g : Nat → Int32) : Prop := ∀ j, j < N → f j = g j
theorem hx_col_at {N : Nat} {h : hx_h} {q k j p : Nat} (f : h.2.2 q j = some p) (hj : j < N) : hx_col N h q k j = h.2.1 p k := by
  unfold hx_col
  rw [if_pos hj, f]
theorem hx_num_c {N : Nat} {h : hx_h} {q k : Nat} {n m : Int} (hn : hx_num N h q k n) (e : n = m) : hx_num N h q k m := e ▸ hn
section HXC
variable {tb : List hx_d} {M : hx_m} {L L1 : List Nat} {h h1 : hx_h} {q k t t0 N u ci x t9 : Nat} {nn : Bool} {fs : List hx_f}
theorem hx_col_S (hs : hx_S tb M L h L1 h1) (hT : hx_T tb L h) (g : hx_g L h q t) (hd : tb[t]? = some (.inr (t0, N, .inr (nn, [u])))) (hdu : tb[u]? = some (.inl (ci, fs))) (m1 : M.any (fun q => q.1 == t) = false) (m2 : M.contains (u, k) = false) : hx_col N h1 q k = hx_col N h q k := by
  funext j
  unfold hx_col
  by_cases hj : j < N
  · rw [if_pos hj, if_pos hj, (hs.a g m1 j).2]
    cases hr : h.2.2 q j with
    | none => rfl
    | some p =>
      obtain ⟨p1, p2⟩ := (hT.er g hd (k := j) hj).2 p hr
      exact (hs.o (k := k) ⟨p1, by simpa using p2⟩ (by rw [hdu]; trivial) m2).1
  · rw [if_neg hj, if_neg hj]
theorem hx_num_S {n : Int} (hs : hx_S tb M L h L1 h1) (hT : hx_T tb L h) (g : hx_g L h q t) (hd : tb[t]? = some (.inr (t0, N, .inr (nn, [u])))) (hdu : tb[u]? = some (.inl (ci, fs))) (m1 : M.any (fun q => q.1 == t) = false) (m2 : M.contains (u, k) = false) (hn : hx_num N h q k n) : hx_num N h1 q k n := by
  intro j hj
  rw [(hs.a g m1 j).2]
  refine ⟨fun hjn => ?_, (hn j hj).2⟩
  obtain ⟨p, f, e⟩ := (hn j hj).1 hjn
  obtain ⟨p1, p2⟩ := (hT.er g hd (k := j) hj).2 p f
  exact ⟨p, f, by rw [(hs.o (k := k) ⟨p1, by simpa using p2⟩ (by rw [hdu]; trivial) m2).1]; exact e⟩
theorem hx_col_X (hs : hx_S tb M (hx_X L x) h L1 h1) (hT : hx_T tb L h) (g : hx_g (hx_X L x) h q t) (gx : hx_g L h x t9) (hd : tb[t]? = some (.inr (t0, N, .inr (nn, [u])))) (hdu : tb[u]? = some (.inl (ci, fs))) (m1 : M.any (fun q => q.1 == t) = false) (m2 : M.contains (u, k) = false) (ne : u ≠ t9) : hx_col N h1 q k = hx_col N h q k := by
  funext j
  unfold hx_col
  by_cases hj : j < N
  · rw [if_pos hj, if_pos hj, (hs.a g m1 j).2]
    cases hr : h.2.2 q j with
    | none => rfl
    | some p =>
      obtain ⟨p1, p2⟩ := (hT.er ⟨(hx_X_m.mp g.1).1, g.2⟩ hd (k := j) hj).2 p hr
      have p2 : h.1 p = u := by simpa using p2
      exact (hs.o (k := k) ⟨hx_X_m.mpr ⟨p1, fun z => ne (by rw [← p2, z, gx.2])⟩, p2⟩ (by rw [hdu]; trivial) m2).1
  · rw [if_neg hj, if_neg hj]
theorem hx_num_X {n : Int} (hs : hx_S tb M (hx_X L x) h L1 h1) (hT : hx_T tb L h) (g : hx_g (hx_X L x) h q t) (gx : hx_g L h x t9) (hd : tb[t]? = some (.inr (t0, N, .inr (nn, [u])))) (hdu : tb[u]? = some (.inl (ci, fs))) (m1 : M.any (fun q => q.1 == t) = false) (m2 : M.contains (u, k) = false) (ne : u ≠ t9) (hn : hx_num N h q k n) : hx_num N h1 q k n := by
  intro j hj
  rw [(hs.a g m1 j).2]
  refine ⟨fun hjn => ?_, (hn j hj).2⟩
  obtain ⟨p, f, e⟩ := (hn j hj).1 hjn
  obtain ⟨p1, p2⟩ := (hT.er ⟨(hx_X_m.mp g.1).1, g.2⟩ hd (k := j) hj).2 p f
  have p2 : h.1 p = u := by simpa using p2
  exact ⟨p, f, by rw [(hs.o (k := k) ⟨hx_X_m.mpr ⟨p1, fun z => ne (by rw [← p2, z, gx.2])⟩, p2⟩ (by rw [hdu]; trivial) m2).1]; exact e⟩
end HXC
theorem hx_num_eq {N : Nat} {h : hx_h} {q k i j p : Nat} {n : Int} (hn : hx_num N h q k n) (hi : i < N) (hj : j < N) (fi : h.2.2 q i = some p) (fj : h.2.2 q j = some p) : i = j := by
  have ki : (i : Int) < n := by
    rcases (show (i : Int) < n ∨ n ≤ (i : Int) by omega) with z | z
    · exact z
    · rw [(hn i hi).2 z] at fi; cases fi
  have kj : (j : Int) < n := by
    rcases (show (j : Int) < n ∨ n ≤ (j : Int) by omega) with z | z
    · exact z
    · rw [(hn j hj).2 z] at fj; cases fj
  obtain ⟨a, fa, ea⟩ := (hn i hi).1 ki
  obtain ⟨b, fb, eb⟩ := (hn j hj).1 kj
  have e1 : a = p := Option.some.inj (fa.symm.trans fi)
  have e2 : b = p := Option.some.inj (fb.symm.trans fj)
  subst e1; subst e2
  omega
theorem hx_col_pi {N : Nat} {h h1 : hx_h} {q k k0 i p : Nat} {n : Int} {v : Int32} (hn : hx_num N h q k0 n) (f : h.2.2 q i = some p) (hi : i < N) (eh : h1 = hx_pi h p k v) : hx_col N h1 q k = hx_up (hx_col N h q k) i v := by
  subst eh
  funext j
  by_cases hji : j = i
  · subst hji
    rw [hx_up_at, hx_col_at (h := hx_pi h p k v) (p := p) f hi, hx_pi_at]
  · rw [hx_up_ne hji]
    unfold hx_col
    by_cases hj : j < N
    · rw [if_pos hj, if_pos hj]
      show (match h.2.2 q j with | some p1 => (hx_pi h p k v).2.1 p1 k | none => 0) = _
      cases hr : h.2.2 q j with
      | none => rfl
      | some p1 =>
        refine hx_pi_ne h v (fun z => hji ?_)
        rw [z.1] at hr
        exact hx_num_eq hn hj hi hr f
    · rw [if_neg hj, if_neg hj]
theorem hx_col_pr {N : Nat} {h h1 : hx_h} {q k i p : Nat} (eh : h1 = hx_pr h q i (some p)) (hi : i < N) : hx_col N h1 q k = hx_up (hx_col N h q k) i (h.2.1 p k) := by
  subst eh
  funext j
  by_cases hji : j = i
  · subst hji
    rw [hx_up_at, hx_col_at (h := hx_pr h q j (some p)) (p := p) (hx_pr_at _ _ _ _) hi]
    rfl
  · rw [hx_up_ne hji]
    unfold hx_col
    by_cases hj : j < N
    · rw [if_pos hj, if_pos hj, hx_pr_ne h (some p) (fun z => hji z.2)]
      rfl
    · rw [if_neg hj, if_neg hj]
theorem hx_num_pr {N : Nat} {h h1 : hx_h} {q k p : Nat} {i : Int32} {n : Int} (hn : hx_num N h q k n) (eh : h1 = hx_pr h q i.toNatClampNeg (some p)) (h0 : 0 ≤ i.toInt) (hi : i.toInt = n) (hp : (h.2.1 p k).toInt = i.toInt) : hx_num N h1 q k (n + 1) := by
  subst eh
  have hc : ((i.toNatClampNeg : Nat) : Int) = i.toInt := by unfold Int32.toNatClampNeg; omega
  intro j hj
  by_cases hji : j = i.toNatClampNeg
  · subst hji
    refine ⟨fun _ => ⟨p, hx_pr_at _ _ _ _, ?_⟩, fun z => by exfalso; omega⟩
    show (h.2.1 p k).toInt = _
    omega
  · rw [hx_pr_ne h (some p) (fun z => hji z.2)]
    refine ⟨fun z => ?_, fun z => (hn j hj).2 (by omega)⟩
    obtain ⟨a, fa, ea⟩ := (hn j hj).1 (by omega)
    exact ⟨a, fa, ea⟩
theorem hx_num_z {N : Nat} {h : hx_h} {q k k1 j : Nat} {n : Int} {f : Nat → Int32} (hn : hx_num N h q k n) (hc : hx_col N h q k1 = f) (hj : j < N) (hz : n ≤ (j : Int)) : f j = 0 := by
  rw [← hc]
  unfold hx_col
  rw [if_pos hj, (hn j hj).2 hz]
theorem hx_num_0 {N : Nat} {h : hx_h} {q k : Nat} (z : ∀ j, h.2.1 q j = 0 ∧ h.2.2 q j = none) : hx_num N h q k 0 := fun j _ => ⟨fun hj => by exfalso; omega, fun _ => (z j).2⟩
theorem hx_col_0 {N : Nat} {h : hx_h} {q k r : Nat} (z : ∀ j, h.2.1 q j = 0 ∧ h.2.2 q j = none) (z2 : ∀ j, h.2.1 r j = 0) : hx_eqN N (hx_col N h q k) (h.2.1 r) := fun j hj => by
  unfold hx_col
  rw [if_pos hj, (z j).2, z2 j]
theorem hx_eqN_up {N : Nat} {f g : Nat → Int32} {i : Nat} {v : Int32} (h : hx_eqN N f g) : hx_eqN N (hx_up f i v) (hx_up g i v) := fun j hj => by
  by_cases e : j = i
  · subst e; rw [hx_up_at, hx_up_at]
  · rw [hx_up_ne e, hx_up_ne e]; exact h j hj
theorem hx_eqN_upl {N : Nat} {f g : Nat → Int32} {i : Nat} {v : Int32} (h : hx_eqN N f g) (e : i < N → g i = v) : hx_eqN N (hx_up f i v) g := fun j hj => by
  by_cases e1 : j = i
  · subst e1; rw [hx_up_at]; exact (e hj).symm
  · rw [hx_up_ne e1]; exact h j hj
/-! WHAT BOTH SIDES ANSWER ALIKE -/
def hx_hh (b c d e : Int) : Prop := (0 ≤ b ∧ b ≤ 9999) ∧ (1 ≤ c ∧ c ≤ 20) ∧ (0 ≤ d ∧ d ≤ 99) ∧ (0 ≤ e ∧ e ≤ 99)
def hx_pcn (n a b c d e f : Int) : Prop := n < 40 ∧ (-30000 ≤ a ∧ a ≤ 7999) ∧ (0 ≤ b ∧ b ≤ 9999) ∧ (1 ≤ c ∧ c ≤ 20) ∧ (0 ≤ d ∧ d ≤ 99) ∧ (0 ≤ e ∧ e ≤ 99) ∧ (-1 ≤ f ∧ f ≤ 19)
def hx_PS (n a b c d e f r n1 : Int) : Prop := (r = -1 ∧ n1 = n ∧ ¬ hx_pcn n a b c d e f) ∨ (r = n ∧ n1 = n + 1 ∧ hx_pcn n a b c d e f)
theorem hx_pk {n a b c d e f : Int} {r1 r2 n1 n2 : Int32} (p : hx_PS n a b c d e f r1.toInt n1.toInt) (q : hx_PS n a b c d e f r2.toInt n2.toInt) : r1.toInt = r2.toInt ∧ n1 = n2 := by
  rcases p with ⟨a1, a2, a3⟩ | ⟨a1, a2, a3⟩ <;> rcases q with ⟨b1, b2, b3⟩ | ⟨b1, b2, b3⟩
  · exact ⟨by omega, Int32.toInt_inj.mp (by omega)⟩
  · exact absurd b3 a3
  · exact absurd a3 b3
  · exact ⟨by omega, Int32.toInt_inj.mp (by omega)⟩
/-- of a PERSON's new columns: as before, or one more 0 -/
def hx_PD (n r : Int) (d d1 : Nat → Int32) : Prop := (r = -1 ∧ d1 = d) ∨ (r = n ∧ 0 ≤ n ∧ d1 = hx_up d n.toNat 0)
theorem hx_pdk {n r : Int} {N : Nat} {d d1 g : Nat → Int32} (p : hx_PD n r d d1) (e : hx_eqN N d g) (z : n.toNat < N → d n.toNat = 0) : hx_eqN N d1 g := by
  rcases p with ⟨_, a⟩ | ⟨_, _, a⟩
  · rw [a]; exact e
  · rw [a]; exact hx_eqN_upl e (fun hn => by rw [← e _ hn]; exact z hn)
def hx_JC (n i : Int) (v : Int32) (d : Nat → Int32) : Prop := 0 ≤ i ∧ i < n ∧ (d i.toNat).toInt ≠ v.toInt
def hx_JS (n i : Int) (v : Int32) (d : Nat → Int32) (r : Int) (d1 : Nat → Int32) : Prop := (r = 0 ∧ d1 = d ∧ ¬ hx_JC n i v d) ∨ (r = 1 ∧ d1 = hx_up d i.toNat v ∧ hx_JC n i v d)
theorem hx_JC_c {n i : Int} {N : Nat} {v : Int32} {d g : Nat → Int32} (hn : n ≤ N) (e : hx_eqN N d g) (c : hx_JC n i v d) : hx_JC n i v g := ⟨c.1, c.2.1, by rw [← e i.toNat (by have := c.1; have := c.2.1; omega)]; exact c.2.2⟩
theorem hx_eqN_s {N : Nat} {f g : Nat → Int32} (e : hx_eqN N f g) : hx_eqN N g f := fun j hj => (e j hj).symm
theorem hx_jk {n i : Int} {N : Nat} {v r1 r2 : Int32} {d d1 g g1 : Nat → Int32} (hn : n ≤ N) (e : hx_eqN N d g) (p : hx_JS n i v d r1.toInt d1) (q : hx_JS n i v g r2.toInt g1) : r1.toInt = r2.toInt ∧ hx_eqN N d1 g1 := by
  rcases p with ⟨a1, a2, a3⟩ | ⟨a1, a2, a3⟩ <;> rcases q with ⟨b1, b2, b3⟩ | ⟨b1, b2, b3⟩
  · exact ⟨by omega, by rw [a2, b2]; exact e⟩
  · exact absurd (hx_JC_c hn (hx_eqN_s e) b3) a3
  · exact absurd (hx_JC_c hn e a3) b3
  · exact ⟨by omega, by rw [a2, b2]; exact hx_eqN_up e⟩
def hx_AC (n i b c d e : Int) (f : Nat → Int32) : Prop := (0 ≤ i ∧ i < n) ∧ (f i.toNat).toInt = 0 ∧ hx_hh b c d e
def hx_AS (n i b c d e : Int) (f : Nat → Int32) (r : Int) : Prop := (r = 0 ∧ ¬ hx_AC n i b c d e f) ∨ (r = 1 ∧ hx_AC n i b c d e f)
theorem hx_ak {n i b c d e : Int} {N : Nat} {f g : Nat → Int32} {r1 r2 : Int32} (hn : n ≤ N) (q : hx_eqN N f g) (u : hx_AS n i b c d e f r1.toInt) (v : hx_AS n i b c d e g r2.toInt) : r1.toInt = r2.toInt := by
  have key : hx_AC n i b c d e f ↔ hx_AC n i b c d e g := by
    constructor
    · exact fun c => ⟨c.1, by rw [← q i.toNat (by have := c.1; omega)]; exact c.2.1, c.2.2⟩
    · exact fun c => ⟨c.1, by rw [q i.toNat (by have := c.1; omega)]; exact c.2.1, c.2.2⟩
  rcases u with ⟨a1, a2⟩ | ⟨a1, a2⟩ <;> rcases v with ⟨b1, b2⟩ | ⟨b1, b2⟩
  · omega
  · exact absurd (key.mpr b2) a2
  · exact absurd (key.mp a2) b2
  · omega
def hx_LC (l n now a b d k s : Int) : Prop := l < 400 ∧ (0 ≤ a ∧ a < n) ∧ (0 ≤ b ∧ b < n) ∧ a ≠ b ∧ (0 ≤ d ∧ d ≤ now) ∧ (0 ≤ k ∧ k ≤ 3) ∧ (1 ≤ s ∧ s ≤ 9999)
def hx_LS (l n now a b d k s r l1 : Int) : Prop := (r = -1 ∧ l1 = l ∧ ¬ hx_LC l n now a b d k s) ∨ (r = l + 1 ∧ l1 = l + 1 ∧ hx_LC l n now a b d k s)
theorem hx_lk {l n now a b d k s : Int} {r1 r2 n1 n2 : Int32} (p : hx_LS l n now a b d k s r1.toInt n1.toInt) (q : hx_LS l n now a b d k s r2.toInt n2.toInt) : r1.toInt = r2.toInt ∧ n1 = n2 := by
  rcases p with ⟨a1, a2, a3⟩ | ⟨a1, a2, a3⟩ <;> rcases q with ⟨b1, b2, b3⟩ | ⟨b1, b2, b3⟩
  · exact ⟨by omega, Int32.toInt_inj.mp (by omega)⟩
  · exact absurd b3 a3
  · exact absurd a3 b3
  · exact ⟨by omega, Int32.toInt_inj.mp (by omega)⟩
/-- a CLAIM is filed -/
def hx_FC (c n now a b s fr w : Int) (d : Nat → Int32) : Prop := c < 100 ∧ (0 ≤ a ∧ a < n) ∧ (0 ≤ b ∧ b < n) ∧ a ≠ b ∧ (d b.toNat).toInt = 0 ∧ (1 ≤ s ∧ s ≤ 9999) ∧ (0 ≤ fr ∧ fr ≤ now) ∧ (0 ≤ w ∧ w ≤ 9)
def hx_FS (c n now a b s fr w : Int) (d : Nat → Int32) (r c1 : Int) : Prop := (r = -1 ∧ c1 = c ∧ ¬ hx_FC c n now a b s fr w d) ∨ (r = c ∧ c1 = c + 1 ∧ hx_FC c n now a b s fr w d)
theorem hx_fk {c n now a b s fr w : Int} {N : Nat} {d g : Nat → Int32} {r1 r2 n1 n2 : Int32} (hn : n ≤ N) (e : hx_eqN N d g) (p : hx_FS c n now a b s fr w d r1.toInt n1.toInt) (q : hx_FS c n now a b s fr w g r2.toInt n2.toInt) : r1.toInt = r2.toInt ∧ n1 = n2 := by
  have key : hx_FC c n now a b s fr w d ↔ hx_FC c n now a b s fr w g := by
    constructor
    · exact fun z => ⟨z.1, z.2.1, z.2.2.1, z.2.2.2.1, by rw [← e b.toNat (by have := z.2.2.1; omega)]; exact z.2.2.2.2.1, z.2.2.2.2.2⟩
    · exact fun z => ⟨z.1, z.2.1, z.2.2.1, z.2.2.2.1, by rw [e b.toNat (by have := z.2.2.1; omega)]; exact z.2.2.2.2.1, z.2.2.2.2.2⟩
  rcases p with ⟨a1, a2, a3⟩ | ⟨a1, a2, a3⟩ <;> rcases q with ⟨b1, b2, b3⟩ | ⟨b1, b2, b3⟩
  · exact ⟨by omega, Int32.toInt_inj.mp (by omega)⟩
  · exact absurd (key.mpr b3) a3
  · exact absurd (key.mp a3) b3
  · exact ⟨by omega, Int32.toInt_inj.mp (by omega)⟩
theorem hx_nz01 {v : Int32} (h : v.toInt = 0 ∨ v.toInt = 1) : vp_nar .boolean v = v := by
  rcases h with h | h
  · have : v = 0 := Int32.toInt_inj.mp (h.trans (by decide))
    subst this; rfl
  · have : v = 1 := Int32.toInt_inj.mp (h.trans (by decide))
    subst this; rfl
/-- a CLAIM is summoned -/
def hx_SC (n i : Int) (ff : Nat → Int32) : Prop := 0 ≤ i ∧ i < n ∧ (ff i.toNat).toInt = -1
def hx_SS (n i : Int) (b nw r : Int32) (ff ff1 tf tf1 : Nat → Int32) : Prop := (r = -1 ∧ ff1 = ff ∧ tf1 = tf ∧ ¬ hx_SC n i ff) ∨ (hx_SC n i ff ∧ r = tf i.toNat + 1 ∧ tf1 = hx_up tf i.toNat (tf i.toNat + 1) ∧ ((b.toInt = 0 ∧ ff1 = ff) ∨ (b.toInt ≠ 0 ∧ ff1 = hx_up ff i.toNat nw)))
theorem hx_SC_c {n i : Int} {N : Nat} {d g : Nat → Int32} (hn : n ≤ N) (e : hx_eqN N d g) (c : hx_SC n i d) : hx_SC n i g := ⟨c.1, c.2.1, by rw [← e i.toNat (by have := c.1; have := c.2.1; omega)]; exact c.2.2⟩
theorem hx_sk {n i : Int} {N : Nat} {b nw r1 r2 : Int32} {ff ff1 tf tf1 gf gf1 ug ug1 : Nat → Int32} (hn : n ≤ N) (e : hx_eqN N ff gf) (e2 : hx_eqN N tf ug) (p : hx_SS n i b nw r1 ff ff1 tf tf1) (q : hx_SS n i b nw r2 gf gf1 ug ug1) : r1.toInt = r2.toInt ∧ hx_eqN N ff1 gf1 ∧ hx_eqN N tf1 ug1 := by
  rcases p with ⟨a1, a2, a3, a4⟩ | ⟨a1, a2, a3, a4⟩ <;> rcases q with ⟨b1, b2, b3, b4⟩ | ⟨b1, b2, b3, b4⟩
  · exact ⟨by rw [a1, b1], by rw [a2, b2]; exact e, by rw [a3, b3]; exact e2⟩
  · exact absurd (hx_SC_c hn (hx_eqN_s e) b1) a4
  · exact absurd (hx_SC_c hn e a1) b4
  · have hi : i.toNat < N := by have := a1.1; have := a1.2.1; omega
    have h2 : tf i.toNat = ug i.toNat := e2 _ hi
    refine ⟨by rw [a2, b2, h2], ?_, by rw [a3, b3, h2]; exact hx_eqN_up e2⟩
    rcases a4 with ⟨u1, u2⟩ | ⟨u1, u2⟩ <;> rcases b4 with ⟨v1, v2⟩ | ⟨v1, v2⟩
    · rw [u2, v2]; exact e
    · exact absurd u1 v1
    · exact absurd v1 u1
    · rw [u2, v2]; exact hx_eqN_up e
/-- who was heard was found -/
def hx_HF (n : Int) (hf ff : Nat → Int32) : Prop := ∀ c : Nat, (c : Int) < n → (hf c).toInt ≠ -1 → (ff c).toInt ≠ -1
theorem hx_HF_s {n i : Int} {b nw r : Int32} {ff ff1 tf tf1 hf : Nat → Int32} (h : hx_HF n hf ff) (hn : 0 ≤ nw.toInt) (p : hx_SS n i b nw r ff ff1 tf tf1) : hx_HF n hf ff1 := by
  intro c hc hh
  have h0 := h c hc hh
  rcases p with ⟨_, e, _⟩ | ⟨_, _, _, ⟨_, e⟩ | ⟨_, e⟩⟩
  · rw [e]; exact h0
  · rw [e]; exact h0
  · rw [e]
    by_cases z : c = i.toNat
    · rw [z, hx_up_at]; omega
    · rw [hx_up_ne z]; exact h0
theorem hx_HF_f {n n1 : Int} {hf hf1 ff ff1 : Nat → Int32} (h : hx_HF n hf ff) (n0 : 0 ≤ n) (p : (n1 = n ∧ hf1 = hf ∧ ff1 = ff) ∨ (n1 = n + 1 ∧ hf1 = hx_up hf n.toNat (-1) ∧ ff1 = hx_up ff n.toNat (-1))) : hx_HF n1 hf1 ff1 := by
  rcases p with ⟨a, b, c⟩ | ⟨a, b, c⟩
  · rw [a, b, c]; exact h
  · rw [a, b, c]
    intro k hk hh
    by_cases z : k = n.toNat
    · rw [z, hx_up_at] at hh; exact absurd (by decide) hh
    · rw [hx_up_ne z] at hh ⊢; exact h k (by omega) hh
theorem hx_HF_h {n : Int} {hf hf1 ff : Nat → Int32} (h : hx_HF n hf ff) (p : hf1 = hf ∨ ∃ (j : Nat) (v : Int32), hf1 = hx_up hf j v ∧ (ff j).toInt ≠ -1) : hx_HF n hf1 ff := by
  rcases p with e | ⟨j, v, e, hj⟩
  · rw [e]; exact h
  · rw [e]
    intro c hc hh
    by_cases z : c = j
    · rw [z]; exact hj
    · rw [hx_up_ne z] at hh; exact h c hc hh
/-- of a new CLAIM's columns: as before, or one more at the end -/
def hx_CD (n r : Int) (v : Int32) (d d1 : Nat → Int32) : Prop := (r = -1 ∧ d1 = d) ∨ (r = n ∧ 0 ≤ n ∧ d1 = hx_up d n.toNat v)
theorem hx_cdk {n r r2 : Int} {N : Nat} {v : Int32} {d d1 g g1 : Nat → Int32} (hr : r = r2) (p : hx_CD n r v d d1) (q : hx_CD n r2 v g g1) (e : hx_eqN N d g) : hx_eqN N d1 g1 := by
  rcases p with ⟨a1, a2⟩ | ⟨a1, a2, a3⟩ <;> rcases q with ⟨b1, b2⟩ | ⟨b1, b2, b3⟩
  · rw [a2, b2]; exact e
  · exfalso; omega
  · exfalso; omega
  · rw [a3, b3]; exact hx_eqN_up e
theorem hx_cdz {n r : Int} {N : Nat} {d d1 g : Nat → Int32} (p : hx_CD n r 0 d d1) (e : hx_eqN N d g) (z : n.toNat < N → d n.toNat = 0) : hx_eqN N d1 g := by
  rcases p with ⟨_, a⟩ | ⟨_, _, a⟩
  · rw [a]; exact e
  · rw [a]; exact hx_eqN_upl e (fun hn => by rw [← e _ hn]; exact z hn)
/-! THE LIST OF THE WALK -/
theorem hx_num_at {N : Nat} {h : hx_h} {q k p : Nat} {i : Int32} {n : Int} (hn : hx_num N h q k n) (f : h.2.2 q i.toNatClampNeg = some p) (h0 : 0 ≤ i.toInt) (h1 : i.toInt < N) : h.2.1 p k = i := by
  have hc : ((i.toNatClampNeg : Nat) : Int) = i.toInt := by unfold Int32.toNatClampNeg; omega
  have hj : i.toNatClampNeg < N := by omega
  rcases (show i.toInt < n ∨ n ≤ i.toInt by omega) with z | z
  · obtain ⟨p', f', e⟩ := (hn _ hj).1 (by omega)
    rw [f] at f'
    cases f'
    exact Int32.toInt_inj.mp (by omega)
  · rw [(hn _ hj).2 (by omega)] at f
    cases f
/-- what the one array holds, the other holds too -/
def hx_LQ (N Nc : Nat) (h : hx_h) (a b : Nat) : Prop := ∀ k, k < N → ∀ p, h.2.2 a k = some p → ∃ c, c < Nc ∧ h.2.2 b c = some p
theorem hx_LQ_S {tb : List hx_d} {M : hx_m} {L L1 : List Nat} {h h1 : hx_h} {a b t u N Nc : Nat} (hs : hx_S tb M L h L1 h1) (ga : hx_g L h a t) (gb : hx_g L h b u) (m1 : M.any (fun q => q.1 == t) = false) (m2 : M.any (fun q => q.1 == u) = false) (q : hx_LQ N Nc h a b) : hx_LQ N Nc h1 a b := fun k hk p f => by
  rw [(hs.a ga m1 k).2] at f
  obtain ⟨c, hc, e⟩ := q k hk p f
  exact ⟨c, hc, by rw [(hs.a gb m2 c).2]; exact e⟩
theorem hx_LQ_pr2 {N Nc : Nat} {h h1 : hx_h} {a b k p : Nat} {i : Int32} {n : Int} (q : hx_LQ N Nc h a b) (hn : hx_num Nc h b k n) (eh : h1 = hx_pr h b i.toNatClampNeg (some p)) (h0 : 0 ≤ i.toInt) (hi : i.toInt = n) (ne : b ≠ a) : hx_LQ N Nc h1 a b := by
  subst eh
  have hc : ((i.toNatClampNeg : Nat) : Int) = i.toInt := by unfold Int32.toNatClampNeg; omega
  intro j hj p1 f
  rw [hx_pr_ne h (some p) (fun z => ne z.1.symm)] at f
  obtain ⟨c, hcN, e⟩ := q j hj p1 f
  refine ⟨c, hcN, ?_⟩
  rw [hx_pr_ne h (some p) (fun z => ?_)]
  · exact e
  · rw [(hn c hcN).2 (by omega)] at e
    cases e
theorem hx_LQ_0 {N Nc : Nat} {h : hx_h} {a b : Nat} (z : ∀ j, h.2.1 a j = 0 ∧ h.2.2 a j = none) : hx_LQ N Nc h a b := fun k _ p f => by
  rw [(z k).2] at f; cases f
/-- behind it the array holds nothing that it did not hold, but v -/
def hx_EL (h h1 : hx_h) (a v : Nat) : Prop := ∀ k, k < 8 → ∀ p, h1.2.2 a k = some p → p = v ∨ ∃ j, j < 8 ∧ h.2.2 a j = some p
theorem hx_EL_rf {h : hx_h} {a v : Nat} : hx_EL h h a v := fun k hk p f => Or.inr ⟨k, hk, f⟩
theorem hx_EL_s {h h0 h1 : hx_h} {a v i x j : Nat} (q : hx_EL h h0 a v) (eh : h1 = hx_pr h0 a i (some x)) (fo : h0.2.2 a j = some x) (hj : j < 8) : hx_EL h h1 a v := fun k hk p f => by
  subst eh
  by_cases z : k = i
  · subst z; rw [hx_pr_at] at f; cases f; exact q j hj _ fo
  · rw [hx_pr_ne h0 (some x) (fun w => z w.2)] at f; exact q k hk p f
theorem hx_EL_v {h h0 h1 : hx_h} {a v i : Nat} (q : hx_EL h h0 a v) (eh : h1 = hx_pr h0 a i (some v)) : hx_EL h h1 a v := fun k hk p f => by
  subst eh
  by_cases z : k = i
  · subst z; rw [hx_pr_at] at f; cases f; exact Or.inl rfl
  · rw [hx_pr_ne h0 (some v) (fun w => z w.2)] at f; exact q k hk p f
theorem hx_EL_pi {h h0 h1 : hx_h} {a v b k0 : Nat} {x : Int32} (q : hx_EL h h0 a v) (eh : h1 = hx_pi h0 b k0 x) : hx_EL h h1 a v := fun k hk p f => by
  subst eh
  exact q k hk p f
theorem hx_LQ_EL {Nc : Nat} {h h1 : hx_h} {a b v i : Nat} (q : hx_LQ 8 Nc h a b) (el : hx_EL h h1 a v) (fo : h.2.2 b i = some v) (hi : i < Nc) (hb : ∀ c, h1.2.2 b c = h.2.2 b c) : hx_LQ 8 Nc h1 a b := fun k hk p f => by
  rcases el k hk p f with z | ⟨j, hj, z⟩
  · exact ⟨i, hi, by rw [hb, z]; exact fo⟩
  · obtain ⟨c, hc, e⟩ := q j hj p z
    exact ⟨c, hc, by rw [hb]; exact e⟩
/-- the one with that number is that one -/
theorem hx_LQ_u {h : hx_h} {a b k p v : Nat} {i : Int32} {n : Int} {lf : Nat → Int32} {j : Nat} (q : hx_LQ 8 100 h a b) (hn : hx_num 100 h b k n) (hc : hx_col 8 h a k = lf) (fo : h.2.2 b i.toNatClampNeg = some v) (h0 : 0 ≤ i.toInt) (h1 : i.toInt < 100) (hj : j < 8) (f : h.2.2 a j = some p) (e : lf j = i) : p = v := by
  obtain ⟨c, hcN, fc⟩ := q j hj p f
  rw [← hc, hx_col_at f hj] at e
  rcases (show (c : Int) < n ∨ n ≤ (c : Int) by omega) with z | z
  · obtain ⟨p', f', e'⟩ := (hn c hcN).1 z
    rw [fc] at f'
    cases f'
    rw [e] at e'
    have : c = i.toNatClampNeg := by unfold Int32.toNatClampNeg; omega
    rw [this, fo] at fc
    cases fc
    rfl
  · rw [(hn c hcN).2 z] at fc
    cases fc
def hx_isin (f : Nat → Int32) (n : Int) (v : Int32) : Prop := ∃ k : Nat, (k : Int) < n ∧ f k = v
theorem hx_nin_s {f : Nat → Int32} {i j : Int} {v : Int32} (h : ∀ k : Nat, (k : Int) < i → f k ≠ v) (h0 : 0 ≤ i) (hne : f i.toNat ≠ v) (e : j = i + 1) : ∀ k : Nat, (k : Int) < j → f k ≠ v := fun k hk => by
  rcases (show (k : Int) < i ∨ k = i.toNat by omega) with z | z
  · exact h k z
  · rw [z]; exact hne
theorem hx_isin_c {N : Nat} {f g : Nat → Int32} {n : Int} {v : Int32} (hn : n ≤ N) (e : hx_eqN N f g) (h : hx_isin f n v) : hx_isin g n v := by
  obtain ⟨k, hk, q⟩ := h
  exact ⟨k, hk, by rw [← e k (by omega)]; exact q⟩
/-- put into its place among the first n, as far as it has come: the place i -/
def hx_is (f g : Nat → Int32) (n i : Int) (v : Int32) : Prop := (∀ k : Nat, (k : Int) < i → g k = f k) ∧ (∀ k : Nat, i < (k : Int) → (k : Int) ≤ n → g k = f (k - 1)) ∧ (∀ k : Nat, n < (k : Int) → g k = f k) ∧ (∀ k : Nat, i ≤ (k : Int) → (k : Int) < n → v.toInt < (f k).toInt)
theorem hx_is_0 {f : Nat → Int32} {n : Int} {v : Int32} : hx_is f f n n v := ⟨fun _ _ => rfl, fun k h1 h2 => by exfalso; omega, fun _ _ => rfl, fun k h1 h2 => by exfalso; omega⟩
theorem hx_is_s {f g g1 : Nat → Int32} {n i : Int} {v y j : Int32} (h : hx_is f g n i v) (hi : 0 < i) (hn : i ≤ n) (hy : y.toInt = i - 1) (hv : v.toInt < (g y.toNatClampNeg).toInt) (hj : j.toInt = i) (e : g1 = hx_up g j.toNatClampNeg (g y.toNatClampNeg)) : hx_is f g1 n y.toInt v := by
  obtain ⟨a, b, c, d⟩ := h
  have cj : ((j.toNatClampNeg : Nat) : Int) = i := by unfold Int32.toNatClampNeg; omega
  have cy : ((y.toNatClampNeg : Nat) : Int) = i - 1 := by unfold Int32.toNatClampNeg; omega
  have gy : g y.toNatClampNeg = f y.toNatClampNeg := a _ (by omega)
  subst e
  refine ⟨fun k hk => ?_, fun k h1 h2 => ?_, fun k hk => ?_, fun k h1 h2 => ?_⟩
  · rw [hx_up_ne (by omega)]; exact a k (by omega)
  · by_cases z : k = j.toNatClampNeg
    · rw [z, hx_up_at, gy]; congr 1; omega
    · rw [hx_up_ne z]; exact b k (by omega) h2
  · rw [hx_up_ne (by omega)]; exact c k hk
  · by_cases z : k = y.toNatClampNeg
    · rw [z, ← gy]; exact hv
    · exact d k (by omega) h2
def hx_ins (f g : Nat → Int32) (n : Int) (v : Int32) : Prop := ∃ (i : Int) (g0 : Nat → Int32), 0 ≤ i ∧ i ≤ n ∧ hx_is f g0 n i v ∧ g = hx_up g0 i.toNat v ∧ (i = 0 ∨ (f (i - 1).toNat).toInt ≤ v.toInt)
theorem hx_ins_k {f1 f2 g1 g2 : Nat → Int32} {n : Int} {v : Int32} (hn : n < 8) (e : hx_eqN 8 f1 f2) (p : hx_ins f1 g1 n v) (q : hx_ins f2 g2 n v) : hx_eqN 8 g1 g2 := by
  obtain ⟨i, a, i0, i1, ⟨a1, a2, a3, a4⟩, ea, oa⟩ := p
  obtain ⟨j, b, j0, j1, ⟨b1, b2, b3, b4⟩, eb, ob⟩ := q
  have hij : i = j := by
    rcases (show i < j ∨ i = j ∨ j < i by omega) with z | z | z
    · exfalso
      rcases ob with w | w
      · omega
      · have h1 := a4 (j - 1).toNat (by omega) (by omega)
        rw [e _ (by omega)] at h1
        omega
    · exact z
    · exfalso
      rcases oa with w | w
      · omega
      · have h1 := b4 (i - 1).toNat (by omega) (by omega)
        rw [← e _ (by omega)] at h1
        omega
  subst hij
  intro k hk
  rw [ea, eb]
  by_cases z : k = i.toNat
  · rw [z, hx_up_at, hx_up_at]
  · rw [hx_up_ne z, hx_up_ne z]
    rcases (show (k : Int) < i ∨ (i < (k : Int) ∧ (k : Int) ≤ n) ∨ n < (k : Int) by omega) with w | w | w
    · rw [a1 k w, b1 k w]; exact e k hk
    · rw [a2 k w.1 w.2, b2 k w.1 w.2]; exact e (k - 1) (by omega)
    · rw [a3 k w, b3 k w]; exact e k hk
def hx_WC (c i n : Int) (v : Int32) (ff lf : Nat → Int32) : Prop := 0 ≤ i ∧ i < c ∧ (ff i.toNat).toInt = -1 ∧ ¬ hx_isin lf n v ∧ n < 8
def hx_WL (c i n : Int) (v : Int32) (ff lf lf1 : Nat → Int32) (r n1 : Int) : Prop := (r = -1 ∧ lf1 = lf ∧ n1 = n ∧ ¬ hx_WC c i n v ff lf) ∨ (r = n + 1 ∧ n1 = n + 1 ∧ hx_ins lf lf1 n v ∧ hx_WC c i n v ff lf)
theorem hx_wk {c i n : Int} {v r1 r2 n1 n2 : Int32} {ff gf lf lf1 mf mf1 : Nat → Int32} (hc : c ≤ 100) (hn : n ≤ 8) (e : hx_eqN 100 ff gf) (e2 : hx_eqN 8 lf mf) (p : hx_WL c i n v ff lf lf1 r1.toInt n1.toInt) (q : hx_WL c i n v gf mf mf1 r2.toInt n2.toInt) : r1.toInt = r2.toInt ∧ n1 = n2 ∧ hx_eqN 8 lf1 mf1 := by
  have key : hx_WC c i n v ff lf ↔ hx_WC c i n v gf mf := by
    constructor
    · rintro ⟨a, b, d, f, g⟩
      exact ⟨a, b, by rw [← e _ (by omega)]; exact d, fun z => f (hx_isin_c (N := 8) hn (hx_eqN_s e2) z), g⟩
    · rintro ⟨a, b, d, f, g⟩
      exact ⟨a, b, by rw [e _ (by omega)]; exact d, fun z => f (hx_isin_c (N := 8) hn e2 z), g⟩
  rcases p with ⟨a1, a2, a3, a4⟩ | ⟨a1, a2, a3, a4⟩ <;> rcases q with ⟨b1, b2, b3, b4⟩ | ⟨b1, b2, b3, b4⟩
  · exact ⟨by omega, Int32.toInt_inj.mp (by omega), by rw [a2, b2]; exact e2⟩
  · exact absurd (key.mpr b4) a4
  · exact absurd (key.mp a4) b4
  · exact ⟨by omega, Int32.toInt_inj.mp (by omega), hx_ins_k a4.2.2.2.2 e2 a3 b3⟩
