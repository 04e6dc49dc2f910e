/-! WHAT IS FED -/
theorem hv_nb8 {x s : Int32} (e : x = s.toInt8.toInt32) : vp_nar .byte x = x := by
  show x.toInt8.toInt32 = x
  rw [e, Int8.toInt8_toInt32]
theorem hv_nb9 {x s : Int32} (e : x = s.toInt8.toInt32) : -128 ≤ x.toInt ∧ x.toInt ≤ 127 := by
  have h := hx_nb x
  rw [hv_nb8 e] at h; exact h
def hv_BY (v : Int32) (k : Nat) : Int32 := (v >>> ((Int32.ofInt (24 - 8 * (k : Int))) &&& 31)).toInt8.toInt32
def hv_FD (f : Nat → Int32) (t : Nat) (v : Int32) : Nat → (Nat → Int32)
  | 0 => f
  | k + 1 => hx_up (hv_FD f t v k) (t + k) (hv_BY v k)
theorem hv_FD_s {f F f1 : Nat → Int32} {t v i l x s i1 : Int32} (h : F = hv_FD f t.toInt.toNat v (i.toInt - t.toInt).toNat) (e : f1 = hx_up F i.toNatClampNeg x) (es : s = v >>> (l &&& 31)) (ex : x = s.toInt8.toInt32) (h0 : 0 ≤ t.toInt) (h1 : t.toInt ≤ i.toInt) (hl : 8 * i.toInt = 8 * t.toInt + 24 - l.toInt) (l0 : 0 ≤ l.toInt) (ei : i1.toInt = i.toInt + 1) : f1 = hv_FD f t.toInt.toNat v (i1.toInt - t.toInt).toNat := by
  obtain ⟨k, hk⟩ : ∃ k : Nat, k = (i.toInt - t.toInt).toNat := ⟨_, rfl⟩
  have hl2 : l = Int32.ofInt (24 - 8 * (k : Int)) := Int32.toInt_inj.mp (by
    have h8 : ∀ k : Nat, k < 4 → (Int32.ofInt (24 - 8 * (k : Int))).toInt = 24 - 8 * (k : Int) := by decide +kernel
    rw [h8 k (by omega)]; omega)
  rw [show (i1.toInt - t.toInt).toNat = k + 1 by omega, e, h, ← hk, ex, es, hl2, show i.toNatClampNeg = t.toInt.toNat + k by unfold Int32.toNatClampNeg; omega]
  rfl
def hv_F5 (f : Nat → Int32) (n : Nat) (a b c d e : Int32) : Nat → Int32 := hv_FD (hv_FD (hv_FD (hv_FD (hv_FD f n a 4) (n + 4) b 4) (n + 8) c 4) (n + 12) d 4) (n + 16) e 4
theorem hv_F5_e {f0 f1 f2 f3 f4 f5 : Nat → Int32} {n n1 n2 n3 n4 : Nat} {a b c d e : Int32} (h1 : f1 = hv_FD f0 n a 4) (h2 : f2 = hv_FD f1 n1 b 4) (h3 : f3 = hv_FD f2 n2 c 4) (h4 : f4 = hv_FD f3 n3 d 4) (h5 : f5 = hv_FD f4 n4 e 4) (e1 : n1 = n + 4) (e2 : n2 = n + 8) (e3 : n3 = n + 12) (e4 : n4 = n + 16) : f5 = hv_F5 f0 n a b c d e := by
  rw [h5, h4, h3, h2, h1, e1, e2, e3, e4]; rfl
/-- what feed answers -/
def hv_FE (f : Nat → Int32) (t a b c d e r t1 : Int32) (f1 : Nat → Int32) : Prop := (380 < t.toInt ∧ r = -1 ∧ t1 = t ∧ f1 = f) ∨ (t.toInt ≤ 380 ∧ r = t1 ∧ t1.toInt = t.toInt + 20 ∧ f1 = hv_F5 f t.toInt.toNat a b c d e)
theorem hv_FE_eq {f : Nat → Int32} {t a b c d e r t1 r' t1' : Int32} {f1 f1' : Nat → Int32} (h : hv_FE f t a b c d e r t1 f1) (h' : hv_FE f t a b c d e r' t1' f1') : r = r' ∧ t1 = t1' ∧ f1 = f1' := by
  obtain ⟨z, h1, h2, h3⟩ | ⟨z, h1, h2, h3⟩ := h <;> obtain ⟨z', h1', h2', h3'⟩ | ⟨z', h1', h2', h3'⟩ := h'
  · exact ⟨h1.trans h1'.symm, h2.trans h2'.symm, h3.trans h3'.symm⟩
  · exfalso; omega
  · exfalso; omega
  · have ht : t1 = t1' := Int32.toInt_inj.mp (by omega)
    exact ⟨h1.trans (ht.trans h1'.symm), ht, h3.trans h3'.symm⟩
/-- what end answers -/
def hv_EN (i t r t1 : Int32) : Prop := ((i.toInt < 0 ∨ t.toInt < i.toInt) ∧ r = -1 ∧ t1 = t) ∨ (0 ≤ i.toInt ∧ i.toInt ≤ t.toInt ∧ r = i ∧ t1 = i)
theorem hv_EN_eq {i t r t1 r' t1' : Int32} (h : hv_EN i t r t1) (h' : hv_EN i t r' t1') : r = r' ∧ t1 = t1' := by
  obtain ⟨z, h1, h2⟩ | ⟨z, y, h1, h2⟩ := h <;> obtain ⟨z', h1', h2'⟩ | ⟨z', y', h1', h2'⟩ := h'
  · exact ⟨h1.trans h1'.symm, h2.trans h2'.symm⟩
  · exfalso; omega
  · exfalso; omega
  · exact ⟨h1.trans h1'.symm, h2.trans h2'.symm⟩
/-- what the class's new act holds -/
theorem hv_o0_c {f : Nat → Int32} (h : (f 0).toInt = 144 ∧ (f 1).toInt = 17 ∧ (f 2).toInt = -1) : hv_ls f 3 = hv_o0.map hv_cc := by
  show (f 2).toInt :: (f 1).toInt :: (f 0).toInt :: [] = _
  rw [h.1, h.2.1, h.2.2]; decide
theorem hv_pr0 {f : Nat → Int32} {a b c : Int32} (ha : a.toInt = 144) (hb : b.toInt = 17) (hc : c.toInt = -1) : ((hx_up (hx_up (hx_up f (0 : Int32).toNatClampNeg a) (1 : Int32).toNatClampNeg b) (2 : Int32).toNatClampNeg c) 0).toInt = 144 ∧ ((hx_up (hx_up (hx_up f (0 : Int32).toNatClampNeg a) (1 : Int32).toNatClampNeg b) (2 : Int32).toNatClampNeg c) 1).toInt = 17 ∧ ((hx_up (hx_up (hx_up f (0 : Int32).toNatClampNeg a) (1 : Int32).toNatClampNeg b) (2 : Int32).toNatClampNeg c) 2).toInt = -1 := by
  have e0 : (0 : Int32).toNatClampNeg = 0 := by decide
  have e1 : (1 : Int32).toNatClampNeg = 1 := by decide
  have e2 : (2 : Int32).toNatClampNeg = 2 := by decide
  rw [e0, e1, e2]
  refine ⟨?_, ?_, ?_⟩
  · rw [hx_up_ne (by decide), hx_up_ne (by decide)]; exact (congrArg Int32.toInt (hx_up_at (f := f) (k := 0) (v := a))).trans ha
  · rw [hx_up_ne (by decide)]; exact (congrArg Int32.toInt (hx_up_at (f := hx_up f 0 a) (k := 1) (v := b))).trans hb
  · exact (congrArg Int32.toInt (hx_up_at (f := hx_up (hx_up f 0 a) 1 b) (k := 2) (v := c))).trans hc
section HVAR
variable {e : hv_tok → Int} {sp : Nat ⊕ hv_st} {r : Int} {rd : Nat → Int} {ls : List Int}
theorem hv_AR_0 (h : hv_AR e sp r rd ls) (z : r ≤ 0) : ∃ q, sp = .inr q := by
  obtain ⟨_, x, sn, o, _, w⟩ | ⟨a, _⟩ := h
  · exact ⟨_, w⟩
  · exfalso; omega
theorem hv_AR_1 (h : hv_AR e sp r rd ls) (z : r ≠ 0) : 1 ≤ r ∧ sp = .inl r.toNat := by
  obtain ⟨a, _⟩ | w := h
  · exact absurd a z
  · exact w
end HVAR
