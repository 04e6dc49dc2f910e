/-! THE REFERENCE'S READER: what its answers say -/
/-- the byte seen: none, or as it is where it is a sign -/
def hv_SE (T : Nat → Int32) (n r p : Int) : Prop := (r = -1 ∧ n ≤ p) ∨ (p < n ∧ ((0 ≤ (T p.toNat).toInt ∧ r = (T p.toNat).toInt) ∨ ((T p.toNat).toInt < 0 ∧ 128 ≤ r)))
theorem hv_a255t : ∀ k : Nat, k < 256 → (Int32.ofInt ((k : Int) - 128)).toInt = (k : Int) - 128 ∧ ((128 ≤ k ∧ ((Int32.ofInt ((k : Int) - 128)) &&& 255).toInt = (k : Int) - 128) ∨ (k < 128 ∧ 128 ≤ ((Int32.ofInt ((k : Int) - 128)) &&& 255).toInt)) := by decide +kernel
theorem hv_a255 {T : Nat → Int32} {y e i : Int32} (h : e = y &&& 255) (ay : y = T i.toNatClampNeg) (l : -128 ≤ y.toInt) (u : y.toInt ≤ 127) : (0 ≤ (T i.toInt.toNat).toInt ∧ e.toInt = (T i.toInt.toNat).toInt) ∨ ((T i.toInt.toNat).toInt < 0 ∧ 128 ≤ e.toInt) := by
  show (0 ≤ (T i.toNatClampNeg).toInt ∧ e.toInt = (T i.toNatClampNeg).toInt) ∨ ((T i.toNatClampNeg).toInt < 0 ∧ 128 ≤ e.toInt)
  rw [← ay]
  obtain ⟨h1, h2⟩ := hv_a255t (y.toInt + 128).toNat (by omega)
  have e1 : (((y.toInt + 128).toNat : Nat) : Int) - 128 = y.toInt := by omega
  rw [e1] at h1 h2
  have ey : y = Int32.ofInt y.toInt := Int32.toInt_inj.mp h1.symm
  rw [← ey, ← h] at h2
  rcases h2 with ⟨a, b⟩ | ⟨a, b⟩
  · exact Or.inl ⟨by omega, b⟩
  · exact Or.inr ⟨by omega, b⟩
section HVSE
variable {T : Nat → Int32} {n r p k : Int}
theorem hv_SE_y (h : hv_SE T n r p) (h0 : 0 ≤ k) (h1 : k < 128) (e : r = k) : p < n ∧ (T p.toNat).toInt = k := by
  rcases h with ⟨a, b⟩ | ⟨a, ⟨b, c⟩ | ⟨b, c⟩⟩
  · exfalso; omega
  · exact ⟨a, by omega⟩
  · exfalso; omega
theorem hv_SE_n (h : hv_SE T n r p) (e : r ≠ k) : ¬ (p < n ∧ (T p.toNat).toInt = k ∧ 0 ≤ k) := by
  rcases h with ⟨a, b⟩ | ⟨a, ⟨b, c⟩ | ⟨b, c⟩⟩
  · intro z; omega
  · intro z; omega
  · intro z; omega
theorem hv_SE_e (h : hv_SE T n r p) (e : r = -1) : n ≤ p := by
  rcases h with ⟨a, b⟩ | ⟨a, ⟨b, c⟩ | ⟨b, c⟩⟩
  · exact b
  · exfalso; omega
  · exfalso; omega
theorem hv_SE_s (h : hv_SE T n r p) (e : r ≠ -1) : p < n := by
  rcases h with ⟨a, b⟩ | ⟨a, _⟩
  · exfalso; omega
  · exact a
theorem hv_SE_d (h : hv_SE T n r p) (e : 48 ≤ r ∧ r ≤ 57) : p < n ∧ hv_dg T p.toNat = true := by
  rcases h with ⟨a, b⟩ | ⟨a, ⟨b, c⟩ | ⟨b, c⟩⟩
  · exfalso; omega
  · exact ⟨a, decide_eq_true (by omega)⟩
  · exfalso; omega
theorem hv_SE_nd (h : hv_SE T n r p) (e : r < 48 ∨ 57 < r) : p < n → hv_dg T p.toNat = false := by
  rcases h with ⟨a, b⟩ | ⟨a, ⟨b, c⟩ | ⟨b, c⟩⟩
  · intro z; exfalso; omega
  · intro z; exact decide_eq_false (by omega)
  · intro z; exact decide_eq_false (by omega)
end HVSE
theorem hv_sn_z {P : Nat → Bool} {i m : Int32} {a b : Int} (h0 : 0 ≤ i.toInt) (hn : i.toInt < m.toInt) (e : P i.toInt.toNat = true) (ha : a = i.toInt) (hb : b = a + 1) : hv_sn P m.toInt.toNat a.toNat = hv_sn P m.toInt.toNat b.toNat := by
  subst ha; subst hb
  rw [show (i.toInt + 1).toNat = i.toInt.toNat + 1 by omega]; exact hv_sn_s (by omega) e
theorem hv_sn_y {P : Nat → Bool} {i m : Int32} {a : Int} (h0 : 0 ≤ i.toInt) (ha : a = i.toInt) (h : i.toInt < m.toInt → P i.toInt.toNat = false) : ((hv_sn P m.toInt.toNat a.toNat : Nat) : Int) = a := by
  subst ha
  rw [hv_sn_e (fun z => h (by omega))]; omega
theorem hv_wlu : ∀ w, w < 25 → ∀ n, n < 8 → (∀ j, j < n → (P_words (7 * w + j)).toInt ≠ 0) → (n = 7 ∨ (P_words (7 * w + n)).toInt = 0) → n = (hv_wl.getD w []).length := by decide +kernel
theorem hv_wlv : ∀ w, w < 25 → ∀ i, i < (hv_wl.getD w []).length → (P_words (7 * w + i)).toInt = (hv_wl.getD w []).getD i 0 := by decide +kernel
theorem hv_wln {f : Nat → Int32} {w n : Int} (hf : hx_wd f) (h0 : 0 ≤ w) (h1 : w ≤ 24) (h2 : 0 ≤ n) (h3 : n ≤ 7) (hp : hx_wp f w n) (he : n = 7 ∨ (f (7 * w.toNat + n.toNat)).toInt = 0) : n = ((hv_wl.getD w.toNat []).length : Nat) := by
  have a := hv_wlu w.toNat (by omega) n.toNat (by omega) (fun j hj => by rw [← hf _ (by omega)]; exact hp j (by omega)) (by
    by_cases z : n = 7
    · exact Or.inl (by omega)
    · rcases he with he | he
      · exact absurd he z
      · rw [hf _ (by omega)] at he; exact Or.inr he)
  omega
/-- a word, compared letter by letter -/
def hv_SM (T W : Nat → Int32) (p ws w n k s : Int) : Prop := (s = 1 ∧ n = ws ∧ ∀ i : Nat, (i : Int) < k → (W (7 * w.toNat + i)).toInt = (T (p.toNat + i)).toInt) ∨ (s = 0 ∧ hv_tx T p.toNat ws.toNat ≠ hv_wl.getD w.toNat [])
section HVSM
variable {T W : Nat → Int32} {p ws w n k k1 s : Int}
theorem hv_SM_y (h : n = ws) (hk : k = 0) (hs : s = 1) : hv_SM T W p ws w n k s := Or.inl ⟨hs, h, fun i hi => by exfalso; omega⟩
theorem hv_SM_w (h : hv_SM T W p ws w n k s) (hs : s ≠ 0) : n = ws := by
  rcases h with ⟨_, a, _⟩ | ⟨a, _⟩
  · exact a
  · exfalso; omega
theorem hv_SM_l (hn : n = ((hv_wl.getD w.toNat []).length : Nat)) (h0 : 0 ≤ ws) (h : n ≠ ws) (hs : s = 0) : hv_SM T W p ws w n k s := Or.inr ⟨hs, fun e => by
  have h2 := congrArg List.length e
  rw [hv_tx_len] at h2
  omega⟩
theorem hv_SM_s (h : hv_SM T W p ws w n k 1) (h0 : 0 ≤ k) (e : (W (7 * w.toNat + k.toNat)).toInt = (T (p.toNat + k.toNat)).toInt) (hk : k1 = k + 1) (hs : s = 1) : hv_SM T W p ws w n k1 s := by
  rcases h with ⟨_, a, b⟩ | ⟨a, _⟩
  · refine Or.inl ⟨hs, a, fun i hi => ?_⟩
    rcases (show (i : Int) < k ∨ i = k.toNat by omega) with z | z
    · exact b i z
    · rw [z]; exact e
  · exfalso; omega
theorem hv_SM_x (hf : hx_wd W) (h0 : 0 ≤ w) (h1 : w ≤ 24) (hn : n = ((hv_wl.getD w.toNat []).length : Nat)) (h : hv_SM T W p ws w n k 1) (k0 : 0 ≤ k) (kn : k < n) (e : (W (7 * w.toNat + k.toNat)).toInt ≠ (T (p.toNat + k.toNat)).toInt) (hs : s = 0) : hv_SM T W p ws w n k1 s := by
  rcases h with ⟨_, a, _⟩ | ⟨a, _⟩
  · refine Or.inr ⟨hs, fun c => e ?_⟩
    have hl := hv_ix_l w.toNat (by omega)
    have h2 := hv_wlv w.toNat (by omega) k.toNat (by omega)
    rw [hf _ (by omega), h2, ← c, hv_tx_get _ _ _ (by omega)]
  · exfalso; omega
theorem hv_SM_e (hf : hx_wd W) (h0 : 0 ≤ w) (h1 : w ≤ 24) (hn : n = ((hv_wl.getD w.toNat []).length : Nat)) (h : hv_SM T W p ws w n k s) (hs : s ≠ 0) (kn : n ≤ k) : hv_tx T p.toNat ws.toNat = hv_wl.getD w.toNat [] := by
  rcases h with ⟨_, a, b⟩ | ⟨a, _⟩
  · have hl := hv_ix_l w.toNat (by omega)
    have e : ws.toNat = (hv_wl.getD w.toNat []).length := by omega
    rw [e]
    refine hv_tx_eq _ _ (fun i hi => ?_)
    rw [← b i (by omega), hf _ (by omega), hv_wlv w.toNat (by omega) i hi]
  · exact absurd a hs
theorem hv_SM_n (h : hv_SM T W p ws w n k s) (hs : s = 0) : hv_tx T p.toNat ws.toNat ≠ hv_wl.getD w.toNat [] := by
  rcases h with ⟨a, _⟩ | ⟨_, b⟩
  · exfalso; omega
  · exact b
end HVSM
theorem hv_wd_i {T : Nat → Int32} {n p : Nat} {ws w : Int} (hw : hv_we T n p - p = ws.toNat) (h0 : 0 ≤ w) (h1 : w ≤ 24) (e : hv_tx T p ws.toNat = hv_wl.getD w.toNat []) : w = hv_wd T n p := by
  unfold hv_wd
  rw [hw, e, hv_ix_w _ (by omega)]
  omega
theorem hv_wd_o {T : Nat → Int32} {n p : Nat} {ws : Int} (hw : hv_we T n p - p = ws.toNat) (h : (∀ k : Nat, (k : Int) < 25 → hv_tx T p ws.toNat ≠ hv_wl.getD k []) ∨ 7 < ws) : hv_wd T n p = -1 := by
  unfold hv_wd
  rw [hw]
  rcases hv_ix_c (hv_tx T p ws.toNat) with ⟨a, _⟩ | ⟨k, a, b, c⟩
  · exact a
  · rcases h with h | h
    · exact absurd c (h k (by omega))
    · have h2 := congrArg List.length c
      rw [hv_tx_len] at h2
      have h3 := hv_ix_l k a
      exfalso; omega
/-- one more word that it isn't -/
theorem hv_wd_s {T : Nat → Int32} {p : Nat} {ws w w1 : Int} (h : ∀ k : Nat, (k : Int) < w → hv_tx T p ws.toNat ≠ hv_wl.getD k []) (h0 : 0 ≤ w) (hn : hv_tx T p ws.toNat ≠ hv_wl.getD w.toNat []) (e : w1 = w + 1) : ∀ k : Nat, (k : Int) < w1 → hv_tx T p ws.toNat ≠ hv_wl.getD k [] := fun k hk => by
  rcases (show (k : Int) < w ∨ k = w.toNat by omega) with z | z
  · exact h k z
  · rw [z]; exact hn
/-- what the reference answers of a NUMBER -/
def hv_M (sp : Nat ⊕ (Nat × Int)) (r ft p sd : Int) : Prop := (r = 1 ∧ ft = 0 ∧ 0 ≤ p ∧ sp = .inr (p.toNat, sd)) ∨ (r = 0 ∧ 1 ≤ ft ∧ sp = .inl ft.toNat)
section HVM
variable {sp : Nat ⊕ (Nat × Int)} {r ft p sd : Int}
theorem hv_M_1 (h : hv_M sp r ft p sd) (z : 1 ≤ r) : ft = 0 ∧ 0 ≤ p ∧ sp = .inr (p.toNat, sd) := by
  rcases h with ⟨_, w⟩ | ⟨a, _⟩
  · exact w
  · exfalso; omega
theorem hv_M_0 (h : hv_M sp r ft p sd) (z : r ≤ 0) : 1 ≤ ft ∧ sp = .inl ft.toNat := by
  rcases h with ⟨a, _⟩ | ⟨_, w⟩
  · exfalso; omega
  · exact w
theorem hv_M_b (h : hv_M sp r ft p sd) : r = 0 ∨ r = 1 := by
  rcases h with ⟨a, _⟩ | ⟨a, _⟩
  · exact Or.inr a
  · exact Or.inl a
end HVM
theorem hv_dvm_s {T : Nat → Int32} {a f : Int} {i x l v y k : Int32} (h : l.toInt = hv_dv T a.toNat (min k.toInt.toNat 4)) (h0 : 0 ≤ a) (h1 : 0 ≤ k.toInt) (hf : i.toInt = a + k.toInt) (h2 : k.toInt < 4) (hy : y = T i.toNatClampNeg) (hv : v.toInt = 10 * l.toInt + y.toInt - 48) (ex : x.toInt = k.toInt + 1) : v.toInt = hv_dv T a.toNat (min x.toInt.toNat 4) := by
  rw [show min k.toInt.toNat 4 = k.toInt.toNat by omega] at h
  rw [show min x.toInt.toNat 4 = k.toInt.toNat + 1 by omega]
  show v.toInt = 10 * hv_dv T a.toNat k.toInt.toNat + ((T (a.toNat + k.toInt.toNat)).toInt - 48)
  rw [← h, show a.toNat + k.toInt.toNat = i.toNatClampNeg by unfold Int32.toNatClampNeg; omega, ← hy]
  omega
theorem hv_dvm_k {T : Nat → Int32} {a : Nat} {l k x : Int32} (h : l.toInt = hv_dv T a (min k.toInt.toNat 4)) (h2 : 4 ≤ k.toInt) (ex : x.toInt = k.toInt + 1) : l.toInt = hv_dv T a (min x.toInt.toNat 4) := by
  rw [h]; congr 1; omega
