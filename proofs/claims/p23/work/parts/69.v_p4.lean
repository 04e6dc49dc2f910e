/-! THE READER'S METHODS: what their answers say -/
section HVI
variable {T : Nat → Int32} {i j m y : Int32}
theorem hv_bl_t (e : y = T i.toNatClampNeg) (z : y.toInt = 32) : hv_bl T i.toInt.toNat = true := by
  show decide ((T i.toNatClampNeg).toInt = 32) = true
  rw [← e]; exact decide_eq_true z
theorem hv_bl_f (e : y = T i.toNatClampNeg) (z : y.toInt ≠ 32) : hv_bl T i.toInt.toNat = false := by
  show decide ((T i.toNatClampNeg).toInt = 32) = false
  rw [← e]; exact decide_eq_false z
theorem hv_lt_t (e : y = T i.toNatClampNeg) (z1 : 97 ≤ y.toInt) (z2 : y.toInt ≤ 122) : hv_lt T i.toInt.toNat = true := by
  show decide (97 ≤ (T i.toNatClampNeg).toInt ∧ (T i.toNatClampNeg).toInt ≤ 122) = true
  rw [← e]; exact decide_eq_true ⟨z1, z2⟩
theorem hv_lt_f (e : y = T i.toNatClampNeg) (z : y.toInt < 97 ∨ 122 < y.toInt) : hv_lt T i.toInt.toNat = false := by
  show decide (97 ≤ (T i.toNatClampNeg).toInt ∧ (T i.toNatClampNeg).toInt ≤ 122) = false
  rw [← e]; exact decide_eq_false (fun w => by omega)
theorem hv_dg_t (e : y = T i.toNatClampNeg) (z1 : 48 ≤ y.toInt) (z2 : y.toInt ≤ 57) : hv_dg T i.toInt.toNat = true := by
  show decide (48 ≤ (T i.toNatClampNeg).toInt ∧ (T i.toNatClampNeg).toInt ≤ 57) = true
  rw [← e]; exact decide_eq_true ⟨z1, z2⟩
theorem hv_dg_f (e : y = T i.toNatClampNeg) (z : y.toInt < 48 ∨ 57 < y.toInt) : hv_dg T i.toInt.toNat = false := by
  show decide (48 ≤ (T i.toNatClampNeg).toInt ∧ (T i.toNatClampNeg).toInt ≤ 57) = false
  rw [← e]; exact decide_eq_false (fun w => by omega)
theorem hv_dg_u (h : hv_dg T i.toInt.toNat = true) (e : y = T i.toNatClampNeg) : 48 ≤ y.toInt ∧ y.toInt ≤ 57 := by
  have h2 : decide (48 ≤ (T i.toNatClampNeg).toInt ∧ (T i.toNatClampNeg).toInt ≤ 57) = true := h
  rw [← e] at h2; exact of_decide_eq_true h2
theorem hv_sn_i {P : Nat → Bool} (h0 : 0 ≤ i.toInt) (hn : i.toInt < m.toInt) (e : P i.toInt.toNat = true) (ej : j.toInt = i.toInt + 1) : hv_sn P m.toInt.toNat i.toInt.toNat = hv_sn P m.toInt.toNat j.toInt.toNat := by
  rw [show j.toInt.toNat = i.toInt.toNat + 1 by omega]; exact hv_sn_s (by omega) e
theorem hv_sn_o {P : Nat → Bool} (h0 : 0 ≤ i.toInt) (h : i.toInt < m.toInt → P i.toInt.toNat = false) : ((hv_sn P m.toInt.toNat i.toInt.toNat : Nat) : Int) = i.toInt := by
  rw [hv_sn_e (fun z => h (by omega))]; omega
end HVI
theorem hv_chr : ∀ js, js < 6 → ∀ i, i < 97 → ((((P_by.getD js []).getD i 0) &&& 255).toUInt32 % 65536).toInt32 = (P_by.getD js []).getD i 0 := by decide +kernel
theorem hv_c1_t {T : Nat → Int32} {js : Nat} {s p e l x a rc y : Int32} (h1 : 0 ≤ s.toInt) (h2 : 0 ≤ p.toInt) (h3 : 0 ≤ l.toInt) (zx : x.toInt = s.toInt + l.toInt) (za : a.toInt = p.toInt + l.toInt) (hrc : rc = (P_by.getD js []).getD x.toNatClampNeg 0) (hy : y = T a.toNatClampNeg) (lt : a.toInt < e.toInt) (q : rc.toInt = y.toInt) : hv_c1 T js s.toInt.toNat p.toInt.toNat e.toInt.toNat l.toInt.toNat := by
  intro _
  unfold hv_chs
  rw [if_pos (by omega), show s.toInt.toNat + l.toInt.toNat = x.toNatClampNeg by unfold Int32.toNatClampNeg; omega, show p.toInt.toNat + l.toInt.toNat = a.toNatClampNeg by unfold Int32.toNatClampNeg; omega, ← hrc, ← hy]
  exact q
theorem hv_c1_f {T : Nat → Int32} {js : Nat} {s p e l x rc : Int32} (h1 : 0 ≤ s.toInt) (h2 : 0 ≤ p.toInt) (h3 : 0 ≤ l.toInt) (zx : x.toInt = s.toInt + l.toInt) (hrc : rc = (P_by.getD js []).getD x.toNatClampNeg 0) (lt : e.toInt ≤ p.toInt + l.toInt) (q : rc.toInt = 32) : hv_c1 T js s.toInt.toNat p.toInt.toNat e.toInt.toNat l.toInt.toNat := by
  intro _
  unfold hv_chs
  rw [if_neg (by omega), show s.toInt.toNat + l.toInt.toNat = x.toNatClampNeg by unfold Int32.toNatClampNeg; omega, ← hrc]
  exact q
theorem hv_c1_nt {T : Nat → Int32} {js : Nat} {s p e l x a rc y : Int32} (h1 : 0 ≤ s.toInt) (h2 : 0 ≤ p.toInt) (h3 : 0 ≤ l.toInt) (zx : x.toInt = s.toInt + l.toInt) (za : a.toInt = p.toInt + l.toInt) (hrc : rc = (P_by.getD js []).getD x.toNatClampNeg 0) (hy : y = T a.toNatClampNeg) (lt : a.toInt < e.toInt) (hl : x.toInt < (P_ln.getD js 0 : Nat)) (q : rc.toInt ≠ y.toInt) : ¬ hv_c1 T js s.toInt.toNat p.toInt.toNat e.toInt.toNat l.toInt.toNat := by
  intro h
  have h9 := h (by omega)
  unfold hv_chs at h9
  rw [if_pos (by omega), show s.toInt.toNat + l.toInt.toNat = x.toNatClampNeg by unfold Int32.toNatClampNeg; omega, show p.toInt.toNat + l.toInt.toNat = a.toNatClampNeg by unfold Int32.toNatClampNeg; omega, ← hrc, ← hy] at h9
  exact q h9
theorem hv_c1_nf {T : Nat → Int32} {js : Nat} {s p e l x rc : Int32} (h1 : 0 ≤ s.toInt) (h2 : 0 ≤ p.toInt) (h3 : 0 ≤ l.toInt) (zx : x.toInt = s.toInt + l.toInt) (hrc : rc = (P_by.getD js []).getD x.toNatClampNeg 0) (lt : e.toInt ≤ p.toInt + l.toInt) (hl : x.toInt < (P_ln.getD js 0 : Nat)) (q : rc.toInt ≠ 32) : ¬ hv_c1 T js s.toInt.toNat p.toInt.toNat e.toInt.toNat l.toInt.toNat := by
  intro h
  have h9 := h (by omega)
  unfold hv_chs at h9
  rw [if_neg (by omega), show s.toInt.toNat + l.toInt.toNat = x.toNatClampNeg by unfold Int32.toNatClampNeg; omega, ← hrc] at h9
  exact q h9
theorem hv_c1_s {T : Nat → Int32} {js s p e : Nat} {l j : Int32} (h : ∀ i : Nat, (i : Int) < l.toInt → hv_c1 T js s p e i) (h0 : 0 ≤ l.toInt) (hn : hv_c1 T js s p e l.toInt.toNat) (ej : j.toInt = l.toInt + 1) : ∀ i : Nat, (i : Int) < j.toInt → hv_c1 T js s p e i := fun i hi => by
  rcases (show (i : Int) < l.toInt ∨ i = l.toInt.toNat by omega) with z | z
  · exact h i z
  · rw [z]; exact hn
theorem hv_sl_e {T : Nat → Int32} {js s p e : Nat} {l : Int} (he : e ≤ p + 8) (h : ∀ i : Nat, (i : Int) < l → hv_c1 T js s p e i) (hl : 8 ≤ l ∨ (P_ln.getD js 0 : Nat) ≤ s + l) : hv_sl T js s p e := ⟨he, fun i hi => by
  rcases (show (i : Int) < l ∨ l ≤ (i : Int) by omega) with z | z
  · exact h i z
  · intro w; exfalso; omega⟩
theorem hv_rw_s {C : Nat → Prop} {l j : Int32} (h : ∀ k : Nat, 8 * (k : Int) + 8 ≤ l.toInt → ¬ C (8 * k)) (h0 : 0 ≤ l.toInt) (hm : l.toInt % 8 = 0) (hn : ¬ C l.toInt.toNat) (ej : j.toInt = l.toInt + 8) : ∀ k : Nat, 8 * (k : Int) + 8 ≤ j.toInt → ¬ C (8 * k) := fun k hk => by
  rcases (show 8 * (k : Int) + 8 ≤ l.toInt ∨ 8 * k = l.toInt.toNat by omega) with z | z
  · exact h k z
  · rw [z]; exact hn
theorem hv_dv_s {T : Nat → Int32} {a f x l v y : Int32} (h : l.toInt = hv_dv T a.toInt.toNat (min (f.toInt - a.toInt).toNat 4)) (h0 : 0 ≤ a.toInt) (h1 : a.toInt ≤ f.toInt) (h2 : f.toInt - a.toInt < 4) (hy : y = T f.toNatClampNeg) (hv : v.toInt = 10 * l.toInt + y.toInt - 48) (ex : x.toInt = f.toInt + 1) : v.toInt = hv_dv T a.toInt.toNat (min (x.toInt - a.toInt).toNat 4) := by
  rw [show min (f.toInt - a.toInt).toNat 4 = (f.toInt - a.toInt).toNat by omega] at h
  rw [show min (x.toInt - a.toInt).toNat 4 = (f.toInt - a.toInt).toNat + 1 by omega]
  show v.toInt = 10 * hv_dv T a.toInt.toNat (f.toInt - a.toInt).toNat + ((T (a.toInt.toNat + (f.toInt - a.toInt).toNat)).toInt - 48)
  rw [← h, show a.toInt.toNat + (f.toInt - a.toInt).toNat = f.toNatClampNeg by unfold Int32.toNatClampNeg; omega, ← hy]
  omega
theorem hv_dv_k {T : Nat → Int32} {a f x l : Int32} (h : l.toInt = hv_dv T a.toInt.toNat (min (f.toInt - a.toInt).toNat 4)) (h2 : 4 ≤ f.toInt - a.toInt) (ex : x.toInt = f.toInt + 1) : l.toInt = hv_dv T a.toInt.toNat (min (x.toInt - a.toInt).toNat 4) := by
  rw [h]; congr 1; omega
/-- the SIGN as the class has it -/
def hv_scd (s : Nat × Nat) : Int := if s.2 = 0 then 0 else (match s.1 with | 0 => 1 | 1 => 3 | 2 => 2 | 3 => 6 | _ => 4)
section HVG
variable {T : Nat → Int32} {w x m : Int32}
theorem hv_sg_3 (A : w.toInt < m.toInt ∧ (T w.toInt.toNat).toInt = 60) (C : x.toInt < m.toInt ∧ (T x.toInt.toNat).toInt = 61) (h0 : 0 ≤ w.toInt) (e : x.toInt = w.toInt + 1) : hv_sg T m.toInt.toNat w.toInt.toNat = (1, 2) := by
  unfold hv_sg
  rw [if_pos (by omega), if_neg (by omega), if_pos A.2, show w.toInt.toNat + 1 = x.toInt.toNat by omega, if_pos ⟨by omega, C.2⟩]
theorem hv_sg_1 (A : w.toInt < m.toInt ∧ (T w.toInt.toNat).toInt = 60) (C : ¬ (x.toInt < m.toInt ∧ (T x.toInt.toNat).toInt = 61)) (h0 : 0 ≤ w.toInt) (e : x.toInt = w.toInt + 1) : hv_sg T m.toInt.toNat w.toInt.toNat = (0, 1) := by
  unfold hv_sg
  rw [if_pos (by omega), if_neg (by omega), if_pos A.2, show w.toInt.toNat + 1 = x.toInt.toNat by omega, if_neg (fun z => C ⟨by omega, z.2⟩)]
theorem hv_sg_6 (A : w.toInt < m.toInt ∧ (T w.toInt.toNat).toInt = 62) (C : x.toInt < m.toInt ∧ (T x.toInt.toNat).toInt = 61) (h0 : 0 ≤ w.toInt) (e : x.toInt = w.toInt + 1) : hv_sg T m.toInt.toNat w.toInt.toNat = (3, 2) := by
  unfold hv_sg
  rw [if_pos (by omega), if_neg (by omega), if_neg (by omega), if_pos A.2, show w.toInt.toNat + 1 = x.toInt.toNat by omega, if_pos ⟨by omega, C.2⟩]
theorem hv_sg_4 (A : w.toInt < m.toInt ∧ (T w.toInt.toNat).toInt = 62) (C : ¬ (x.toInt < m.toInt ∧ (T x.toInt.toNat).toInt = 61)) (h0 : 0 ≤ w.toInt) (e : x.toInt = w.toInt + 1) : hv_sg T m.toInt.toNat w.toInt.toNat = (4, 1) := by
  unfold hv_sg
  rw [if_pos (by omega), if_neg (by omega), if_neg (by omega), if_pos A.2, show w.toInt.toNat + 1 = x.toInt.toNat by omega, if_neg (fun z => C ⟨by omega, z.2⟩)]
theorem hv_sg_2 (C : w.toInt < m.toInt ∧ (T w.toInt.toNat).toInt = 61) (h0 : 0 ≤ w.toInt) : hv_sg T m.toInt.toNat w.toInt.toNat = (2, 1) := by
  unfold hv_sg
  rw [if_pos (by omega), if_pos C.2]
theorem hv_sg_0 (A : ¬ (w.toInt < m.toInt ∧ (T w.toInt.toNat).toInt = 60)) (B : ¬ (w.toInt < m.toInt ∧ (T w.toInt.toNat).toInt = 62)) (C : ¬ (w.toInt < m.toInt ∧ (T w.toInt.toNat).toInt = 61)) (h0 : 0 ≤ w.toInt) : hv_sg T m.toInt.toNat w.toInt.toNat = (0, 0) := by
  unfold hv_sg
  by_cases z : w.toInt.toNat < m.toInt.toNat
  · rw [if_pos z, if_neg (fun e => C ⟨by omega, e⟩), if_neg (fun e => A ⟨by omega, e⟩), if_neg (fun e => B ⟨by omega, e⟩)]
  · rw [if_neg z]
end HVG
