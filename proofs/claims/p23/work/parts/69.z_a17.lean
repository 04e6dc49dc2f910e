/-! A COMPARISON AND THE PILE, AS THE REFERENCE HAS THEM -/
theorem hv_rc_d {t : hv_tok} (hv : hv_vt t) (h1 : 1 ≤ t.1) : 1000000 ≤ hv_rc t ∧ hv_rc t / 1000000 = t.1 ∧ hv_rc t % 100000 = t.2.2 ∧ hv_rc t / 100000 % 10 = (t.2.1 : Int) := by
  rcases hv with ⟨a, _⟩ | ⟨a, b, c, d, e⟩
  · exfalso; omega
  · unfold hv_rc
    rw [if_neg (by omega)]
    omega
theorem hv_rc_o {t : hv_tok} (hv : hv_vt t) (h1 : t.1 = 0) : hv_rc t = (t.2.1 : Int) ∧ t.2.1 ≤ 2 := by
  rcases hv with ⟨a, b⟩ | ⟨a, b, c, d, e⟩
  · exact ⟨if_pos h1, b⟩
  · exfalso; omega
theorem hv_rc_k {t : hv_tok} (hv : hv_vt t) : (1000000 ≤ hv_rc t ∧ 1 ≤ t.1) ∨ (hv_rc t ≤ 2 ∧ t.1 = 0) := by
  rcases (show t.1 = 0 ∨ 1 ≤ t.1 by rcases hv with ⟨a, _⟩ | ⟨a, _⟩ <;> omega) with z | z
  · have := hv_rc_o hv z; exact Or.inr ⟨by omega, z⟩
  · exact Or.inl ⟨(hv_rc_d hv z).1, z⟩
theorem hv_cc_k {t : hv_tok} (hv : hv_vt t) : (0 ≤ hv_cc t ∧ 1 ≤ t.1) ∨ (t.1 = 0 ∧ ((t.2.1 = 0 ∧ hv_cc t = -2) ∨ (t.2.1 = 1 ∧ hv_cc t = -1) ∨ (t.2.1 = 2 ∧ hv_cc t = -3))) := by
  rcases (show (t.1 = 0 ∧ t.2.1 ≤ 2) ∨ 1 ≤ t.1 by rcases hv with ⟨a, b⟩ | ⟨a, _⟩ <;> omega) with z | z
  · refine Or.inr ⟨z.1, ?_⟩
    unfold hv_cc
    rw [if_pos z.1]
    rcases (show t.2.1 = 0 ∨ t.2.1 = 1 ∨ t.2.1 = 2 by omega) with e | e | e
    · rw [e]; exact Or.inl ⟨rfl, rfl⟩
    · rw [e]; exact Or.inr (Or.inl ⟨rfl, rfl⟩)
    · rw [e]; exact Or.inr (Or.inr ⟨rfl, rfl⟩)
  · exact Or.inl ⟨(hv_cc_d hv z).1, z⟩
def hv_bi (b : Bool) : Int := if b = true then 1 else 0
def hv_BS (f : Nat → Int32) (n : Nat) (s : List Bool) : Prop := hv_ls f n = s.map hv_bi
theorem hv_BS_0 {f : Nat → Int32} : hv_BS f 0 [] := rfl
theorem hv_BS_l {f : Nat → Int32} {n : Nat} {s : List Bool} (h : hv_BS f n s) : s.length = n := by
  have := congrArg List.length h
  rw [hv_ls_len, List.length_map] at this
  exact this.symm
theorem hv_BS_r {f : Nat → Int32} {n : Nat} {a : Bool} {s : List Bool} (h : hv_BS f (n + 1) (a :: s)) : (f n).toInt = hv_bi a ∧ hv_BS f n s := List.cons.inj h
theorem hv_BS_w {f f1 : Nat → Int32} {n : Nat} {c : Bool} {s : List Bool} {v : Int32} (h : hv_BS f n s) (e : f1 = hx_up f n v) (hv : v.toInt = hv_bi c) : hv_BS f1 (n + 1) (c :: s) := by
  show (f1 n).toInt :: hv_ls f1 n = hv_bi c :: s.map hv_bi
  rw [e, hx_up_at, hv, hv_ls_c (g := f) n (fun j hj => hx_up_ne (by omega))]
  exact congrArg _ h
theorem hv_hd_m {F : Nat → Int} {t : hv_tok} {l r : Int} (hl : l = F (t.1 - 1).toNat) (hr : r = (if 10000 ≤ t.2.2 then F (t.2.2 - 10000).toNat else t.2.2)) : (t.2.1 = 0 → (hv_hd F t = true ↔ l < r)) ∧ (t.2.1 = 1 → (hv_hd F t = true ↔ l ≤ r)) ∧ (t.2.1 = 2 → (hv_hd F t = true ↔ l = r)) ∧ (t.2.1 = 3 → (hv_hd F t = true ↔ r ≤ l)) ∧ (t.2.1 = 4 → (hv_hd F t = true ↔ r < l)) := by
  obtain ⟨a, g, v⟩ := t
  have hl' : F (a - 1).toNat = l := hl.symm
  have hr' : (if 10000 ≤ v then F (v - 10000).toNat else v) = r := hr.symm
  refine ⟨fun e => ?_, fun e => ?_, fun e => ?_, fun e => ?_, fun e => ?_⟩
  · have e' : g = 0 := e
    subst e'
    show decide (F (a - 1).toNat < (if 10000 ≤ v then F (v - 10000).toNat else v)) = true ↔ _
    rw [hl', hr', decide_eq_true_iff]
  · have e' : g = 1 := e
    subst e'
    show decide (F (a - 1).toNat ≤ (if 10000 ≤ v then F (v - 10000).toNat else v)) = true ↔ _
    rw [hl', hr', decide_eq_true_iff]
  · have e' : g = 2 := e
    subst e'
    show decide (F (a - 1).toNat = (if 10000 ≤ v then F (v - 10000).toNat else v)) = true ↔ _
    rw [hl', hr', decide_eq_true_iff]
  · have e' : g = 3 := e
    subst e'
    show decide ((if 10000 ≤ v then F (v - 10000).toNat else v) ≤ F (a - 1).toNat) = true ↔ _
    rw [hl', hr', decide_eq_true_iff]
  · have e' : g = 4 := e
    subst e'
    show decide ((if 10000 ≤ v then F (v - 10000).toNat else v) < F (a - 1).toNat) = true ↔ _
    rw [hl', hr', decide_eq_true_iff]
