/-! WHAT PROVES, GONE THROUGH: which tokens, how many, how high they pile up -/
def hv_vt (t : hv_tok) : Prop := (t.1 = 0 ∧ t.2.1 ≤ 2) ∨ (1 ≤ t.1 ∧ t.1 ≤ 8 ∧ t.2.1 ≤ 4 ∧ 0 ≤ t.2.2 ∧ t.2.2 ≤ 10007)
def hv_ct : List hv_tok → Nat
  | [] => 0
  | t :: o => if t.1 = 0 then hv_ct o else hv_ct o + 1
def hv_hg : List hv_tok → Option Nat
  | [] => some 0
  | t :: o => match hv_hg o with
    | none => none
    | some d => if t.1 = 0 then (if t.2.1 = 2 then (if 1 ≤ d then some d else none) else (if 2 ≤ d then some (d - 1) else none)) else some (d + 1)
def hv_V (o : List hv_tok) (t d : Nat) : Prop := (∀ x ∈ o, hv_vt x) ∧ hv_ct o ≤ t ∧ hv_hg o = some d
theorem hv_V_c {o : List hv_tok} {t d s : Nat} {a v : Int} (h : hv_V o t d) (h1 : 1 ≤ a) (h2 : a ≤ 8) (h3 : s ≤ 4) (h4 : 0 ≤ v) (h5 : v ≤ 10007) : hv_V ((a, s, v) :: o) (t + 1) (d + 1) := by
  obtain ⟨x, y, z⟩ := h
  have na : ¬ ((a, s, v) : hv_tok).1 = 0 := fun e => by have e' : a = 0 := e; omega
  refine ⟨fun q hq => ?_, ?_, ?_⟩
  · rcases List.mem_cons.mp hq with e | e
    · rw [e]; exact Or.inr ⟨h1, h2, h3, h4, h5⟩
    · exact x q e
  · show (if ((a, s, v) : hv_tok).1 = 0 then hv_ct o else hv_ct o + 1) ≤ t + 1
    rw [if_neg na]; omega
  · show (match hv_hg o with
      | none => none
      | some d => if ((a, s, v) : hv_tok).1 = 0 then (if ((a, s, v) : hv_tok).2.1 = 2 then (if 1 ≤ d then some d else none) else (if 2 ≤ d then some (d - 1) else none)) else some (d + 1)) = some (d + 1)
    rw [z]
    exact if_neg na
theorem hv_V_o {o : List hv_tok} {t d s e : Nat} (h : hv_V o t d) (hs : s ≤ 2) (h1 : (s = 2 ∧ 1 ≤ d ∧ e = d) ∨ (s ≤ 1 ∧ 2 ≤ d ∧ e = d - 1)) : hv_V ((0, s, 0) :: o) t e := by
  obtain ⟨x, y, z⟩ := h
  refine ⟨fun q hq => ?_, ?_, ?_⟩
  · rcases List.mem_cons.mp hq with w | w
    · rw [w]; exact Or.inl ⟨rfl, hs⟩
    · exact x q w
  · show (if ((0 : Int) = 0) then hv_ct o else hv_ct o + 1) ≤ t
    rw [if_pos rfl]; exact y
  · show (match hv_hg o with
      | none => none
      | some d => if (0 : Int) = 0 then (if s = 2 then (if 1 ≤ d then some d else none) else (if 2 ≤ d then some (d - 1) else none)) else some (d + 1)) = some e
    rw [z]
    show (if (0 : Int) = 0 then (if s = 2 then (if 1 ≤ d then some d else none) else (if 2 ≤ d then some (d - 1) else none)) else some (d + 1)) = some e
    rw [if_pos rfl]
    rcases h1 with ⟨a, b, c⟩ | ⟨a, b, c⟩
    · rw [if_pos a, if_pos b, c]
    · rw [if_neg (by omega), if_pos b, c]
theorem hv_V_j {o : List hv_tok} {t d s : Nat} {b : Bool} (h : hv_V o t (d + 1 + hv_w1 b)) (hs : s ≤ 1) : hv_V (hv_j b s o) t (d + 1) := by
  cases b with
  | false => exact h
  | true =>
    show hv_V ((0, s, 0) :: o) t (d + 1)
    exact hv_V_o h (by omega) (Or.inr ⟨hs, by have : hv_w1 true = 1 := rfl; omega, by have : hv_w1 true = 1 := rfl; omega⟩)
section HVVV
variable {T : Nat → Int32} {n : Nat}
theorem hv_dvb4 {u : Nat} (hn : u < n) (hd : hv_dg T u = true) (h4 : hv_de T n u - u ≤ 4) : 0 ≤ hv_dv T u (hv_de T n u - u) ∧ hv_dv T u (hv_de T n u - u) ≤ 9999 := by
  have hg := hv_de_gt (T := T) hn hd
  have hb := hv_dv_b (T := T) (p := u) (hv_de T n u - u) (fun j h1 h3 => by
    have h5 : j < hv_sn (hv_dg T) n u := by show j < hv_de T n u; omega
    exact hv_sn_in h1 h5)
  refine ⟨hb.1, ?_⟩
  have h1 : (10 : Int) ^ 1 = 10 := by decide
  have h2 : (10 : Int) ^ 2 = 100 := by decide
  have h3 : (10 : Int) ^ 3 = 1000 := by decide
  have h5 : (10 : Int) ^ 4 = 10000 := by decide
  rcases (show hv_de T n u - u = 1 ∨ hv_de T n u - u = 2 ∨ hv_de T n u - u = 3 ∨ hv_de T n u - u = 4 by omega) with e | e | e | e
  · rw [e] at hb ⊢; rw [h1] at hb; omega
  · rw [e] at hb ⊢; rw [h2] at hb; omega
  · rw [e] at hb ⊢; rw [h3] at hb; omega
  · rw [e] at hb ⊢; rw [h5] at hb; omega
theorem hv_term_v {p t d : Nat} {o : List hv_tok} {q : Nat × Nat × List hv_tok} (h : hv_term T n p t o = .inr q) (hV : hv_V o t d) : hv_V q.2.2 q.2.1 (d + 1) := by
  unfold hv_term at h
  split at h
  · next hw =>
    split at h
    · cases h
    · next ht =>
      unfold hv_lf at h
      split at h
      · cases h
      · next hz =>
        have hsg := hv_sg_b (T := T) (n := n) (hv_sk T n (hv_we T n p))
        unfold hv_rt at h
        split at h
        · next hv =>
          have h2 := Sum.inr.inj h
          subst h2
          exact hv_V_c hV (by omega) (by omega) hsg.2.2 (by omega) (by omega)
        · split at h
          · next hd =>
            have hl2 := hv_de_gt (T := T) hd.1 hd.2
            split at h
            · next h4 =>
              have h2 := Sum.inr.inj h
              subst h2
              have hb := hv_dvb4 (T := T) hd.1 hd.2 h4
              exact hv_V_c hV (by omega) (by omega) hsg.2.2 hb.1 (by have := hb.2; omega)
            · cases h
          · cases h
  · cases h
theorem hv_lp_v {one : Nat → Nat → List hv_tok → hv_R} (hone : ∀ p t o q d, one p t o = .inr q → hv_V o t d → hv_V q.2.2 q.2.1 (d + 1)) : ∀ (f : Nat) (a w : Bool) (p t d : Nat) (o : List hv_tok) (q : Nat × Nat × List hv_tok), hv_lp T n one f a w p t o = .inr q → hv_V o t (d + hv_w1 w + hv_w1 a) → hv_V q.2.2 q.2.1 (d + 1) := by
  intro f
  induction f with
  | zero => intro a w p t d o q h; cases h
  | succ f ih =>
    intro a w p t d o q h hV
    rw [hv_lp_s] at h
    obtain ⟨r, h1, h2⟩ := hv_bd_i h
    have g := hone _ _ _ _ _ h1 hV
    have wf : hv_w1 false = 0 := rfl
    have wt : hv_w1 true = 1 := rfl
    have g1 : hv_V (hv_j a 1 r.2.2) r.2.1 (d + hv_w1 w + 1) := hv_V_j (d := d + hv_w1 w) (by rw [show d + hv_w1 w + 1 + hv_w1 a = d + hv_w1 w + hv_w1 a + 1 by omega]; exact g) (by omega)
    split at h2
    · exact ih _ _ _ _ d _ _ h2 (by rw [wt]; exact g1)
    · have g2 : hv_V (hv_j w 0 (hv_j a 1 r.2.2)) r.2.1 (d + 1) := hv_V_j (d := d) (by rw [show d + 1 + hv_w1 w = d + hv_w1 w + 1 by omega]; exact g1) (by omega)
      split at h2
      · exact ih _ _ _ _ d _ _ h2 (by rw [wt, wf]; exact g2)
      · cases h2; exact g2
theorem hv_one_v : ∀ (D p t : Nat) (o : List hv_tok) (q : Nat × Nat × List hv_tok) (d : Nat), hv_one T n D p t o = .inr q → hv_V o t d → hv_V q.2.2 q.2.1 (d + 1) := by
  intro D
  induction D with
  | zero =>
    intro p t o q d h hV
    unfold hv_one at h
    split at h
    · cases h
    · split at h
      · cases h
      · exact hv_term_v h hV
  | succ D ih =>
    intro p t o q d h hV
    unfold hv_one at h
    split at h
    · obtain ⟨r, h1, h2⟩ := hv_bd_i h
      have g := ih _ _ _ _ _ h1 hV
      have h3 := Sum.inr.inj h2
      subst h3
      exact hv_V_o g (by omega) (Or.inl ⟨rfl, by omega, rfl⟩)
    · split at h
      · obtain ⟨r, h1, h2⟩ := hv_bd_i h
        have g := hv_lp_v ih _ _ _ _ _ d _ _ h1 hV
        unfold hv_par at h2
        split at h2
        · cases h2; exact g
        · cases h2
      · exact hv_term_v h hV
/-- what can be gone through -/
def hv_OK (o : List hv_tok) : Prop := ∃ t, t ≤ 20 ∧ hv_V o t 1
theorem hv_OK_0 : hv_OK hv_o0 := ⟨2, by omega, fun x hx => by
  have h : x = (0, 1, 0) ∨ x = (2, 2, 0) ∨ x = (1, 2, 1) := by simpa [hv_o0] using hx
  rcases h with e | e | e <;> rw [e]
  · exact Or.inl ⟨rfl, by decide⟩
  · exact Or.inr ⟨by decide, by decide, by decide, by decide, by decide⟩
  · exact Or.inr ⟨by decide, by decide, by decide, by decide, by decide⟩, by decide, by decide⟩
theorem hv_cl_v {p : Nat} {sn : Nat → Bool} {rd : Nat → Int} {o : List hv_tok} {q : hv_st} (h : hv_cl T n p sn rd o = .inr q) (hV : hv_OK o) : hv_OK q.2.2.2 := by
  unfold hv_cl at h
  split at h
  · split at h
    · split at h
      · cases h
      · obtain ⟨r, h1, h2⟩ := hv_bd_i h
        have h3 := Sum.inr.inj h2
        subst h3
        have g := hv_lp_v (hv_one_v 8) _ _ _ _ _ 0 _ _ h1 ⟨(fun x hx => nomatch hx), Nat.le_refl _, rfl⟩
        have b := hv_LE_b h1
        exact ⟨_, by have := b.2.2.2.1; omega, g⟩
    · split at h
      · unfold hv_co at h
        split at h
        · split at h
          · cases h
          · obtain ⟨r, h1, h2⟩ := hv_bd_i h
            have h3 := Sum.inr.inj h2
            subst h3; exact hV
        · cases h
      · unfold hv_ck at h
        split at h
        · cases h
        · obtain ⟨r, h1, h2⟩ := hv_bd_i h
          split at h2
          · obtain ⟨r', h1', h2'⟩ := hv_bd_i h2
            have h3 := Sum.inr.inj h2'
            subst h3; exact hV
          · have h3 := Sum.inr.inj h2
            subst h3; exact hV
  · cases h
theorem hv_al_v : ∀ (f : Nat) (s q : hv_st), hv_al T n f s = .inr q → hv_OK s.2.2.2 → hv_OK q.2.2.2
  | 0, s, q, h, _ => by cases h
  | f + 1, s, q, h, hV => by
    rw [hv_al_s] at h
    obtain ⟨r, h1, h2⟩ := hv_bd_i h
    have g := hv_cl_v h1 hV
    split at h2
    · split at h2
      · exact hv_al_v f _ _ h2 g
      · cases h2
    · have h3 := Sum.inr.inj h2
      subst h3; exact g
theorem hv_ACT_v {rd : Nat → Int} {q : hv_st} (h : hv_ACT T n rd hv_o0 = .inr q) : hv_OK q.2.2.2 := by
  unfold hv_ACT at h
  split at h
  · exact hv_al_v _ _ _ h hv_OK_0
  · have h3 := Sum.inr.inj h
    subst h3; exact hv_OK_0
end HVVV
