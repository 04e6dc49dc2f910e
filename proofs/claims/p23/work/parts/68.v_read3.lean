/-! CLAUSES -/
abbrev hv_st : Type := Nat × (Nat → Bool) × (Nat → Int) × List hv_tok
def hv_num (T : Nat → Int32) (n p : Nat) (lo hi : Int) : Nat ⊕ (Nat × Int) :=
  if hv_sk T n p < n ∧ hv_dg T (hv_sk T n p) = true then
    (if hv_de T n (hv_sk T n p) - hv_sk T n p ≤ 4 ∧ lo ≤ hv_dv T (hv_sk T n p) (hv_de T n (hv_sk T n p) - hv_sk T n p) ∧ hv_dv T (hv_sk T n p) (hv_de T n (hv_sk T n p) - hv_sk T n p) ≤ hi
      then .inr (hv_de T n (hv_sk T n p), hv_dv T (hv_sk T n p) (hv_de T n (hv_sk T n p) - hv_sk T n p)) else .inl (2 + 8 * hv_sk T n p))
  else .inl (1 + 8 * hv_sk T n p)
def hv_ub (f : Nat → Bool) (k : Nat) : Nat → Bool := fun j => if j = k then true else f j
def hv_ud (f : Nat → Int) (k : Nat) (v : Int) : Nat → Int := fun j => if j = k then v else f j
def hv_lo (k : Nat) : Int := if k = 1 ∨ k = 3 ∨ 8 ≤ k then 0 else 1
def hv_hi (k : Nat) : Int := match k with | 0 => 9999 | 1 => 365 | 2 => 999 | 3 => 999 | 4 => 20 | 5 => 20 | 6 => 30 | 7 => 400 | 8 => 40 | _ => 999
def hv_kk (w : Int) : Nat := if w ≤ 16 then (w - 11).toNat else (w - 10).toNat
def hv_ck (T : Nat → Int32) (n p k : Nat) (sn : Nat → Bool) (rd : Nat → Int) (o : List hv_tok) : Nat ⊕ hv_st :=
  if sn k = true then .inl (3 + 8 * p) else hv_bd (hv_num T n (hv_we T n p) (hv_lo k) (hv_hi k)) (fun a =>
    if k = 5 then hv_bd (hv_num T n a.1 1 30) (fun b => .inr (b.1, hv_ub sn 5, hv_ud (hv_ud rd 5 a.2) 6 b.2, o)) else .inr (a.1, hv_ub sn k, hv_ud rd k a.2, o))
def hv_co (T : Nat → Int32) (n q : Nat) (sn : Nat → Bool) (rd : Nat → Int) (o : List hv_tok) : Nat ⊕ hv_st :=
  if 21 ≤ hv_wd T n q ∧ hv_wd T n q ≤ 24 then
    (if sn (hv_wd T n q - 12).toNat = true then .inl (3 + 8 * q) else hv_bd (hv_num T n (hv_we T n q) 0 999) (fun a => .inr (a.1, hv_ub sn (hv_wd T n q - 12).toNat, hv_ud rd (hv_wd T n q - 12).toNat a.2, o)))
  else .inl (1 + 8 * q)
def hv_cl (T : Nat → Int32) (n p : Nat) (sn : Nat → Bool) (rd : Nat → Int) (o : List hv_tok) : Nat ⊕ hv_st :=
  if 11 ≤ hv_wd T n (hv_sk T n p) ∧ hv_wd T n (hv_sk T n p) ≤ 20 then
    (if hv_wd T n (hv_sk T n p) = 20 then (if sn 13 = true then .inl (3 + 8 * hv_sk T n p) else hv_bd (hv_LE T n 8 false false (hv_we T n (hv_sk T n p)) 0 []) (fun q => .inr (q.1, hv_ub sn 13, rd, q.2.2)))
    else if hv_wd T n (hv_sk T n p) = 19 then hv_co T n (hv_sk T n (hv_we T n (hv_sk T n p))) sn rd o
    else hv_ck T n (hv_sk T n p) (hv_kk (hv_wd T n (hv_sk T n p))) sn rd o)
  else .inl (1 + 8 * hv_sk T n p)
def hv_al (T : Nat → Int32) (n : Nat) : Nat → hv_st → Nat ⊕ hv_st
  | 0, _ => .inl 0
  | f + 1, s => hv_bd (hv_cl T n s.1 s.2.1 s.2.2.1 s.2.2.2) (fun q =>
    if hv_sk T n q.1 < n then (if (T (hv_sk T n q.1)).toInt = 59 then hv_al T n f (hv_sk T n q.1 + 1, q.2) else .inl (1 + 8 * hv_sk T n q.1)) else .inr (hv_sk T n q.1, q.2))
section HVC
variable {T : Nat → Int32} {n : Nat}
theorem hv_num_b {p : Nat} {lo hi : Int} {q : Nat × Int} (h : hv_num T n p lo hi = .inr q) : p < q.1 ∧ q.1 ≤ n ∧ lo ≤ q.2 ∧ q.2 ≤ hi := by
  unfold hv_num at h
  have hs := hv_sk_ge (T := T) (n := n) (p := p)
  split at h
  · next hd =>
    have hl := hv_de_gt (T := T) hd.1 hd.2
    split at h
    · next hc =>
      have h2 := Sum.inr.inj h
      subst h2
      exact ⟨by show p < hv_de T n (hv_sk T n p); omega, hl.2, hc.2.1, hc.2.2⟩
    · cases h
  · cases h
theorem hv_cl_b {p : Nat} {sn : Nat → Bool} {rd : Nat → Int} {o : List hv_tok} {q : hv_st} (h : hv_cl T n p sn rd o = .inr q) : p < q.1 ∧ q.1 ≤ n := by
  unfold hv_cl at h
  have hs := hv_sk_ge (T := T) (n := n) (p := p)
  split at h
  · next hw =>
    have hl := hv_wd_3 (T := T) (n := n) (p := hv_sk T n p) (by omega)
    split at h
    · split at h
      · cases h
      · obtain ⟨r, h1, h2⟩ := hv_bd_i h
        have hg := hv_LE_b h1
        have h3 := Sum.inr.inj h2
        subst h3
        exact ⟨by show p < r.1; omega, hg.2.1⟩
    · split at h
      · unfold hv_co at h
        have hs2 := hv_sk_ge (T := T) (n := n) (p := hv_we T n (hv_sk T n p))
        split at h
        · next hw2 =>
          have hl2 := hv_wd_3 (T := T) (n := n) (p := hv_sk T n (hv_we T n (hv_sk T n p))) (by omega)
          split at h
          · cases h
          · obtain ⟨r, h1, h2⟩ := hv_bd_i h
            have hg := hv_num_b h1
            have h3 := Sum.inr.inj h2
            subst h3
            exact ⟨by show p < r.1; omega, hg.2.1⟩
        · cases h
      · unfold hv_ck at h
        split at h
        · cases h
        · obtain ⟨r, h1, h2⟩ := hv_bd_i h
          have hg := hv_num_b h1
          split at h2
          · obtain ⟨r2, h3, h4⟩ := hv_bd_i h2
            have hg2 := hv_num_b h3
            have h5 := Sum.inr.inj h4
            subst h5
            exact ⟨by show p < r2.1; omega, hg2.2.1⟩
          · have h3 := Sum.inr.inj h2
            subst h3
            exact ⟨by show p < r.1; omega, hg.2.1⟩
  · cases h
theorem hv_cl_sk {p : Nat} {sn : Nat → Bool} {rd : Nat → Int} {o : List hv_tok} : hv_cl T n (hv_sk T n p) sn rd o = hv_cl T n p sn rd o := by
  unfold hv_cl
  rw [hv_sk_id]
theorem hv_al_s {f : Nat} {s : hv_st} : hv_al T n (f + 1) s = hv_bd (hv_cl T n s.1 s.2.1 s.2.2.1 s.2.2.2) (fun q =>
    if hv_sk T n q.1 < n then (if (T (hv_sk T n q.1)).toInt = 59 then hv_al T n f (hv_sk T n q.1 + 1, q.2) else .inl (1 + 8 * hv_sk T n q.1)) else .inr (hv_sk T n q.1, q.2)) := rfl
theorem hv_al_f : ∀ (f f' : Nat) (s : hv_st), n + 1 < f + s.1 → 0 < f → n + 1 < f' + s.1 → 0 < f' → hv_al T n f s = hv_al T n f' s := by
  intro f
  induction f with
  | zero => intro f' s _ h; exfalso; omega
  | succ f ih =>
    intro f' s h1 h2 h3 h4
    obtain ⟨g, rfl⟩ : ∃ g, f' = g + 1 := ⟨f' - 1, by omega⟩
    rw [hv_al_s, hv_al_s]
    cases hr : hv_cl T n s.1 s.2.1 s.2.2.1 s.2.2.2 with
    | inl x => rfl
    | inr q =>
      have hb := hv_cl_b hr
      have hs := hv_sk_ge (T := T) (n := n) (p := q.1)
      rw [hv_bd_r, hv_bd_r]
      by_cases c : hv_sk T n q.1 < n
      · rw [if_pos c, if_pos c]
        by_cases d : (T (hv_sk T n q.1)).toInt = 59
        · rw [if_pos d, if_pos d]
          exact ih _ _ (by show n + 1 < f + (hv_sk T n q.1 + 1); omega) (by omega) (by show n + 1 < g + (hv_sk T n q.1 + 1); omega) (by omega)
        · rw [if_neg d, if_neg d]
      · rw [if_neg c, if_neg c]
def hv_AL (T : Nat → Int32) (n : Nat) (s : hv_st) : Nat ⊕ hv_st := hv_al T n (n + 2) s
theorem hv_AL_t {s : hv_st} : hv_AL T n s = hv_bd (hv_cl T n s.1 s.2.1 s.2.2.1 s.2.2.2) (fun q =>
    if hv_sk T n q.1 < n then (if (T (hv_sk T n q.1)).toInt = 59 then hv_AL T n (hv_sk T n q.1 + 1, q.2) else .inl (1 + 8 * hv_sk T n q.1)) else .inr (hv_sk T n q.1, q.2)) := by
  show hv_al T n ((n + 1) + 1) s = _
  rw [hv_al_s]
  cases hr : hv_cl T n s.1 s.2.1 s.2.2.1 s.2.2.2 with
  | inl x => rfl
  | inr q =>
    have hb := hv_cl_b hr
    have hs := hv_sk_ge (T := T) (n := n) (p := q.1)
    rw [hv_bd_r, hv_bd_r]
    by_cases c : hv_sk T n q.1 < n
    · rw [if_pos c, if_pos c]
      by_cases d : (T (hv_sk T n q.1)).toInt = 59
      · rw [if_pos d, if_pos d]
        exact hv_al_f _ _ _ (by show n + 1 < n + 1 + (hv_sk T n q.1 + 1); omega) (by omega) (by show n + 1 < n + 2 + (hv_sk T n q.1 + 1); omega) (by omega)
      · rw [if_neg d, if_neg d]
    · rw [if_neg c, if_neg c]
theorem hv_AL_sk {p : Nat} {x : (Nat → Bool) × (Nat → Int) × List hv_tok} : hv_AL T n (hv_sk T n p, x) = hv_AL T n (p, x) := by
  rw [hv_AL_t, hv_AL_t]
  dsimp only
  rw [hv_cl_sk]
theorem hv_cl_n {p : Nat} {sn : Nat → Bool} {rd : Nat → Int} {o : List hv_tok} (h : n ≤ p) : hv_cl T n p sn rd o = .inl (1 + 8 * p) := by
  unfold hv_cl
  rw [hv_sk_e h, if_neg (by rw [hv_wd_n (fun z => by exfalso; omega)]; omega)]
theorem hv_AL_n {p : Nat} {x : (Nat → Bool) × (Nat → Int) × List hv_tok} (h : n ≤ p) : hv_AL T n (p, x) = .inl (1 + 8 * p) := by
  rw [hv_AL_t]
  dsimp only
  rw [hv_cl_n h]
  rfl
end HVC
def hv_ACT (T : Nat → Int32) (n : Nat) (rd : Nat → Int) (o : List hv_tok) : Nat ⊕ hv_st :=
  if hv_sk T n 0 < n then hv_AL T n (hv_sk T n 0, (fun _ => false), rd, o) else .inr (hv_sk T n 0, (fun _ => false), rd, o)
/-! WORDS IN SLOTS OF EIGHT -/
def hv_chs (js k : Nat) : Int := ((P_by.getD js []).getD k 0).toInt
def hv_c1 (T : Nat → Int32) (js s p e i : Nat) : Prop := s + i < P_ln.getD js 0 → hv_chs js (s + i) = (if p + i < e then (T (p + i)).toInt else 32)
def hv_sl (T : Nat → Int32) (js s p e : Nat) : Prop := e ≤ p + 8 ∧ ∀ i, i < 8 → hv_c1 T js s p e i
/-- the word in a slot; none: 25 -/
def hv_slw (js k : Nat) : Nat := match js with
  | 0 => [25, 11, 12, 13, 14, 15, 16, 25, 17, 18, 19, 20].getD k 25
  | 1 => 21 + k
  | 2 => 1
  | 3 => 0
  | 4 => 2
  | _ => 3 + k
theorem hv_slt : ∀ js, js < 6 → ∀ k, k < 12 → 8 * k + 8 ≤ P_ln.getD js 0 → (hv_slw js k = 25 ∧ hv_chs js (8 * k) = 45) ∨ (hv_slw js k < 25 ∧ ∀ i, i < 8 → hv_chs js (8 * k + i) = (if i < (hv_wl.getD (hv_slw js k) []).length then (hv_wl.getD (hv_slw js k) []).getD i 0 else 32)) := by decide +kernel
theorem hv_wlt : ∀ w, w < 25 → ∀ i, i < (hv_wl.getD w []).length → 97 ≤ (hv_wl.getD w []).getD i 0 ∧ (hv_wl.getD w []).getD i 0 ≤ 122 := by decide +kernel
theorem hv_lnb : ∀ js, js < 6 → P_ln.getD js 0 ≤ 96 := by decide +kernel
theorem hv_sl_w {T : Nat → Int32} {n p js k : Nat} (hj : js < 6) (hk : 8 * k + 8 ≤ P_ln.getD js 0) (hp : p < hv_we T n p) (h : hv_sl T js (8 * k) p (hv_we T n p)) : hv_slw js k < 25 ∧ hv_wd T n p = (hv_slw js k : Int) := by
  have hb := hv_lnb js hj
  have hlt : ∀ i, i < hv_we T n p - p → 97 ≤ (T (p + i)).toInt ∧ (T (p + i)).toInt ≤ 122 := fun i hi => by
    have := hv_sn_in (P := hv_lt T) (n := n) (p := p) (j := p + i) (by omega) (by show p + i < hv_we T n p; omega)
    simpa only [hv_lt, decide_eq_true_eq] using this
  rcases hv_slt js hj k (by omega) hk with ⟨_, h2⟩ | ⟨hw, h2⟩
  · have h3 := h.2 0 (by omega) (by omega)
    rw [Nat.add_zero, Nat.add_zero, if_pos hp, h2] at h3
    have h4 := hlt 0 (by omega)
    rw [Nat.add_zero] at h4
    exfalso; omega
  · have hL := hv_ix_l _ hw
    have hin : ∀ i, i < 8 → i < hv_we T n p - p → i < (hv_wl.getD (hv_slw js k) []).length ∧ (T (p + i)).toInt = (hv_wl.getD (hv_slw js k) []).getD i 0 := fun i h8 hi => by
      have h3 := h.2 i h8 (by omega)
      have h4 := hlt i hi
      rw [if_pos (by omega), h2 i h8] at h3
      by_cases c : i < (hv_wl.getD (hv_slw js k) []).length
      · rw [if_pos c] at h3
        exact ⟨c, h3.symm⟩
      · rw [if_neg c] at h3
        exfalso; omega
    have hle := h.1
    have e8 : hv_we T n p - p < 8 := by
      rcases Nat.lt_or_ge (hv_we T n p - p) 8 with z | z
      · exact z
      · have := (hin 7 (by omega) (by omega)).1
        exfalso; omega
    have h3 := h.2 (hv_we T n p - p) e8 (by omega)
    rw [if_neg (by omega), h2 _ e8] at h3
    have hge : (hv_wl.getD (hv_slw js k) []).length ≤ hv_we T n p - p := by
      rcases Nat.lt_or_ge (hv_we T n p - p) (hv_wl.getD (hv_slw js k) []).length with z | z
      · rw [if_pos z] at h3
        have := hv_wlt _ hw _ z
        exfalso; omega
      · exact z
    have hl1 := (hin (hv_we T n p - p - 1) (by omega) (by omega)).1
    have el : hv_we T n p - p = (hv_wl.getD (hv_slw js k) []).length := by omega
    refine ⟨hw, ?_⟩
    unfold hv_wd
    rw [el, hv_tx_eq _ _ (fun i hi => (hin i (by omega) (by omega)).2), hv_ix_w _ hw]
theorem hv_sl_v {T : Nat → Int32} {n p js k : Nat} (hj : js < 6) (hk : 8 * k + 8 ≤ P_ln.getD js 0) (hw : hv_slw js k < 25) (h : hv_wd T n p = (hv_slw js k : Int)) : p < hv_we T n p ∧ hv_sl T js (8 * k) p (hv_we T n p) := by
  have hb := hv_lnb js hj
  obtain ⟨_, b, c, d⟩ := hv_wd_k h
  have hL := hv_ix_l _ hw
  rcases hv_slt js hj k (by omega) hk with ⟨h1, _⟩ | ⟨_, h2⟩
  · exfalso; omega
  · refine ⟨by omega, by omega, fun i hi _ => ?_⟩
    rw [h2 i hi]
    by_cases z : i < (hv_wl.getD (hv_slw js k) []).length
    · rw [if_pos z, if_pos (by omega), ← b, hv_tx_get _ _ _ (by omega)]
    · rw [if_neg z, if_neg (by omega)]
/-- a word among those of a text -/
def hv_RW (T : Nat → Int32) (n js : Nat) (r : Int) (p : Nat) : Prop :=
  (r = -1 ∧ ∀ k, 8 * k + 8 ≤ P_ln.getD js 0 → p < hv_we T n p → ¬ hv_sl T js (8 * k) p (hv_we T n p)) ∨
  (0 ≤ r ∧ 8 * r + 8 ≤ (P_ln.getD js 0 : Nat) ∧ p < hv_we T n p ∧ hv_sl T js (8 * r.toNat) p (hv_we T n p))
theorem hv_RW_u {T : Nat → Int32} {n js p : Nat} {r : Int} (hj : js < 6) (h : hv_RW T n js r p) : (r = -1 ∧ ∀ k, 8 * k + 8 ≤ P_ln.getD js 0 → hv_slw js k < 25 → hv_wd T n p ≠ (hv_slw js k : Int)) ∨ (0 ≤ r ∧ 8 * r + 8 ≤ (P_ln.getD js 0 : Nat) ∧ hv_slw js r.toNat < 25 ∧ hv_wd T n p = (hv_slw js r.toNat : Int)) := by
  rcases h with ⟨a, b⟩ | ⟨a, b, c, d⟩
  · exact Or.inl ⟨a, fun k hk hw e => b k hk (hv_sl_v hj hk hw e).1 (hv_sl_v hj hk hw e).2⟩
  · have := hv_sl_w (k := r.toNat) hj (by omega) c d
    exact Or.inr ⟨a, b, this.1, this.2⟩
theorem hv_RW_5 {T : Nat → Int32} {n p : Nat} {r : Int} (h : hv_RW T n 5 r p) : (r = -1 ∧ ¬ (3 ≤ hv_wd T n p ∧ hv_wd T n p ≤ 10)) ∨ (0 ≤ r ∧ r ≤ 7 ∧ hv_wd T n p = 3 + r) := by
  have hl : P_ln.getD 5 0 = 64 := rfl
  rcases hv_RW_u (by decide) h with ⟨a, b⟩ | ⟨a, b, _, d⟩
  · refine Or.inl ⟨a, fun z => b ((hv_wd T n p - 3).toNat) (by omega) ?_ ?_⟩
    · show 3 + (hv_wd T n p - 3).toNat < 25; omega
    · show _ = ((3 + (hv_wd T n p - 3).toNat : Nat) : Int); omega
  · have d' : hv_wd T n p = ((3 + r.toNat : Nat) : Int) := d
    exact Or.inr ⟨a, by omega, by omega⟩
theorem hv_RW_1 {T : Nat → Int32} {n p : Nat} {r : Int} (h : hv_RW T n 1 r p) : (r = -1 ∧ ¬ (21 ≤ hv_wd T n p ∧ hv_wd T n p ≤ 24)) ∨ (0 ≤ r ∧ r ≤ 3 ∧ hv_wd T n p = 21 + r) := by
  have hl : P_ln.getD 1 0 = 32 := rfl
  rcases hv_RW_u (by decide) h with ⟨a, b⟩ | ⟨a, b, _, d⟩
  · refine Or.inl ⟨a, fun z => b ((hv_wd T n p - 21).toNat) (by omega) ?_ ?_⟩
    · show 21 + (hv_wd T n p - 21).toNat < 25; omega
    · show _ = ((21 + (hv_wd T n p - 21).toNat : Nat) : Int); omega
  · have d' : hv_wd T n p = ((21 + r.toNat : Nat) : Int) := d
    exact Or.inr ⟨a, by omega, by omega⟩
theorem hv_slw0 : ∀ k, k < 12 → hv_slw 0 k = (if k = 0 ∨ k = 7 then 25 else if k ≤ 6 then 10 + k else 9 + k) := by decide
theorem hv_RW_0 {T : Nat → Int32} {n p : Nat} {r : Int} (h : hv_RW T n 0 r p) : (r = -1 ∧ ¬ (11 ≤ hv_wd T n p ∧ hv_wd T n p ≤ 20)) ∨ (1 ≤ r ∧ r ≤ 11 ∧ r ≠ 7 ∧ hv_wd T n p = (if r ≤ 6 then 10 + r else 9 + r)) := by
  have hl : P_ln.getD 0 0 = 96 := rfl
  rcases hv_RW_u (by decide) h with ⟨a, b⟩ | ⟨a, b, c, d⟩
  · refine Or.inl ⟨a, fun z => ?_⟩
    rcases (show hv_wd T n p ≤ 16 ∨ 17 ≤ hv_wd T n p by omega) with y | y
    · have e := hv_slw0 (hv_wd T n p - 10).toNat (by omega)
      rw [if_neg (by omega), if_pos (by omega)] at e
      exact b (hv_wd T n p - 10).toNat (by omega) (by omega) (by omega)
    · have e := hv_slw0 (hv_wd T n p - 9).toNat (by omega)
      rw [if_neg (by omega), if_neg (by omega)] at e
      exact b (hv_wd T n p - 9).toNat (by omega) (by omega) (by omega)
  · have e := hv_slw0 r.toNat (by omega)
    rw [e] at c d
    split at c
    · exfalso; omega
    · next h7 =>
      rw [if_neg h7] at d
      refine Or.inr ⟨by omega, by omega, by omega, ?_⟩
      split at d
      · rw [if_pos (by omega)]; omega
      · rw [if_neg (by omega)]; omega
/-- the word of a text of one slot alone -/
def hv_NW (T : Nat → Int32) (n js : Nat) (r : Int) (p : Nat) : Prop := (r = 1 ∧ p < hv_we T n p ∧ hv_sl T js 0 p (hv_we T n p)) ∨ (r = 0 ∧ (p < hv_we T n p → ¬ hv_sl T js 0 p (hv_we T n p)))
theorem hv_NW_u {T : Nat → Int32} {n js p : Nat} {r : Int} (hj : 2 ≤ js ∧ js ≤ 4) (h : hv_NW T n js r p) : (r = 1 ∧ hv_wd T n p = (hv_slw js 0 : Int)) ∨ (r = 0 ∧ hv_wd T n p ≠ (hv_slw js 0 : Int)) := by
  have hl : 8 * 0 + 8 ≤ P_ln.getD js 0 ∧ hv_slw js 0 < 25 := by
    rcases (show js = 2 ∨ js = 3 ∨ js = 4 by omega) with z | z | z <;> subst z <;> decide
  rcases h with ⟨a, b, c⟩ | ⟨a, b⟩
  · exact Or.inl ⟨a, (hv_sl_w (k := 0) (by omega) hl.1 b c).2⟩
  · refine Or.inr ⟨a, fun e => ?_⟩
    have := hv_sl_v (k := 0) (by omega) hl.1 hl.2 e
    exact b this.1 this.2
