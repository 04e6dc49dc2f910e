/-! CLAUSES -/
abbrev hv_st : Type := Nat × (Nat → Bool) × (Nat → Int) × List hv_tok
def hv_num (T : Nat → Int32) (n p : Nat) (lo hi : Int) : Nat ⊕ (Nat × Int) :=
  if hv_sk T n p < n ∧ hv_dg T (hv_sk T n p) = true then
    (if hv_de T n (hv_sk T n p) - hv_sk T n p ≤ 4 ∧ lo ≤ hv_dv T (hv_sk T n p) (hv_de T n (hv_sk T n p) - hv_sk T n p) ∧ hv_dv T (hv_sk T n p) (hv_de T n (hv_sk T n p) - hv_sk T n p) ≤ hi
      then .inr (hv_de T n (hv_sk T n p), hv_dv T (hv_sk T n p) (hv_de T n (hv_sk T n p) - hv_sk T n p)) else .inl (2 + 8 * hv_sk T n p))
  else .inl (1 + 8 * hv_sk T n p)
def hv_ub (f : Nat → Bool) (k : Nat) : Nat → Bool := fun j => if j = k then true else f j
def hv_ud (f : Nat → Int) (k : Nat) (v : Int) : Nat → Int := fun j => if j = k then v else f j
def hv_lo (k : Nat) : Int := if k = 1 ∨ k = 3 ∨ 8 ≤ k then 0 else 1
def hv_hi (k : Nat) : Int := match k with | 0 => 9999 | 1 => 365 | 2 => 999 | 3 => 999 | 4 => 20 | 5 => 20 | 6 => 30 | 7 => 400 | 8 => 40 | _ => 999
def hv_kk (w : Int) : Nat := if w ≤ 16 then (w - 11).toNat else (w - 10).toNat
def hv_ck (T : Nat → Int32) (n p k : Nat) (sn : Nat → Bool) (rd : Nat → Int) (o : List hv_tok) : Nat ⊕ hv_st :=
  if sn k = true then .inl (3 + 8 * p) else hv_bd (hv_num T n (hv_we T n p) (hv_lo k) (hv_hi k)) (fun a =>
    if k = 5 then hv_bd (hv_num T n a.1 1 30) (fun b => .inr (b.1, hv_ub sn 5, hv_ud (hv_ud rd 5 a.2) 6 b.2, o)) else .inr (a.1, hv_ub sn k, hv_ud rd k a.2, o))
def hv_co (T : Nat → Int32) (n q : Nat) (sn : Nat → Bool) (rd : Nat → Int) (o : List hv_tok) : Nat ⊕ hv_st :=
  if 21 ≤ hv_wd T n q ∧ hv_wd T n q ≤ 24 then
    (if sn (hv_wd T n q - 12).toNat = true then .inl (3 + 8 * q) else hv_bd (hv_num T n (hv_we T n q) 0 999) (fun a => .inr (a.1, hv_ub sn (hv_wd T n q - 12).toNat, hv_ud rd (hv_wd T n q - 12).toNat a.2, o)))
  else .inl (1 + 8 * q)
def hv_cl (T : Nat → Int32) (n p : Nat) (sn : Nat → Bool) (rd : Nat → Int) (o : List hv_tok) : Nat ⊕ hv_st :=
  if 11 ≤ hv_wd T n (hv_sk T n p) ∧ hv_wd T n (hv_sk T n p) ≤ 20 then
    (if hv_wd T n (hv_sk T n p) = 20 then (if sn 13 = true then .inl (3 + 8 * hv_sk T n p) else hv_bd (hv_LE T n 8 false false (hv_we T n (hv_sk T n p)) 0 []) (fun q => .inr (q.1, hv_ub sn 13, rd, q.2.2)))
    else if hv_wd T n (hv_sk T n p) = 19 then hv_co T n (hv_sk T n (hv_we T n (hv_sk T n p))) sn rd o
    else hv_ck T n (hv_sk T n p) (hv_kk (hv_wd T n (hv_sk T n p))) sn rd o)
  else .inl (1 + 8 * hv_sk T n p)
def hv_al (T : Nat → Int32) (n : Nat) : Nat → hv_st → Nat ⊕ hv_st
  | 0, _ => .inl 0
  | f + 1, s => hv_bd (hv_cl T n s.1 s.2.1 s.2.2.1 s.2.2.2) (fun q =>
    if hv_sk T n q.1 < n then (if (T (hv_sk T n q.1)).toInt = 59 then hv_al T n f (hv_sk T n q.1 + 1, q.2) else .inl (1 + 8 * hv_sk T n q.1)) else .inr (hv_sk T n q.1, q.2))
section HVC
variable {T : Nat → Int32} {n : Nat}
theorem hv_al_s {f : Nat} {s : hv_st} : hv_al T n (f + 1) s = hv_bd (hv_cl T n s.1 s.2.1 s.2.2.1 s.2.2.2) (fun q =>
    if hv_sk T n q.1 < n then (if (T (hv_sk T n q.1)).toInt = 59 then hv_al T n f (hv_sk T n q.1 + 1, q.2) else .inl (1 + 8 * hv_sk T n q.1)) else .inr (hv_sk T n q.1, q.2)) := rfl
def hv_AL (T : Nat → Int32) (n : Nat) (s : hv_st) : Nat ⊕ hv_st := hv_al T n (n + 2) s
end HVC
def hv_ACT (T : Nat → Int32) (n : Nat) (rd : Nat → Int) (o : List hv_tok) : Nat ⊕ hv_st :=
  if hv_sk T n 0 < n then hv_AL T n (hv_sk T n 0, (fun _ => false), rd, o) else .inr (hv_sk T n 0, (fun _ => false), rd, o)
/-! WORDS IN SLOTS OF EIGHT -/
def hv_chs (js k : Nat) : Int := ((P_by.getD js []).getD k 0).toInt
def hv_c1 (T : Nat → Int32) (js s p e i : Nat) : Prop := s + i < P_ln.getD js 0 → hv_chs js (s + i) = (if p + i < e then (T (p + i)).toInt else 32)
def hv_sl (T : Nat → Int32) (js s p e : Nat) : Prop := e ≤ p + 8 ∧ ∀ i, i < 8 → hv_c1 T js s p e i