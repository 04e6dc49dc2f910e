/-! THE REFERENCE'S STACK -/
def hv_rc (t : hv_tok) : Int := if t.1 = 0 then (t.2.1 : Int) else 1000000 * t.1 + 100000 * (t.2.1 : Int) + t.2.2
theorem hv_dp_ls {f : Nat → Int32} : ∀ n, hv_dp (hv_ls f n) = hx_dp f n := by
  intro n
  induction n with
  | zero => rfl
  | succ n ih => show hv_dp (hv_ls f n) + _ = hx_dp f n + _; rw [ih]
theorem hv_ls_p {f f1 : Nat → Int32} {n n1 k : Nat} {v : Int32} {z : Int} (hk : k = n) (h1 : n1 = n + 1) (hv : v.toInt = z) (h2 : f1 = hx_up f k v) : hv_ls f1 n1 = z :: hv_ls f n := by
  subst hk; subst h1; subst h2; subst hv
  show (hx_up f k v k).toInt :: hv_ls (hx_up f k v) k = _
  rw [hx_up_at, hv_ls_c k (fun j hj => hx_up_ne (by omega))]
theorem hv_ls_t {f : Nat → Int32} {op : Int} {x i j : Int32} (h : 0 < op) (ex : x = f i.toNatClampNeg) (hi : i.toInt = op - 1) (hj : j.toInt = op - 1) : hv_ls f op.toNat = x.toInt :: hv_ls f j.toInt.toNat := by
  have e : op.toNat = i.toNatClampNeg + 1 := by unfold Int32.toNatClampNeg; omega
  have e2 : j.toInt.toNat = i.toNatClampNeg := by unfold Int32.toNatClampNeg; omega
  rw [e, e2, ex]; rfl
theorem hv_ls_0 {f : Nat → Int32} {op : Int} (h : op ≤ 0) : hv_ls f op.toNat = [] := by
  rw [show op.toNat = 0 by omega]; rfl
theorem hv_ls_n {f : Nat → Int32} {op : Int} (h : 0 < op) : hv_ls f op.toNat ≠ [] := by
  rw [show op.toNat = (op.toNat - 1) + 1 by omega]; intro z; cases z
section HVRN
variable {T : Nat → Int32} {n p t u : Nat} {o o1 : List hv_tok} {s s1 : List Int} {p1 t1 : Nat} {x : Nat} {w : Int} {a : Int} {low : Int}
theorem hv_rt_n (h : ¬ (3 ≤ hv_wd T n u ∧ hv_wd T n u ≤ 10)) (hu : hv_sk T n u = u) {g : Nat} : hv_rt T n w g u t o = hv_bd (hv_num T n u 0 9999) (fun q => .inr (q.1, t + 1, (w - 2, g, q.2) :: o)) := by
  unfold hv_rt hv_num
  rw [if_neg h, hu]
  by_cases d : u < n ∧ hv_dg T u = true
  · rw [if_pos d, if_pos d]
    by_cases c : hv_de T n u - u ≤ 4
    · have hb := hv_dv_b (T := T) (p := u) (hv_de T n u - u) (fun j h1 h2 => hv_sn_in (P := hv_dg T) (n := n) h1 (by show j < hv_de T n u; omega))
      have h4 : hv_dv T u (hv_de T n u - u) ≤ 9999 := by
        rcases (show hv_de T n u - u = 0 ∨ hv_de T n u - u = 1 ∨ hv_de T n u - u = 2 ∨ hv_de T n u - u = 3 ∨ hv_de T n u - u = 4 by omega) with z | z | z | z | z <;> (rw [z] at hb ⊢; have h5 := hb.2; simp at h5; omega)
      rw [if_pos c, if_pos ⟨c, hb.1, h4⟩]; rfl
    · rw [if_neg c, if_neg (fun z => c z.1)]; rfl
  · rw [if_neg d, if_neg d]; rfl
theorem hv_RN_t0 (h1 : hv_wd T n (hv_sk T n p) ≠ 2) (h2 : ¬ (hv_sk T n p < n ∧ (T (hv_sk T n p)).toInt = 40)) (hr : hv_term T n (hv_sk T n p) t o = .inl x) : hv_RN T n true p t o s = .inl x := by
  rw [hv_RN_1, if_neg h1, if_neg h2, hr]; rfl
theorem hv_RN_t1 (h1 : hv_wd T n (hv_sk T n p) ≠ 2) (h2 : ¬ (hv_sk T n p < n ∧ (T (hv_sk T n p)).toInt = 40)) (hr : hv_term T n (hv_sk T n p) t o = .inr (p1, t1, o1)) : hv_RN T n true p t o s = hv_RN T n false p1 t1 (hv_cn o1 s).1 (hv_cn o1 s).2 := by
  rw [hv_RN_1, if_neg h1, if_neg h2, hr]; rfl
theorem hv_RN_d (h : hv_wd T n (hv_sk T n p) = 2 ∨ (hv_sk T n p < n ∧ (T (hv_sk T n p)).toInt = 40)) (hd : hv_dp s = 8) : hv_RN T n true p t o s = .inl (4 + 8 * hv_sk T n p) := by
  rw [hv_RN_1]
  rcases h with h | h
  · rw [if_pos h, if_pos hd]
  · rw [if_pos h, if_pos hd]
    split <;> rfl
theorem hv_RN_n (h : hv_wd T n (hv_sk T n p) = 2) (hd : hv_dp s ≠ 8) : hv_RN T n true p t o s = hv_RN T n true (hv_sk T n p + 3) t o (2 :: s) := by
  rw [hv_RN_1 (p := p), if_pos h, if_neg hd]
theorem hv_RN_p (h : hv_wd T n (hv_sk T n p) ≠ 2) (h2 : hv_sk T n p < n ∧ (T (hv_sk T n p)).toInt = 40) (hd : hv_dp s ≠ 8) : hv_RN T n true p t o s = hv_RN T n true (hv_sk T n p + 1) t o (100 :: s) := by
  rw [hv_RN_1 (p := p), if_neg h, if_pos h2, if_neg hd]
theorem hv_wd_40 (h : (T p).toInt = 40) : hv_wd T n p = -1 := hv_wd_n (fun _ => by
  show decide _ = false
  exact decide_eq_false (fun z => by omega))
theorem hv_RN_a (h : hv_wd T n (hv_sk T n p) = w) (hw : w = 1 ∨ w = 0) (hc : hv_cd w o s = (o1, s1)) : hv_RN T n false p t o s = hv_RN T n true (hv_we T n (hv_sk T n p)) t o1 (w :: s1) := by
  subst h
  rw [hv_RN_0, if_pos hw, hc]
theorem hv_RN_c0 (h : hv_wd T n (hv_sk T n p) ≠ 1 ∧ hv_wd T n (hv_sk T n p) ≠ 0) (h2 : hv_sk T n p < n ∧ (T (hv_sk T n p)).toInt = 41) (hc : hv_cd 0 o s = (o1, [])) : hv_RN T n false p t o s = .inl (1 + 8 * hv_sk T n p) := by
  rw [hv_RN_0, if_neg (fun z => z.elim h.1 h.2), hc]
  unfold hv_shut
  rw [if_pos h2]
theorem hv_RN_c1 (h : hv_wd T n (hv_sk T n p) ≠ 1 ∧ hv_wd T n (hv_sk T n p) ≠ 0) (h2 : hv_sk T n p < n ∧ (T (hv_sk T n p)).toInt = 41) (hc : hv_cd 0 o s = (o1, a :: s1)) {q : List hv_tok × List Int} (hq : hv_cn o1 s1 = q) : hv_RN T n false p t o s = hv_RN T n false (hv_sk T n p + 1) t q.1 q.2 := by
  subst hq
  rw [hv_RN_0 (p := p), if_neg (fun z => z.elim h.1 h.2), hc]
  unfold hv_shut
  rw [if_pos h2]
theorem hv_RN_e0 (h : hv_wd T n (hv_sk T n p) ≠ 1 ∧ hv_wd T n (hv_sk T n p) ≠ 0) (h2 : ¬ (hv_sk T n p < n ∧ (T (hv_sk T n p)).toInt = 41)) (hc : hv_cd 0 o s = (o1, [])) : hv_RN T n false p t o s = .inr (hv_sk T n p, t, o1) := by
  rw [hv_RN_0, if_neg (fun z => z.elim h.1 h.2), hc]
  unfold hv_shut
  rw [if_neg h2, if_pos rfl]
theorem hv_RN_e1 (h : hv_wd T n (hv_sk T n p) ≠ 1 ∧ hv_wd T n (hv_sk T n p) ≠ 0) (h2 : ¬ (hv_sk T n p < n ∧ (T (hv_sk T n p)).toInt = 41)) (hc : hv_cd 0 o s = (o1, s1)) (hs : s1 ≠ []) : hv_RN T n false p t o s = .inl (1 + 8 * hv_sk T n p) := by
  rw [hv_RN_0, if_neg (fun z => z.elim h.1 h.2), hc]
  unfold hv_shut
  rw [if_neg h2, if_neg hs]
theorem hv_cn_2 (h : a = 2) : hv_cn o (a :: s) = hv_cn ((0, 2, 0) :: o) s := if_pos h
theorem hv_cn_n (h : a ≠ 2) : hv_cn o (a :: s) = (o, a :: s) := if_neg h
theorem hv_cd_y (h : a ≠ 100) (h2 : low ≤ a) : hv_cd low o (a :: s) = hv_cd low ((0, a.toNat, 0) :: o) s := if_pos ⟨h, h2⟩
theorem hv_cd_n (h : a = 100 ∨ a < low) : hv_cd low o (a :: s) = (o, a :: s) := if_neg (fun z => by omega)
end HVRN
/-- what begins() answers -/
def hv_BG (run : hv_R) (T : Nat → Int32) (n : Nat) (r ft p t : Int) (ls st : List Int) : Prop := (r = 1 ∧ ft = 0 ∧ 0 ≤ p ∧ 0 ≤ t ∧ ∃ o1, ls = o1.map hv_rc ∧ run = hv_RN T n false p.toNat t.toNat (hv_cn o1 st).1 (hv_cn o1 st).2) ∨ (r = 0 ∧ 1 ≤ ft ∧ run = .inl ft.toNat)
section HVBG
variable {run : hv_R} {T : Nat → Int32} {n : Nat} {r ft p t : Int} {ls st : List Int}
theorem hv_BG_1 (h : hv_BG run T n r ft p t ls st) (z : 1 ≤ r) : ft = 0 ∧ 0 ≤ p ∧ 0 ≤ t ∧ ∃ o1, ls = o1.map hv_rc ∧ run = hv_RN T n false p.toNat t.toNat (hv_cn o1 st).1 (hv_cn o1 st).2 := by
  rcases h with ⟨_, w⟩ | ⟨a, _⟩
  · exact w
  · exfalso; omega
theorem hv_BG_0 (h : hv_BG run T n r ft p t ls st) (z : r ≤ 0) : 1 ≤ ft ∧ run = .inl ft.toNat := by
  rcases h with ⟨a, _⟩ | ⟨_, w⟩
  · exfalso; omega
  · exact w
theorem hv_BG_K {sp : hv_R} (k : hv_K hv_rc sp r ft p t ls) (h0 : ∀ x, sp = .inl x → run = .inl x) (h1 : ∀ p1 t1 o1, sp = .inr (p1, t1, o1) → run = hv_RN T n false p1 t1 (hv_cn o1 st).1 (hv_cn o1 st).2) : hv_BG run T n r ft p t ls st := by
  rcases k with ⟨a, b, c, d, o1, e, f⟩ | ⟨a, b, c⟩
  · exact Or.inl ⟨a, b, c, d, o1, e, h1 _ _ _ f⟩
  · exact Or.inr ⟨a, b, h0 _ c⟩
theorem hv_BG_f {x : Nat} (hr : r = 0) (hf : ft = (x : Int)) (hx : 1 ≤ x) (h : run = .inl x) : hv_BG run T n r ft p t ls st := Or.inr ⟨hr, by omega, by rw [h, hf, Int.toNat_natCast]⟩
end HVBG
