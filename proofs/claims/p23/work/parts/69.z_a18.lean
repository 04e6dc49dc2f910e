/-! WHAT IS SO, STEP BY STEP -/
def hv_pr (F : Nat → Int) (o : List hv_tok) : Bool := (hv_ev F o).getD 0 false
theorem hv_bitA {z y : Int32} (h : 0 ≤ z.toInt) (e : y = z &&& 1) : y.toInt ≠ 0 ↔ z.toInt % 2 = 1 := by
  have := hv_bitN 0 (by decide) 1 (by decide) (by decide) h e
  rw [this]
  show z.toInt / 1 % 2 = 1 ↔ _
  rw [Int.ediv_one]
theorem hv_bitB {z y : Int32} (h : 0 ≤ z.toInt) (e : y = z &&& 2) : y.toInt ≠ 0 ↔ z.toInt / 2 % 2 = 1 := hv_bitN 1 (by decide) 2 (by decide) (by decide) h e
theorem hv_bitC {z y : Int32} (h : 0 ≤ z.toInt) (e : y = z &&& 4) : y.toInt ≠ 0 ↔ z.toInt / 4 % 2 = 1 := hv_bitN 2 (by decide) 4 (by decide) (by decide) h e
theorem hv_shr3 {x y : Int32} (h : 0 ≤ x.toInt) (e : y = x >>> ((3 : Int32) &&& 31)) : y.toInt = x.toInt / 8 := hv_shrN 3 _ (by decide) h e
theorem hv_shr6 {x y : Int32} (h : 0 ≤ x.toInt) (e : y = x >>> ((6 : Int32) &&& 31)) : y.toInt = x.toInt / 64 := hv_shrN 6 _ (by decide) h e
theorem hv_shr7 {x y : Int32} (h : 0 ≤ x.toInt) (e : y = x >>> ((7 : Int32) &&& 31)) : y.toInt = x.toInt / 128 := hv_shrN 7 _ (by decide) h e
def hv_F0 (f : Nat → Int32) (b : Nat) : Nat → Int := fun k => (f (k + b)).toInt
/-- the token that is gone through, and what it needs -/
theorem hv_pg {F : Nat → Int} {e : hv_tok → Int} {f : Nat → Int32} {o : List hv_tok} {n k : Int} {v : Int32} {ix : Nat} (hls : hv_ls f n.toNat = o.map e) (hO : hv_OK o) (h0 : 0 ≤ k) (hk : k < n) (ei : (ix : Int) = k) (ev : v = f ix) : ∃ (t : hv_tok) (s : List Bool), s = hv_ev F (o.drop (n - k).toNat) ∧ hv_vt t ∧ v.toInt = e t ∧ hv_ev F (o.drop (n - (k + 1)).toNat) = hv_sp F t s ∧ s.length ≤ 20 ∧ (t.1 = 0 → (t.2.1 = 2 ∧ 1 ≤ s.length) ∨ (t.2.1 ≤ 1 ∧ 2 ≤ s.length)) := by
  obtain ⟨t, h1, h2, h3⟩ := hv_drop_s n.toNat ix hls (by omega)
  rw [show n.toNat - (ix + 1) = (n - (k + 1)).toNat by omega, show n.toNat - ix = (n - k).toNat by omega] at h1
  obtain ⟨tt, ht, hV⟩ := hO
  obtain ⟨d, hd⟩ := hv_V_d (n - (k + 1)).toNat o tt 1 hV
  rw [h1] at hd
  obtain ⟨d0, g0, g1⟩ := hv_hg_s hd.2.2
  have hvt := hd.1 t (List.mem_cons_self ..)
  have hl := hv_ev_l (F := F) _ d0 (fun x hx => hd.1 x (List.mem_cons_of_mem t hx)) g0
  have hc := hv_hg_ct _ d0 g0
  have hc2 : hv_ct (o.drop (n - k).toNat) ≤ hv_ct (t :: o.drop (n - k).toNat) := hv_ct_t
  have hc3 := hd.2.1
  refine ⟨t, _, rfl, hvt, by rw [ev]; exact h2, by rw [h1]; rfl, by omega, fun z => ?_⟩
  rw [hl]
  unfold hv_hs at g1
  rw [if_pos z] at g1
  have h22 : t.2.1 ≤ 2 := by
    rcases hvt with ⟨_, a⟩ | ⟨a, _⟩
    · exact a
    · exfalso; omega
  by_cases y : t.2.1 = 2
  · rw [if_pos y] at g1
    by_cases w : 1 ≤ d0
    · exact Or.inl ⟨y, w⟩
    · rw [if_neg w] at g1; exact nomatch g1
  · rw [if_neg y] at g1
    by_cases w : 2 ≤ d0
    · exact Or.inr ⟨by omega, w⟩
    · rw [if_neg w] at g1; exact nomatch g1
theorem hv_len1 : ∀ {s : List Bool}, 1 ≤ s.length → ∃ a r, s = a :: r
  | [], h => absurd h (by show ¬ 1 ≤ 0; omega)
  | a :: r, _ => ⟨a, r, rfl⟩
theorem hv_len2 : ∀ {s : List Bool}, 2 ≤ s.length → ∃ a b r, s = a :: b :: r
  | [], h => absurd h (by show ¬ 2 ≤ 0; omega)
  | [_], h => absurd h (by show ¬ 2 ≤ 1; omega)
  | a :: b :: r, _ => ⟨a, b, r, rfl⟩
theorem hv_sp0 {F : Nat → Int} {t : hv_tok} {s : List Bool} (h : t.1 = 0) : hv_sp F t s = hv_so t.2.1 s := if_pos h
theorem hv_sp1 {F : Nat → Int} {t : hv_tok} {s : List Bool} (h : 1 ≤ t.1) : hv_sp F t s = hv_hd F t :: s := if_neg (by omega)
theorem hv_d0 {F : Nat → Int} {e : hv_tok → Int} {f : Nat → Int32} {o : List hv_tok} {n z : Int} (hls : hv_ls f n.toNat = o.map e) (hz : z = 0) : hv_ev F (o.drop (n - z).toNat) = [] := by
  have hl := congrArg List.length hls
  rw [hv_ls_len, List.length_map] at hl
  rw [List.drop_eq_nil_of_le (by omega)]; rfl
theorem hv_nb {b : Bool} {p : Prop} (h : b = true ↔ p) (n : ¬ p) : b = false := by
  cases b with
  | false => rfl
  | true => exact absurd (h.mp rfl) n
theorem hv_hd_e {F G : Nat → Int} {t : hv_tok} (hv : hv_vt t) (h1 : 1 ≤ t.1) (h : ∀ k, k < 8 → F k = G k) : hv_hd F t = hv_hd G t := by
  obtain ⟨a, g, v⟩ := t
  have hb : (1 ≤ a ∧ a ≤ 8) ∧ 0 ≤ v ∧ v ≤ 10007 := by
    rcases hv with ⟨x, _⟩ | ⟨x, y, _, z, w⟩
    · exfalso; have h1' : 1 ≤ a := h1; have x' : a = 0 := x; omega
    · exact ⟨⟨x, y⟩, z, w⟩
  have e1 : F (a - 1).toNat = G (a - 1).toNat := h _ (by omega)
  have e2 : (if 10000 ≤ v then F (v - 10000).toNat else v) = (if 10000 ≤ v then G (v - 10000).toNat else v) := by
    by_cases z : 10000 ≤ v
    · rw [if_pos z, if_pos z]; exact h _ (by omega)
    · rw [if_neg z, if_neg z]
  unfold hv_hd
  dsimp only
  rw [e1, e2]
theorem hv_ev_e {F G : Nat → Int} (h : ∀ k, k < 8 → F k = G k) : ∀ (o : List hv_tok), (∀ x ∈ o, hv_vt x) → hv_ev F o = hv_ev G o
  | [], _ => rfl
  | t :: o, hv => by
    have ih := hv_ev_e h o (fun x hx => hv x (List.mem_cons_of_mem t hx))
    show hv_sp F t (hv_ev F o) = hv_sp G t (hv_ev G o)
    rw [ih]
    unfold hv_sp
    by_cases z : t.1 = 0
    · rw [if_pos z, if_pos z]
    · rw [if_neg z, if_neg z]
      have hvt := hv t (List.mem_cons_self ..)
      rw [hv_hd_e hvt (by rcases hvt with ⟨x, _⟩ | ⟨x, _⟩ <;> omega) h]
theorem hv_pr_e {F G : Nat → Int} {o : List hv_tok} (hO : hv_OK o) (h : ∀ k, k < 8 → F k = G k) : hv_pr F o = hv_pr G o := by
  obtain ⟨t, _, hV⟩ := hO
  unfold hv_pr
  rw [hv_ev_e h o hV.1]
/-- the class's steps -/
theorem hv_cN {F : Nat → Int} {t : hv_tok} {s : List Bool} {x x1 : Int32} (h : hv_bt x s) (t1 : t.1 = 0) (t2 : t.2.1 = 2) (hl : 1 ≤ s.length) (e : x1 = x ^^^ 1) : hv_bt x1 (hv_sp F t s) := by
  obtain ⟨a, r, rfl⟩ := hv_len1 hl
  rw [hv_sp0 t1, t2]
  exact hv_bt_not h e
theorem hv_topb {x a b1 b : Int32} {p q : Bool} {r : List Bool} (h : hv_bt x (p :: q :: r)) (ea : a = x &&& 1) (e1 : b1 = x >>> ((1 : Int32) &&& 31)) (eb : b = b1 &&& 1) : ((a.toInt = 1 ∧ p = true) ∨ (a.toInt = 0 ∧ p = false)) ∧ ((b.toInt = 1 ∧ q = true) ∨ (b.toInt = 0 ∧ q = false)) := by
  have h0 : x.toBitVec.getLsbD 0 = p := h 0 (by simp)
  have h1 : x.toBitVec.getLsbD 1 = q := h 1 (by simp)
  have h2 : b1.toBitVec.getLsbD 0 = q := by rw [hv_sr1 e1 0 (by decide)]; exact h1
  have g0 := hv_b1 ea
  have g1 := hv_b1 eb
  rw [h0] at g0
  rw [h2] at g1
  exact ⟨g0, g1⟩
theorem hv_cA {F : Nat → Int} {t : hv_tok} {s : List Bool} {x a b1 b y z v w : Int32} (h : hv_bt x s) (t1 : t.1 = 0) (t2 : t.2.1 = 1) (hl : 2 ≤ s.length) (hs : s.length ≤ 20) (ea : a = x &&& 1) (e1 : b1 = x >>> ((1 : Int32) &&& 31)) (eb : b = b1 &&& 1) (ey : y = x >>> ((2 : Int32) &&& 31)) (ez : z = y <<< ((1 : Int32) &&& 31)) (ev : v = a &&& b) (ew : w = z ||| v) : hv_bt w (hv_sp F t s) := by
  obtain ⟨p, q, r, rfl⟩ := hv_len2 hl
  rw [hv_sp0 t1, t2]
  obtain ⟨g0, g1⟩ := hv_topb h ea e1 eb
  have k00 : ((0 : Int32) &&& 0) = 0 := by decide
  have k01 : ((0 : Int32) &&& 1) = 0 := by decide
  have k10 : ((1 : Int32) &&& 0) = 0 := by decide
  have k11 : ((1 : Int32) &&& 1) = 1 := by decide
  have c : (v.toInt = 0 ∨ v.toInt = 1) ∧ (q && p) = decide (v.toInt = 1) := by
    rcases g0 with ⟨a0, rfl⟩ | ⟨a0, rfl⟩ <;> rcases g1 with ⟨b0, rfl⟩ | ⟨b0, rfl⟩
    · obtain rfl : a = 1 := Int32.toInt_inj.mp a0
      obtain rfl : b = 1 := Int32.toInt_inj.mp b0
      rw [ev, k11]; decide
    · obtain rfl : a = 1 := Int32.toInt_inj.mp a0
      obtain rfl : b = 0 := Int32.toInt_inj.mp b0
      rw [ev, k10]; decide
    · obtain rfl : a = 0 := Int32.toInt_inj.mp a0
      obtain rfl : b = 1 := Int32.toInt_inj.mp b0
      rw [ev, k01]; decide
    · obtain rfl : a = 0 := Int32.toInt_inj.mp a0
      obtain rfl : b = 0 := Int32.toInt_inj.mp b0
      rw [ev, k00]; decide
  exact hv_bt_two (s := r) h (by simp at hs; omega) ey ez ew c.1 c.2
theorem hv_cO {F : Nat → Int} {t : hv_tok} {s : List Bool} {x a b1 b y z v w : Int32} (h : hv_bt x s) (t1 : t.1 = 0) (t2 : t.2.1 = 0) (hl : 2 ≤ s.length) (hs : s.length ≤ 20) (ea : a = x &&& 1) (e1 : b1 = x >>> ((1 : Int32) &&& 31)) (eb : b = b1 &&& 1) (ey : y = x >>> ((2 : Int32) &&& 31)) (ez : z = y <<< ((1 : Int32) &&& 31)) (ev : v = z ||| a) (ew : w = v ||| b) : hv_bt w (hv_sp F t s) := by
  obtain ⟨p, q, r, rfl⟩ := hv_len2 hl
  rw [hv_sp0 t1, t2]
  obtain ⟨g0, g1⟩ := hv_topb h ea e1 eb
  have ew2 : w = z ||| (a ||| b) := by rw [ew, ev, Int32.or_assoc]
  have k00 : ((0 : Int32) ||| 0) = 0 := by decide
  have k01 : ((0 : Int32) ||| 1) = 1 := by decide
  have k10 : ((1 : Int32) ||| 0) = 1 := by decide
  have k11 : ((1 : Int32) ||| 1) = 1 := by decide
  have c : ((a ||| b).toInt = 0 ∨ (a ||| b).toInt = 1) ∧ (q || p) = decide ((a ||| b).toInt = 1) := by
    rcases g0 with ⟨a0, rfl⟩ | ⟨a0, rfl⟩ <;> rcases g1 with ⟨b0, rfl⟩ | ⟨b0, rfl⟩
    · obtain rfl : a = 1 := Int32.toInt_inj.mp a0
      obtain rfl : b = 1 := Int32.toInt_inj.mp b0
      rw [k11]; decide
    · obtain rfl : a = 1 := Int32.toInt_inj.mp a0
      obtain rfl : b = 0 := Int32.toInt_inj.mp b0
      rw [k10]; decide
    · obtain rfl : a = 0 := Int32.toInt_inj.mp a0
      obtain rfl : b = 1 := Int32.toInt_inj.mp b0
      rw [k01]; decide
    · obtain rfl : a = 0 := Int32.toInt_inj.mp a0
      obtain rfl : b = 0 := Int32.toInt_inj.mp b0
      rw [k00]; decide
  exact hv_bt_two (s := r) h (by simp at hs; omega) ey ez ew2 c.1 c.2
theorem hv_cP {F : Nat → Int} {t : hv_tok} {s : List Bool} {x y v w : Int32} (h : hv_bt x s) (t1 : 1 ≤ t.1) (hs : s.length ≤ 20) (hv : (v.toInt = 1 ∧ hv_hd F t = true) ∨ (v.toInt = 0 ∧ hv_hd F t = false)) (e : y = x <<< ((1 : Int32) &&& 31)) (e2 : w = y ||| v) : hv_bt w (hv_sp F t s) := by
  rw [hv_sp1 t1]
  rcases hv with ⟨a, b⟩ | ⟨a, b⟩
  · have := hv_bt_push h (by omega) e e2 (Or.inr a)
    rw [b, show decide (v.toInt = 1) = true from decide_eq_true a] at *
    exact this
  · have := hv_bt_push h (by omega) e e2 (Or.inl a)
    rw [b, show decide (v.toInt = 1) = false from decide_eq_false (by omega)] at *
    exact this
theorem hv_cE {F : Nat → Int} {o : List hv_tok} {x y : Int32} (hO : hv_OK o) (h : hv_bt x (hv_ev F o)) (e : y = x &&& 1) : (y.toInt = 1 ∧ hv_pr F o = true) ∨ (y.toInt = 0 ∧ hv_pr F o = false) := by
  obtain ⟨tt, ht, hV⟩ := hO
  have hl := hv_ev_l (F := F) o 1 hV.1 hV.2.2
  obtain ⟨a, r, hr⟩ := hv_len1 (s := hv_ev F o) (by omega)
  have g := hv_b1 e
  have h0 := h 0 (by omega)
  rw [h0] at g
  exact g
/-- the reference's steps -/
theorem hv_rP {F : Nat → Int} {t : hv_tok} {s : List Bool} {f f1 : Nat → Int32} {n n1 : Int} {ix : Nat} {v : Int32} (h : hv_BS f n.toNat s) (t1 : 1 ≤ t.1) (h0 : 0 ≤ n) (hv : (v.toInt = 1 ∧ hv_hd F t = true) ∨ (v.toInt = 0 ∧ hv_hd F t = false)) (ei : (ix : Int) = n) (e : f1 = hx_up f ix v) (e1 : n1 = n + 1) : hv_BS f1 n1.toNat (hv_sp F t s) := by
  rw [hv_sp1 t1, show n1.toNat = n.toNat + 1 by omega]
  refine hv_BS_w h (by rw [e, show ix = n.toNat by omega]) ?_
  rcases hv with ⟨a, b⟩ | ⟨a, b⟩
  · rw [a, b]; rfl
  · rw [a, b]; rfl
theorem hv_rN {F : Nat → Int} {t : hv_tok} {s : List Bool} {f f1 : Nat → Int32} {n : Int} {ix : Nat} {v u : Int32} (h : hv_BS f n.toNat s) (t1 : t.1 = 0) (t2 : t.2.1 = 2) (hl : 1 ≤ s.length) (ei : (ix : Int) = n - 1) (eu : u = f ix) (hv : (u.toInt ≠ 0 ∧ v.toInt = 0) ∨ (u.toInt = 0 ∧ v.toInt = 1)) (e : f1 = hx_up f ix v) : hv_BS f1 n.toNat (hv_sp F t s) := by
  have hn := hv_BS_l h
  obtain ⟨a, r, rfl⟩ := hv_len1 hl
  rw [hv_sp0 t1, t2]
  rw [show n.toNat = ix + 1 by omega] at h ⊢
  obtain ⟨g0, g1⟩ := hv_BS_r h
  refine hv_BS_w g1 e ?_
  rw [← eu] at g0
  cases a with
  | true => have : hv_bi true = 1 := rfl; show v.toInt = hv_bi false; have : hv_bi false = 0 := rfl; omega
  | false => have : hv_bi true = 1 := rfl; show v.toInt = hv_bi true; have : hv_bi false = 0 := rfl; omega
theorem hv_rB {F : Nat → Int} {t : hv_tok} {s : List Bool} {f f1 : Nat → Int32} {n n1 : Int} {ix iy : Nat} {v u w : Int32} (h : hv_BS f n.toNat s) (t1 : t.1 = 0) (hl : 2 ≤ s.length) (ei : (ix : Int) = n - 2) (ey : (iy : Int) = n - 1) (eu : u = f ix) (ew : w = f iy) (hv : (t.2.1 = 1 ∧ ((u.toInt ≠ 0 ∧ w.toInt ≠ 0 ∧ v.toInt = 1) ∨ ((u.toInt = 0 ∨ w.toInt = 0) ∧ v.toInt = 0))) ∨ (t.2.1 = 0 ∧ (((u.toInt ≠ 0 ∨ w.toInt ≠ 0) ∧ v.toInt = 1) ∨ (u.toInt = 0 ∧ w.toInt = 0 ∧ v.toInt = 0)))) (e : f1 = hx_up f ix v) (e1 : n1 = n - 1) : hv_BS f1 n1.toNat (hv_sp F t s) := by
  have hn := hv_BS_l h
  obtain ⟨a, b, r, rfl⟩ := hv_len2 hl
  have hn2 : r.length + 1 + 1 = n.toNat := hn
  rw [hv_sp0 t1]
  rw [show n.toNat = (ix + 1) + 1 by omega] at h
  rw [show n1.toNat = ix + 1 by omega]
  obtain ⟨g0, g1⟩ := hv_BS_r h
  obtain ⟨g2, g3⟩ := hv_BS_r g1
  rw [show ix + 1 = iy by omega, ← ew] at g0
  rw [← eu] at g2
  have b1 : hv_bi true = 1 := rfl
  have b0 : hv_bi false = 0 := rfl
  rcases hv with ⟨z, hv⟩ | ⟨z, hv⟩
  · rw [z]
    refine hv_BS_w (c := (b && a)) g3 e ?_
    cases a <;> cases b
    · show v.toInt = hv_bi false; omega
    · show v.toInt = hv_bi false; omega
    · show v.toInt = hv_bi false; omega
    · show v.toInt = hv_bi true; omega
  · rw [z]
    refine hv_BS_w (c := (b || a)) g3 e ?_
    cases a <;> cases b
    · show v.toInt = hv_bi false; omega
    · show v.toInt = hv_bi true; omega
    · show v.toInt = hv_bi true; omega
    · show v.toInt = hv_bi true; omega
theorem hv_rE {F : Nat → Int} {o : List hv_tok} {f : Nat → Int32} {n : Int} {v : Int32} {ix : Nat} (hO : hv_OK o) (h : hv_BS f n.toNat (hv_ev F o)) (ei : ix = 0) (ev : v = f ix) : (v.toInt = 1 ∧ hv_pr F o = true) ∨ (v.toInt = 0 ∧ hv_pr F o = false) := by
  obtain ⟨tt, ht, hV⟩ := hO
  have hl := hv_ev_l (F := F) o 1 hV.1 hV.2.2
  have hn := hv_BS_l h
  unfold hv_pr
  revert h hl hn
  generalize hv_ev F o = s
  intro h hl hn
  match s, hl with
  | [a], _ =>
    rw [show n.toNat = 0 + 1 by simpa using hn.symm] at h
    obtain ⟨g0, _⟩ := hv_BS_r h
    subst ei
    rw [← ev] at g0
    cases a with
    | true => exact Or.inl ⟨g0, rfl⟩
    | false => exact Or.inr ⟨g0, rfl⟩
theorem hv_rf {tb : List hx_d} {L : List Nat} {h : hx_h} {a t ci k u : Nat} {fs : List hx_f} (hT : hx_T tb L h) (g : hx_g L h a t) (hd : tb[t]? = some (.inl (ci, fs))) (hf : fs[k]? = some (.inr (true, [u]))) : ∃ q, h.2.2 a k = some q ∧ hx_g L h q u := by
  obtain ⟨h1, h2⟩ := hT.gr g hd hf
  cases hq : h.2.2 a k with
  | none => exact absurd hq (h1 rfl)
  | some q =>
    obtain ⟨q1, q2⟩ := h2 q hq
    exact ⟨q, rfl, q1, by simpa using q2⟩
theorem hv_bitS {s x : Int} (hx : x % 8 = s) : s % 2 = x % 2 ∧ s / 2 % 2 = x / 2 % 2 ∧ s / 4 % 2 = x / 4 % 2 := by omega
theorem hv_hdA {P : Prop} {l r s x y : Int} (M : ((l < r ∧ s % 2 = 1) ∨ (l = r ∧ s / 2 % 2 = 1) ∨ (r < l ∧ s / 4 % 2 = 1)) ↔ P) (h : l < r) (hs : s % 2 = x % 2 ∧ s / 2 % 2 = x / 2 % 2 ∧ s / 4 % 2 = x / 4 % 2) (hb : y ≠ 0 ↔ x % 2 = 1) : P ↔ y ≠ 0 := by
  rw [← M, hb]; omega
theorem hv_hdB {P : Prop} {l r s x y : Int} (M : ((l < r ∧ s % 2 = 1) ∨ (l = r ∧ s / 2 % 2 = 1) ∨ (r < l ∧ s / 4 % 2 = 1)) ↔ P) (h : l = r) (hs : s % 2 = x % 2 ∧ s / 2 % 2 = x / 2 % 2 ∧ s / 4 % 2 = x / 4 % 2) (hb : y ≠ 0 ↔ x / 2 % 2 = 1) : P ↔ y ≠ 0 := by
  rw [← M, hb]; omega
theorem hv_hdC {P : Prop} {l r s x y : Int} (M : ((l < r ∧ s % 2 = 1) ∨ (l = r ∧ s / 2 % 2 = 1) ∨ (r < l ∧ s / 4 % 2 = 1)) ↔ P) (h : r < l) (hs : s % 2 = x % 2 ∧ s / 2 % 2 = x / 2 % 2 ∧ s / 4 % 2 = x / 4 % 2) (hb : y ≠ 0 ↔ x / 4 % 2 = 1) : P ↔ y ≠ 0 := by
  rw [← M, hb]; omega
