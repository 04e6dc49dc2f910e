/-! THE WALK, on both sides: what the table says, and the way along it -/
def hx_cg (g : Nat → Int32) (n i : Int) : Int := if i = n then 50 else (g i.toNat).toInt
def hx_fg (gx gy : Nat → Int32) (n i k : Int) : Int := hx_ab (hx_cg gx n i) (hx_cg gx n k) + hx_ab (hx_cg gy n i) (hx_cg gy n k)
def hx_mn (F H : Int → Int → Int) (n l i V : Int) : Prop := (l = 0 → V = F i n) ∧ (l ≠ 0 → ∃ k : Int, 0 ≤ k ∧ k < n ∧ hx_bt l k = true ∧ V = F i k + H (l - hx_p2 k) k) ∧ ∀ k : Int, 0 ≤ k → k < n → hx_bt l k = true → V ≤ F i k + H (l - hx_p2 k) k
def hx_WT (F H : Int → Int → Int) (n : Int) : Prop := ∀ l i : Int, 0 ≤ l → l < 2 ^ n.toNat → 0 ≤ i → i < n → hx_bt l i = false → hx_mn F H n l i (H l i)
def hx_sp (F H : Int → Int → Int) (n l a d k l1 d1 : Int) : Prop := 0 ≤ k ∧ k < n ∧ hx_bt l k = true ∧ F a k + H (l - hx_p2 k) k = d ∧ (∀ k' : Int, 0 ≤ k' → k' < k → hx_bt l k' = true → F a k' + H (l - hx_p2 k') k' ≠ d) ∧ l1 = l - hx_p2 k ∧ d1 = H l1 k
def hx_wj (F H : Int → Int → Int) (n V : Int) (lf w : Nat → Int32) (j l a d : Int) : Prop := ∃ L A D : Nat → Int, L 0 = 2 ^ n.toNat - 1 ∧ A 0 = n ∧ D 0 = V ∧ L j.toNat = l ∧ A j.toNat = a ∧ D j.toNat = d ∧ ∀ m : Nat, (m : Int) < j → hx_sp F H n (L m) (A m) (D m) (A (m + 1)) (L (m + 1)) (D (m + 1)) ∧ w m = lf (A (m + 1)).toNat
def hx_WA (F : Int → Int → Int) (n : Int) (lf w : Nat → Int32) (r : Int) : Prop := ∃ H : Int → Int → Int, hx_WT F H n ∧ hx_mn F H n (2 ^ n.toNat - 1) n r ∧ ∃ l a d : Int, hx_wj F H n r lf w n l a d
def hx_btxk (l k : Nat) : Bool := !hx_bt l k || !hx_bt (l - hx_p2 k) k
theorem hx_btxb : (List.range 256).all (fun l => (List.range 8).all (fun k => hx_btxk l k)) = true := by decide +kernel
theorem hx_btx {l k : Int} (h0 : 0 ≤ l) (h1 : l ≤ 255) (k0 : 0 ≤ k) (k1 : k < 8) (hb : hx_bt l k = true) : hx_bt (l - hx_p2 k) k = false := by
  have h := List.all_eq_true.mp (List.all_eq_true.mp hx_btxb l.toNat (List.mem_range.mpr (by omega))) k.toNat (List.mem_range.mpr (by omega))
  have e : ((l.toNat : Nat) : Int) = l := by omega
  have e2 : ((k.toNat : Nat) : Int) = k := by omega
  simp only [hx_btxk, Bool.or_eq_true, Bool.not_eq_true', e, e2] at h
  rcases h with h | h
  · rw [hb] at h; cases h
  · exact h
theorem hx_p2n {n : Int} (n0 : 0 ≤ n) (n1 : n ≤ 8) : (1 : Int) ≤ 2 ^ n.toNat ∧ (2 : Int) ^ n.toNat ≤ 256 := by
  have h : (List.range 9).all (fun n => decide ((1 : Int) ≤ 2 ^ n) && decide ((2 : Int) ^ n ≤ 256)) = true := by decide +kernel
  have h := List.all_eq_true.mp h n.toNat (List.mem_range.mpr (by omega))
  simpa using h
theorem hx_sub_d {n l k : Int} (n0 : 0 ≤ n) (n1 : n ≤ 8) (h0 : 0 ≤ l) (h1 : l < 2 ^ n.toNat) (k0 : 0 ≤ k) (k1 : k < n) (hb : hx_bt l k = true) : 0 ≤ l - hx_p2 k ∧ l - hx_p2 k < l ∧ l - hx_p2 k < 2 ^ n.toNat ∧ hx_bt (l - hx_p2 k) k = false := by
  have hn := hx_p2n n0 n1
  have hp := hx_p2_le h0 (by omega) hb k0 (by omega)
  exact ⟨by omega, by omega, by omega, hx_btx h0 (by omega) k0 (by omega) hb⟩
theorem hx_mn_u {F F' H H' : Int → Int → Int} {n l i V V' : Int} (n0 : 0 ≤ n) (hi0 : 0 ≤ i) (hi1 : i ≤ n) (hF : ∀ i k : Int, 0 ≤ i → i ≤ n → 0 ≤ k → k ≤ n → F i k = F' i k) (hH : ∀ k : Int, 0 ≤ k → k < n → hx_bt l k = true → H (l - hx_p2 k) k = H' (l - hx_p2 k) k) (p : hx_mn F H n l i V) (q : hx_mn F' H' n l i V') : V = V' := by
  by_cases z : l = 0
  · rw [p.1 z, q.1 z]; exact hF i n hi0 hi1 n0 (by omega)
  · obtain ⟨k, k0, k1, kb, e⟩ := p.2.1 z
    obtain ⟨k', k0', k1', kb', e'⟩ := q.2.1 z
    have a := q.2.2 k k0 k1 kb
    have b := p.2.2 k' k0' k1' kb'
    rw [← hF i k hi0 hi1 k0 (by omega), ← hH k k0 k1 kb] at a
    rw [hF i k' hi0 hi1 k0' (by omega), hH k' k0' k1' kb'] at b
    omega
theorem hx_WT_u {F F' H H' : Int → Int → Int} {n : Int} (n0 : 0 ≤ n) (n1 : n ≤ 8) (hF : ∀ i k : Int, 0 ≤ i → i ≤ n → 0 ≤ k → k ≤ n → F i k = F' i k) (p : hx_WT F H n) (q : hx_WT F' H' n) : ∀ (m : Nat) (l i : Int), l < m → 0 ≤ l → l < 2 ^ n.toNat → 0 ≤ i → i < n → hx_bt l i = false → H l i = H' l i := by
  intro m
  induction m with
  | zero => intro l i h0 h1; exfalso; omega
  | succ m ih =>
    intro l i h0 h1 h2 i0 i1 hb
    refine hx_mn_u n0 i0 (by omega) hF (fun k k0 k1 kb => ?_) (p l i h1 h2 i0 i1 hb) (q l i h1 h2 i0 i1 hb)
    have hd := hx_sub_d n0 n1 h1 h2 k0 k1 kb
    exact ih _ k (by omega) hd.1 hd.2.2.1 k0 k1 hd.2.2.2
theorem hx_wj_0 {F H : Int → Int → Int} {n V : Int} {lf w : Nat → Int32} : hx_wj F H n V lf w 0 (2 ^ n.toNat - 1) n V := ⟨fun _ => 2 ^ n.toNat - 1, fun _ => n, fun _ => V, rfl, rfl, rfl, rfl, rfl, rfl, fun m hm => by exfalso; omega⟩
theorem hx_wj_s {F H : Int → Int → Int} {n V : Int} {lf w w1 : Nat → Int32} {j l a d k l1 d1 j1 : Int} {jx : Nat} {v : Int32} (h : hx_wj F H n V lf w j l a d) (hj : 0 ≤ j) (s : hx_sp F H n l a d k l1 d1) (e : w1 = hx_up w jx v) (ej : (jx : Int) = j) (ev : v = lf k.toNat) (e1 : j1 = j + 1) : hx_wj F H n V lf w1 j1 l1 k d1 := by
  obtain ⟨L, A, D, a1, a2, a3, a4, a5, a6, a7⟩ := h
  subst e1; subst e; subst ev
  have ejx : j.toNat = jx := by omega
  have ej1 : (j + 1).toNat = jx + 1 := by omega
  rw [ejx] at a4 a5 a6
  refine ⟨fun m => if m = jx + 1 then l1 else L m, fun m => if m = jx + 1 then k else A m, fun m => if m = jx + 1 then d1 else D m, by simpa using a1, by simpa using a2, by simpa using a3, by simp [ej1], by simp [ej1], by simp [ej1], fun m hm => ?_⟩
  have hm1 : m ≠ jx + 1 := by omega
  by_cases z : m = jx
  · subst z
    simp only [if_neg hm1, if_true, hx_up_at]
    rw [a4, a5, a6]
    exact ⟨s, trivial⟩
  · have hm2 : m + 1 ≠ jx + 1 := by omega
    simp only [if_neg hm1, if_neg hm2, hx_up_ne z]
    exact a7 m (by omega)
theorem hx_sp_u {F F' H H' : Int → Int → Int} {n l a d k l1 d1 k' l1' d1' : Int} (n0 : 0 ≤ n) (n1 : n ≤ 8) (hF : ∀ i k : Int, 0 ≤ i → i ≤ n → 0 ≤ k → k ≤ n → F i k = F' i k) (hH : ∀ l i : Int, 0 ≤ l → l < 2 ^ n.toNat → 0 ≤ i → i < n → hx_bt l i = false → H l i = H' l i) (l0 : 0 ≤ l) (l2 : l < 2 ^ n.toNat) (a0 : 0 ≤ a) (a1 : a ≤ n) (p : hx_sp F H n l a d k l1 d1) (q : hx_sp F' H' n l a d k' l1' d1') : k = k' ∧ l1 = l1' ∧ d1 = d1' ∧ 0 ≤ l1 ∧ l1 < 2 ^ n.toNat ∧ 0 ≤ k ∧ k ≤ n := by
  obtain ⟨p1, p2, p3, p4, p5, p6, p7⟩ := p
  obtain ⟨q1, q2, q3, q4, q5, q6, q7⟩ := q
  have hk : k = k' := by
    rcases (show k < k' ∨ k = k' ∨ k' < k by omega) with z | z | z
    · exfalso
      have hd := hx_sub_d n0 n1 l0 l2 p1 p2 p3
      refine q5 k p1 z p3 ?_
      rw [← hF a k a0 a1 p1 (by omega), ← hH _ k hd.1 hd.2.2.1 p1 p2 hd.2.2.2]
      exact p4
    · exact z
    · exfalso
      have hd := hx_sub_d n0 n1 l0 l2 q1 q2 q3
      refine p5 k' q1 z q3 ?_
      rw [hF a k' a0 a1 q1 (by omega), hH _ k' hd.1 hd.2.2.1 q1 q2 hd.2.2.2]
      exact q4
  subst hk
  have hd := hx_sub_d n0 n1 l0 l2 p1 p2 p3
  subst p6; subst q6
  exact ⟨rfl, rfl, by rw [p7, q7]; exact hH _ k hd.1 hd.2.2.1 p1 p2 hd.2.2.2, hd.1, hd.2.2.1, p1, by omega⟩
theorem hx_WA_u {F F' : Int → Int → Int} {n r r' : Int} {lf w lf' w' : Nat → Int32} (n0 : 0 ≤ n) (n1 : n ≤ 8) (hF : ∀ i k : Int, 0 ≤ i → i ≤ n → 0 ≤ k → k ≤ n → F i k = F' i k) (hl : ∀ j : Nat, j < 8 → lf j = lf' j) (p : hx_WA F n lf w r) (q : hx_WA F' n lf' w' r') : r = r' ∧ ∀ m : Nat, (m : Int) < n → w m = w' m := by
  obtain ⟨H, p1, p2, _, _, _, L, A, D, a1, a2, a3, -, -, -, a7⟩ := p
  obtain ⟨H', q1, q2, _, _, _, L', A', D', b1, b2, b3, -, -, -, b7⟩ := q
  have hn := hx_p2n n0 n1
  have hH : ∀ l i : Int, 0 ≤ l → l < 2 ^ n.toNat → 0 ≤ i → i < n → hx_bt l i = false → H l i = H' l i := fun l i x0 x1 x2 x3 x4 => hx_WT_u n0 n1 hF p1 q1 (l.toNat + 1) l i (by omega) x0 x1 x2 x3 x4
  have hr : r = r' := hx_mn_u n0 n0 (by omega) hF (fun k k0 k1 kb => by
    have hd := hx_sub_d n0 n1 (l := 2 ^ n.toNat - 1) (by omega) (by omega) k0 k1 kb
    exact hH _ k hd.1 hd.2.2.1 k0 k1 hd.2.2.2) p2 q2
  refine ⟨hr, ?_⟩
  have key : ∀ m : Nat, (m : Int) ≤ n → L m = L' m ∧ A m = A' m ∧ D m = D' m ∧ 0 ≤ L m ∧ L m < 2 ^ n.toNat ∧ 0 ≤ A m ∧ A m ≤ n := by
    intro m
    induction m with
    | zero => intro _; rw [a1, b1, a2, b2, a3, b3]; exact ⟨rfl, rfl, hr, by omega, by omega, n0, by omega⟩
    | succ m ih =>
      intro hm
      obtain ⟨c1, c2, c3, c4, c5, c6, c7⟩ := ih (by omega)
      have s1 := (a7 m (by omega)).1
      have s2 := (b7 m (by omega)).1
      rw [← c1, ← c2, ← c3] at s2
      obtain ⟨d1, d2, d3, d4, d5, d6, d7⟩ := hx_sp_u n0 n1 hF hH c4 c5 c6 c7 s1 s2
      exact ⟨d2, d1, d3, d4, d5, d6, d7⟩
  intro m hm
  have k1 := key m (by omega)
  have k2 := key (m + 1) (by omega)
  have s1 := (a7 m hm).1
  rw [(a7 m hm).2, (b7 m hm).2, ← k2.2.1]
  have := s1.1; have := s1.2.1
  exact hl _ (by omega)
/-- the reference's table -/
def hx_HM (hm : Nat → Int32) (l i : Int) : Int := (hm (9 * l + i).toNat).toInt
theorem hx_D_mn {F : Int → Int → Int} {n l i : Int} {hm : Nat → Int32} (h : hx_D F n hm (2 ^ n.toNat) 0) (l0 : 0 ≤ l) (l1 : l < 2 ^ n.toNat) (i0 : 0 ≤ i) (i1 : i ≤ n) : hx_mn F (hx_HM hm) n l i (hx_HM hm l i) := by
  have hd := h.1 l i l0 l1 i0 i1
  exact ⟨hd.2.2.2.1, hd.2.2.1, hd.2.2.2.2⟩
theorem hx_D_WT {F : Int → Int → Int} {n : Int} {hm : Nat → Int32} (h : hx_D F n hm (2 ^ n.toNat) 0) : hx_WT F (hx_HM hm) n := fun l i l0 l1 i0 i1 _ => hx_D_mn h l0 l1 i0 (by omega)
/-- the class's table -/
def hw_HC (n : Int) (a : Nat → Int32) (l i : Int) : Int := (a (8 * (2 ^ n.toNat - 1 - l) + i).toNat).toInt
def hw_mb (F H : Int → Int → Int) (n l i : Int) : Prop := 0 ≤ H l i ∧ H l i ≤ 198 * (l + 1) ∧ hx_mn F H n l i (H l i)
def hw_E (F H : Int → Int → Int) (n l i : Int) : Prop := (∀ l' i' : Int, 0 ≤ l' → l' < l → 0 ≤ i' → i' < n → hx_bt l' i' = false → hw_mb F H n l' i') ∧ ∀ i' : Int, 0 ≤ i' → i' < i → i' < n → hx_bt l i' = false → hw_mb F H n l i'
theorem hw_E0 {F H : Int → Int → Int} {n : Int} : hw_E F H n 0 0 := ⟨fun l' i' h0 h1 => absurd h1 (by omega), fun i' h0 h1 => absurd h1 (by omega)⟩
theorem hw_E_row {F H : Int → Int → Int} {n l l1 i : Int} (h : hw_E F H n l i) (hi : n ≤ i) (e : l1 = l + 1) : hw_E F H n l1 0 := by
  subst e
  refine ⟨fun l' i' h0 h1 h2 h3 hb => ?_, fun i' h0 h1 => absurd h1 (by omega)⟩
  by_cases z : l' = l
  · subst z; exact h.2 i' h2 (by omega) h3 hb
  · exact h.1 l' i' h0 (by omega) h2 h3 hb
theorem hw_E_skip {F H : Int → Int → Int} {n l i i1 : Int} (h : hw_E F H n l i) (hb : hx_bt l i = true) (e : i1 = i + 1) : hw_E F H n l i1 := by
  subst e
  refine ⟨h.1, fun i' h0 h1 h2 h3 => ?_⟩
  by_cases z : i' = i
  · subst z; rw [hb] at h3; cases h3
  · exact h.2 i' h0 (by omega) h2 h3
theorem hw_mb_c {F H H1 : Int → Int → Int} {n l i : Int} (n0 : 0 ≤ n) (n1 : n ≤ 8) (l0 : 0 ≤ l) (l1 : l < 2 ^ n.toNat) (e : H1 l i = H l i) (hH : ∀ l' i' : Int, 0 ≤ l' → l' < l → 0 ≤ i' → i' < n → H1 l' i' = H l' i') (h : hw_mb F H n l i) : hw_mb F H1 n l i := by
  obtain ⟨a, b, c, d, f⟩ := h
  refine ⟨by rw [e]; exact a, by rw [e]; exact b, by rw [e]; exact c, fun z => ?_, fun k k0 k1 kb => ?_⟩
  · obtain ⟨k, k0, k1, kb, ke⟩ := d z
    have hd := hx_sub_d n0 n1 l0 l1 k0 k1 kb
    exact ⟨k, k0, k1, kb, by rw [e, hH _ k hd.1 hd.2.1 k0 k1]; exact ke⟩
  · have hd := hx_sub_d n0 n1 l0 l1 k0 k1 kb
    rw [e, hH _ k hd.1 hd.2.1 k0 k1]; exact f k k0 k1 kb
theorem hw_E_put {F : Int → Int → Int} {n l i i1 V : Int} {a a1 : Nat → Int32} {ix : Nat} {v : Int32} (h : hw_E F (hw_HC n a) n l i) (n0 : 0 ≤ n) (n1 : n ≤ 8) (l0 : 0 ≤ l) (l1 : l < 2 ^ n.toNat) (i0 : 0 ≤ i) (i2 : i < n) (hix : (ix : Int) = 8 * (2 ^ n.toNat - 1 - l) + i) (hv : v.toInt = V) (e : a1 = hx_up a ix v) (e1 : i1 = i + 1) (V0 : 0 ≤ V) (V1 : V ≤ 198 * (l + 1)) (hm : hx_mn F (hw_HC n a) n l i V) : hw_E F (hw_HC n a1) n l i1 := by
  subst e; subst e1
  have hne : ∀ l' i' : Int, 0 ≤ l' → l' < 2 ^ n.toNat → 0 ≤ i' → i' < n → (l' ≠ l ∨ i' ≠ i) → hw_HC n (hx_up a ix v) l' i' = hw_HC n a l' i' := by
    intro l' i' x0 x1 x2 x3 x4
    unfold hw_HC
    rw [hx_up_ne (by omega)]
  have hat : hw_HC n (hx_up a ix v) l i = V := by
    unfold hw_HC
    rw [show (8 * (2 ^ n.toNat - 1 - l) + i).toNat = ix by omega, hx_up_at, hv]
  refine ⟨fun l' i' h0 h1 h2 h3 hb => hw_mb_c n0 n1 h0 (by omega) (hne l' i' h0 (by omega) h2 h3 (Or.inl (by omega))) (fun l2 i2' x0 x1 x2 x3 => hne l2 i2' x0 (by omega) x2 x3 (Or.inl (by omega))) (h.1 l' i' h0 h1 h2 h3 hb), fun i' h0 h1 h2 hb => ?_⟩
  by_cases z : i' = i
  · subst z
    have c : hx_mn F (hw_HC n (hx_up a ix v)) n l i' V := by
      refine ⟨hm.1, fun y => ?_, fun k k0 k1 kb => ?_⟩
      · obtain ⟨k, k0, k1, kb, ke⟩ := hm.2.1 y
        have hd := hx_sub_d n0 n1 l0 l1 k0 k1 kb
        exact ⟨k, k0, k1, kb, by rw [hne _ k hd.1 hd.2.2.1 k0 k1 (Or.inl (by omega))]; exact ke⟩
      · have hd := hx_sub_d n0 n1 l0 l1 k0 k1 kb
        rw [hne _ k hd.1 hd.2.2.1 k0 k1 (Or.inl (by omega))]; exact hm.2.2 k k0 k1 kb
    exact ⟨by rw [hat]; exact V0, by rw [hat]; exact V1, by rw [hat]; exact c⟩
  · exact hw_mb_c n0 n1 l0 l1 (hne l i' l0 l1 h0 h2 (Or.inr z)) (fun l2 i2' x0 x1 x2 x3 => hne l2 i2' x0 (by omega) x2 x3 (Or.inl (by omega))) (h.2 i' h0 (by omega) h2 hb)
theorem hx_btfb : (List.range 9).all (fun n => (List.range n).all (fun k => hx_bt (2 ^ n - 1 : Int) k)) = true := by decide +kernel
theorem hx_bt_full {n k : Int} (n0 : 0 ≤ n) (n1 : n ≤ 8) (k0 : 0 ≤ k) (k1 : k < n) : hx_bt (2 ^ n.toNat - 1) k = true := by
  have h := List.all_eq_true.mp (List.all_eq_true.mp hx_btfb n.toNat (List.mem_range.mpr (by omega))) k.toNat (List.mem_range.mpr (by omega))
  have e : ((k.toNat : Nat) : Int) = k := by omega
  rw [e] at h; exact h
theorem hw_E_WT {F H : Int → Int → Int} {n : Int} (n0 : 0 ≤ n) (n1 : n ≤ 8) (h : hw_E F H n (2 ^ n.toNat - 1) 0) : hx_WT F H n := fun l i l0 l1 i0 i1 hb => by
  by_cases z : l = 2 ^ n.toNat - 1
  · subst z; rw [hx_bt_full n0 n1 i0 i1] at hb; cases hb
  · exact (h.1 l i l0 (by omega) i0 i1 hb).2.2
/-- bits of those who have been, as the class has them -/
def hx_btck (n b k : Nat) : Bool := !(decide (b < 2 ^ n)) || (hx_bt ((2 ^ n - 1 : Int) - b) k == !hx_bt b k)
theorem hx_btcb : (List.range 9).all (fun n => (List.range 256).all (fun b => (List.range n).all (fun k => hx_btck n b k))) = true := by decide +kernel
theorem hx_btc {n b k : Int} (n0 : 0 ≤ n) (n1 : n ≤ 8) (b0 : 0 ≤ b) (b1 : b < 2 ^ n.toNat) (k0 : 0 ≤ k) (k1 : k < n) : hx_bt (2 ^ n.toNat - 1 - b) k = !hx_bt b k := by
  have hn := hx_p2n n0 n1
  have h := List.all_eq_true.mp (List.all_eq_true.mp (List.all_eq_true.mp hx_btcb n.toNat (List.mem_range.mpr (by omega))) b.toNat (List.mem_range.mpr (by omega))) k.toNat (List.mem_range.mpr (by omega))
  have e : ((b.toNat : Nat) : Int) = b := by omega
  have e2 : ((k.toNat : Nat) : Int) = k := by omega
  have hb : b.toNat < 2 ^ n.toNat := by
    have h4 : ((2 ^ n.toNat : Nat) : Int) = 2 ^ n.toNat := by simp
    omega
  simp only [hx_btck, Bool.or_eq_true, Bool.not_eq_true', decide_eq_false_iff_not, e, e2, beq_iff_eq] at h
  rcases h with h | h
  · exact absurd hb h
  · exact h
def hx_orck (b k : Nat) : Bool := hx_bt b k || (decide (((Int32.ofNat b) ||| ((1 : Int32) <<< ((Int32.ofNat k) &&& 31))).toInt = b + hx_p2 k) && decide (1 ≤ hx_p2 k) && decide (b + hx_p2 k ≤ 255))
theorem hx_orcb : (List.range 256).all (fun b => (List.range 8).all (fun k => hx_orck b k)) = true := by decide +kernel
theorem hx_orc {B K : Int32} (h0 : 0 ≤ B.toInt) (h1 : B.toInt ≤ 255) (k0 : 0 ≤ K.toInt) (k1 : K.toInt ≤ 7) (hb : hx_bt B.toInt K.toInt = false) : (B ||| ((1 : Int32) <<< (K &&& 31))).toInt = B.toInt + hx_p2 K.toInt ∧ 1 ≤ hx_p2 K.toInt ∧ B.toInt + hx_p2 K.toInt ≤ 255 := by
  have eL : B = Int32.ofNat B.toInt.toNat := Int32.toInt_inj.mp (by rw [Int32.toInt_ofNat_of_lt (by omega)]; omega)
  have eK : K = Int32.ofNat K.toInt.toNat := Int32.toInt_inj.mp (by rw [Int32.toInt_ofNat_of_lt (by omega)]; omega)
  have h := List.all_eq_true.mp (List.all_eq_true.mp hx_orcb B.toInt.toNat (List.mem_range.mpr (by omega))) K.toInt.toNat (List.mem_range.mpr (by omega))
  have l1 : ((B.toInt.toNat : Nat) : Int) = B.toInt := by omega
  have l2 : ((K.toInt.toNat : Nat) : Int) = K.toInt := by omega
  simp only [hx_orck, Bool.and_eq_true, decide_eq_true_eq, Bool.or_eq_true, ← eL, ← eK, l1, l2] at h
  rcases h with h | h
  · rw [hb] at h; cases h
  · exact ⟨h.1.1, h.1.2, h.2⟩
/-- the least so far -/
def hw_bs (F H : Int → Int → Int) (l i k best : Int) : Prop := ((best = 1000000000 ∧ ∀ k' : Int, 0 ≤ k' → k' < k → hx_bt l k' = false) ∨ ∃ k' : Int, 0 ≤ k' ∧ k' < k ∧ hx_bt l k' = true ∧ best = F i k' + H (l - hx_p2 k') k' ∧ 0 ≤ best ∧ best ≤ 198 * (l + 1)) ∧ ∀ k' : Int, 0 ≤ k' → k' < k → hx_bt l k' = true → best ≤ F i k' + H (l - hx_p2 k') k'
theorem hw_bs_0 {F H : Int → Int → Int} {l i : Int} : hw_bs F H l i 0 1000000000 := ⟨Or.inl ⟨rfl, fun k' h0 h1 => absurd h1 (by omega)⟩, fun k' h0 h1 => absurd h1 (by omega)⟩
theorem hw_bs_no {F H : Int → Int → Int} {l i k k1 best : Int} (h : hw_bs F H l i k best) (hb : hx_bt l k = false) (e : k1 = k + 1) : hw_bs F H l i k1 best := by
  subst e
  refine ⟨?_, fun k' h0 h1 h2 => ?_⟩
  rotate_left
  · by_cases z : k' = k
    · subst z; rw [hb] at h2; cases h2
    · exact h.2 k' h0 (by omega) h2
  rcases h.1 with ⟨h1, h2⟩ | ⟨k', a, b, c⟩
  · refine Or.inl ⟨h1, fun k' h0 h1 => ?_⟩
    by_cases z : k' = k
    · subst z; exact hb
    · exact h2 k' h0 (by omega)
  · exact Or.inr ⟨k', a, by omega, c⟩
theorem hw_bs_yes {F H : Int → Int → Int} {l i k k1 best best1 cand : Int} (h : hw_bs F H l i k best) (hb : hx_bt l k = true) (l1 : l ≤ 255) (hk0 : 0 ≤ k) (hc : cand = F i k + H (l - hx_p2 k) k) (c0 : 0 ≤ cand) (c1 : cand ≤ 198 * (l + 1)) (hbest : (best1 = best ∧ best ≤ cand) ∨ (best1 = cand ∧ cand ≤ best)) (e : k1 = k + 1) : hw_bs F H l i k1 best1 := by
  subst e
  refine ⟨?_, fun k' h0 h1 h2 => ?_⟩
  rotate_left
  · by_cases z : k' = k
    · subst z; rw [← hc]; rcases hbest with ⟨e1, e2⟩ | ⟨e1, e2⟩ <;> omega
    · have := h.2 k' h0 (by omega) h2
      rcases hbest with ⟨e1, e2⟩ | ⟨e1, e2⟩ <;> omega
  rcases hbest with ⟨e1, e2⟩ | ⟨e1, e2⟩
  · rcases h.1 with ⟨h1, h2⟩ | ⟨k', a, b, c, d⟩
    · exfalso; omega
    · exact Or.inr ⟨k', a, by omega, c, by rw [e1]; exact d.1, by rw [e1]; exact d.2⟩
  · exact Or.inr ⟨k, hk0, by omega, hb, by rw [e1, hc], by omega, by omega⟩
theorem hw_bs_mn {F H : Int → Int → Int} {n l i best : Int} (n0 : 0 ≤ n) (n1 : n ≤ 8) (h : hw_bs F H l i n best) (l0 : 0 < l) (l1 : l < 2 ^ n.toNat) : hx_mn F H n l i best ∧ 0 ≤ best ∧ best ≤ 198 * (l + 1) := by
  have hn := hx_p2n n0 n1
  rcases h.1 with ⟨h1, h2⟩ | ⟨k', a, b, c, d, e, f⟩
  · obtain ⟨k, k0, k1, kb⟩ := hx_exbit n0 n1 l0 l1 (by omega)
    rw [h2 k k0 k1] at kb; cases kb
  · exact ⟨⟨fun z => by exfalso; omega, fun _ => ⟨k', a, b, c, d⟩, h.2⟩, e, f⟩
/-- a coordinate of those whom the objects of the array name -/
def hx_dc (h : hx_h) (q pd px : Nat) (g : Nat → Int32) (n : Int) : Prop := ∀ k : Nat, (k : Int) < n → ∀ c d, h.2.2 q k = some c → h.2.2 c pd = some d → h.2.1 d px = g k
theorem hx_D_le {F : Int → Int → Int} {n l l0 : Int} {hm : Nat → Int32} (h : hx_D F n hm l 0) (e : l0 ≤ l) : hx_D F n hm l0 0 := ⟨fun l' i' a b => h.1 l' i' a (by omega), fun i' a b => absurd b (by omega)⟩
theorem hx_wj_i {F H : Int → Int → Int} {n V j l a d : Int} {lf w : Nat → Int32} (ej : j = 0) (el : l = 2 ^ n.toNat - 1) (ea : a = n) (ed : d = V) : hx_wj F H n V lf w j l a d := by
  subst ej; subst el; subst ea; subst ed
  exact hx_wj_0
theorem hx_wj_j {F H : Int → Int → Int} {n V j j1 l a d : Int} {lf w : Nat → Int32} (h : hx_wj F H n V lf w j l a d) (e : j = j1) : hx_wj F H n V lf w j1 l a d := by
  subst e
  exact h
