/-! NETTED: room for the payments, what is left claim by claim -/
section HZM
variable {R : hz_P → Nat → Int} {now : Int32} {N : Nat}
theorem hz_rs_up {P Q : hz_P} {k : Nat} {s x c : Int32} {ix : Nat} {f f1 : Nat → Int32} (HR : hz_HR R now N) (hN : N ≤ 100) (h : ∀ c : Nat, (c : Int) < N → (f c).toInt = R P c) (hk : k < N) (h0 : 0 < s.toInt) (h1 : s.toInt ≤ R P k) (ei : ix = k) (hx : x.toInt = R P k - s.toInt) (hc : c.toInt = k) (e : f1 = hx_up f ix x) (eQ : Q = hz_ap P c s now) : ∀ c : Nat, (c : Int) < N → (f1 c).toInt = R Q c := by
  subst ei
  have ec : Int32.ofNat ix = c := Int32.toInt_inj.mp (by rw [Int32.toInt_ofNat_of_lt (by omega)]; omega)
  intro c' hc'
  rw [eQ, ← ec, HR P ix s hk h0 h1 c' (by omega), e]
  by_cases z : c' = ix
  · subst z; rw [hx_up_at, if_pos rfl, hx]
  · rw [hx_up_ne z, if_neg z]; exact h c' hc'
theorem hz_cn_m {r : Nat → Int} {mt : Nat → Bool} {s : Int} : ∀ a b : Nat, a ≤ b → (hz_cn r mt s a).2 ≤ (hz_cn r mt s b).2 := by
  intro a b
  induction b with
  | zero => intro h; have : a = 0 := by omega
            subst this; exact Int.le_refl _
  | succ b ih =>
    intro h
    by_cases z : a = b + 1
    · subst z; exact Int.le_refl _
    · have := ih (by omega)
      simp only [hz_cn]
      split
      · show _ ≤ _ + 1; omega
      · exact this
theorem hz_cn_0 {r : Nat → Int} {mt : Nat → Bool} {s : Int} (n : Nat) : 0 ≤ (hz_cn r mt s n).2 := hz_cn_m 0 n (Nat.zero_le _)
theorem hz_ne_m {r : Nat → Int} {ag bf : Nat → Int32} {g : Nat → Int} {n l : Int} {cn : Nat} : ∀ a b : Nat, a ≤ b → hz_ne r ag bf g n l cn a ≤ hz_ne r ag bf g n l cn b := by
  intro a b
  induction b with
  | zero => intro h; have : a = 0 := by omega
            subst this; exact Int.le_refl _
  | succ b ih =>
    intro h
    by_cases z : a = b + 1
    · subst z; exact Int.le_refl _
    · have := ih (by omega)
      have := hz_cn_0 (r := r) (mt := hz_mt ag bf (g b) (g (((b : Int) + 1) % n).toNat)) (s := l) cn
      simp only [hz_ne]; omega
theorem hz_other {ag bf : Nat → Int32} {n l : Int} {g : Nat → Int} {P : hz_P} (HR : hz_HR R now N) (HN : ∀ (P : hz_P) (c : Nat), 0 ≤ R P c) (HB : hz_RB R N P) (hl : 1 ≤ l) (hn : 2 ≤ n ∧ n ≤ 4) (hd : ∀ i j : Nat, (i : Int) < n → (j : Int) < n → i ≠ j → g i ≠ g j) (hV : ∀ i : Nat, (i : Int) < n → l ≤ hz_sm (R P) (hz_mt ag bf (g i) (g (((i : Int) + 1) % n).toNat)) N) {i : Nat} (hi : (i : Int) < n) : hz_RB R N (hz_tr R ag bf g n l now N P i) ∧ hz_cn (R (hz_tr R ag bf g n l now N P i)) (hz_mt ag bf (g i) (g (((i : Int) + 1) % n).toNat)) l N = hz_cn (R P) (hz_mt ag bf (g i) (g (((i : Int) + 1) % n).toNat)) l N ∧ ((hz_nP (hz_tr R ag bf g n l now N P i) : Nat) : Int) = hz_nP P + hz_ne (R P) ag bf g n l N i := by
  obtain ⟨a, b, d, _⟩ := hz_tr_1 (ag := ag) (bf := bf) HR HN HB hl hn hd hV i (by omega)
  refine ⟨fun c hc => ⟨HN _ _, Int.le_trans (a c hc) (HB c hc).2⟩, hz_cn_e N (fun c hc hm => b c hc (fun j hj => hz_mt_f (fun z => ?_))), d⟩
  exact hd j i (by omega) hi (by omega) (z.1.symm.trans (hz_mt_t.mp hm).1)
theorem hz_room {ag bf : Nat → Int32} {n l : Int} {g : Nat → Int} {P Q : hz_P} {left : Int} (HR : hz_HR R now N) (HN : ∀ (P : hz_P) (c : Nat), 0 ≤ R P c) (HB : hz_RB R N P) (hl : 1 ≤ l) (hn : 2 ≤ n ∧ n ≤ 4) (hd : ∀ i j : Nat, (i : Int) < n → (j : Int) < n → i ≠ j → g i ≠ g j) (hV : ∀ i : Nat, (i : Int) < n → l ≤ hz_sm (R P) (hz_mt ag bf (g i) (g (((i : Int) + 1) % n).toNat)) N) (h600 : (hz_nP P : Int) + hz_ne (R P) ag bf g n l N n.toNat ≤ 600) {i k : Nat} (hi : (i : Int) < n) (hk : k < N) (hq : hz_tk R (hz_mt ag bf (g i) (g (((i : Int) + 1) % n).toNat)) now (hz_tr R ag bf g n l now N P i) l k = (Q, left)) (h0 : 0 < left) (hm : hz_mt ag bf (g i) (g (((i : Int) + 1) % n).toNat) k = true) (hr : 0 < R Q k) : (hz_nP Q : Int) + 1 ≤ 600 := by
  obtain ⟨o1, o2, o3⟩ := hz_other (ag := ag) (bf := bf) HR HN HB hl hn hd hV hi
  have T := (hz_tk_1 (mt := hz_mt ag bf (g i) (g (((i : Int) + 1) % n).toNat)) (P := hz_tr R ag bf g n l now N P i) (s := l) HR o1 (k + 1) (by omega)).2.2.1
  have e1 : ((hz_nP (hz_tk R (hz_mt ag bf (g i) (g (((i : Int) + 1) % n).toNat)) now (hz_tr R ag bf g n l now N P i) l (k + 1)).1 : Nat) : Int) = (hz_nP Q : Int) + 1 := by
    simp only [hz_tk, hq]
    rw [if_pos ⟨h0, hm, hr⟩]
    show ((hz_nP Q + 1 : Nat) : Int) = _
    omega
  have m1 := hz_cn_m (r := R (hz_tr R ag bf g n l now N P i)) (mt := hz_mt ag bf (g i) (g (((i : Int) + 1) % n).toNat)) (s := l) (k + 1) N (by omega)
  rw [o2] at m1
  have m2 := hz_ne_m (r := R P) (ag := ag) (bf := bf) (g := g) (n := n) (l := l) (cn := N) (i + 1) n.toNat (by omega)
  simp only [hz_ne] at m2
  omega
theorem hz_roomT {ag bf : Nat → Int32} {n l : Int} {g : Nat → Int} {P : hz_P} (HR : hz_HR R now N) (HN : ∀ (P : hz_P) (c : Nat), 0 ≤ R P c) (HB : hz_RB R N P) (hl : 1 ≤ l) (hn : 2 ≤ n ∧ n ≤ 4) (hd : ∀ i j : Nat, (i : Int) < n → (j : Int) < n → i ≠ j → g i ≠ g j) (hV : ∀ i : Nat, (i : Int) < n → l ≤ hz_sm (R P) (hz_mt ag bf (g i) (g (((i : Int) + 1) % n).toNat)) N) (h600 : (hz_nP P : Int) + hz_ne (R P) ag bf g n l N n.toNat ≤ 600) {i : Nat} (hi : (i : Int) < n) : (hz_nP (hz_tr R ag bf g n l now N P i) : Int) + (hz_cn (R (hz_tr R ag bf g n l now N P i)) (hz_mt ag bf (g i) (g (((i : Int) + 1) % n).toNat)) l N).2 ≤ 600 := by
  obtain ⟨o1, o2, o3⟩ := hz_other (ag := ag) (bf := bf) HR HN HB hl hn hd hV hi
  have m2 := hz_ne_m (r := R P) (ag := ag) (bf := bf) (g := g) (n := n) (l := l) (cn := N) (i + 1) n.toNat (by omega)
  simp only [hz_ne] at m2
  rw [o2]
  omega
/-- what a ring that is gone for is -/
theorem hz_be_f {ag bf : Nat → Int32} {cn : Nat} {np : Int} {P : hz_P} {l n : Int} {g : Nat → Int} (HN : ∀ (P : hz_P) (c : Nat), 0 ≤ R P c) (hbf : ∀ c, c < cn → 0 ≤ (bf c).toInt ∧ (bf c).toInt < 40) (hnp : 0 ≤ np ∧ np ≤ 40) (e : hz_be R ag bf cn np P = (l, n, g)) (hn : 0 < n) : 1 ≤ l ∧ (2 ≤ n ∧ n ≤ 4) ∧ (∀ i : Nat, (i : Int) < n → 0 ≤ g i ∧ g i < 40) ∧ (∀ i j : Nat, (i : Int) < n → (j : Int) < n → i ≠ j → g i ≠ g j) ∧ (∀ i : Nat, (i : Int) < n → l ≤ hz_sm (R P) (hz_mt ag bf (g i) (g (((i : Int) + 1) % n).toNat)) cn) ∧ (∀ i : Nat, (i : Int) < n → l ≤ hz_V (R P) ag bf cn (40 * g i + g (((i : Int) + 1) % n).toNat)) := by
  have RGb := hz_F1_R (V := hz_V (R P) ag bf cn) (np := np) (hz_V_0 (fun c _ => HN P c)) np.toNat (by omega)
  have RGb : hz_RG (hz_V (R P) ag bf cn) np (hz_be R ag bf cn np P) := RGb
  rw [e] at RGb
  obtain ⟨r0, r1⟩ := RGb
  obtain ⟨n2, n4, l1, gb, gd, gl, _⟩ := r1.resolve_left (by intro z; have : n = 0 := z; omega)
  have n2 : 2 ≤ n := n2
  have n4 : n ≤ 4 := n4
  have gb : ∀ i : Nat, (i : Int) < n → 0 ≤ g i ∧ g i < np := gb
  refine ⟨l1, ⟨n2, n4⟩, fun i hi => ⟨(gb i hi).1, by have := (gb i hi).2; omega⟩, gd, fun i hi => ?_, gl⟩
  have h1 := Int.emod_nonneg ((i : Int) + 1) (show n ≠ 0 by omega)
  have h2 := Int.emod_lt_of_pos ((i : Int) + 1) (show 0 < n by omega)
  have b := gb (((i : Int) + 1) % n).toNat (by omega)
  rw [← hz_V_m ⟨b.1, by omega⟩ hbf]; exact gl i hi
end HZM

/-! NETTED, told step by step -/
theorem hz_ap_eq {pof pof1 pdf pdf1 psm psm1 pkf pkf1 pst pst1 : Nat → Int32} {n n1 : Nat} {c s now : Int32} (h : hz_AP n c now s now pof pof1 pdf pdf1 psm psm1 pkf pkf1 pst pst1) (e : n1 = n + 1) : ((pof1, pdf1, psm1, pkf1, pst1, n1) : hz_P) = hz_ap (pof, pdf, psm, pkf, pst, n) c s now := by
  obtain ⟨a1, a2, a3, a4, a5⟩ := h
  subst a1; subst a2; subst a3; subst a4; subst a5; subst e
  rfl
theorem hz_mi_2 {r a b : Int32} (h : (r = a ∧ a.toInt < b.toInt) ∨ (r = b ∧ b.toInt ≤ a.toInt)) : r.toInt = hz_mi a.toInt b.toInt := by
  unfold hz_mi
  rcases h with ⟨e, h⟩ | ⟨e, h⟩ <;> subst e <;> split <;> omega
theorem hz_V_ub {r : Nat → Int} {ag bf : Nat → Int32} {cn : Nat} (hr : ∀ c, c < cn → 0 ≤ r c ∧ r c ≤ 609999) (hcn : cn ≤ 100) (x : Int) : 0 ≤ hz_V r ag bf cn x ∧ hz_V r ag bf cn x ≤ 61000000 := by
  have h := hz_sm_ub (r := r) (mt := fun c => decide (40 * (ag c).toInt + (bf c).toInt = x)) cn hr
  have h : 0 ≤ hz_V r ag bf cn x ∧ hz_V r ag bf cn x ≤ 609999 * (cn : Int) := h
  omega
theorem hz_rs_s {f f1 : Nat → Int32} {r : Nat → Int} {k k1 : Int} {ix : Nat} {v : Int32} (h : ∀ c : Nat, (c : Int) < k → (f c).toInt = r c) (h0 : 0 ≤ k) (ei : (ix : Int) = k) (hv : v.toInt = r k.toNat) (e : f1 = hx_up f ix v) (e1 : k1 = k + 1) : ∀ c : Nat, (c : Int) < k1 → (f1 c).toInt = r c := by
  subst e1
  have e2 : ix = k.toNat := by omega
  subst e2
  intro c hc
  rw [e]
  by_cases z : c = k.toNat
  · subst z; rw [hx_up_at, hv]
  · rw [hx_up_ne z]; exact h c (by omega)
/-- what a ring that is taken is -/
def hz_RI (l n : Int) (g : Nat → Int) (r : Nat → Int) (ag bf : Nat → Int32) (cn : Nat) : Prop := 1 ≤ l ∧ (2 ≤ n ∧ n ≤ 4) ∧ (∀ i : Nat, (i : Int) < n → 0 ≤ g i ∧ g i < 40) ∧ (∀ i j : Nat, (i : Int) < n → (j : Int) < n → i ≠ j → g i ≠ g j) ∧ (∀ i : Nat, (i : Int) < n → l ≤ hz_sm r (hz_mt ag bf (g i) (g (((i : Int) + 1) % n).toNat)) cn) ∧ (∀ i : Nat, (i : Int) < n → l ≤ hz_V r ag bf cn (40 * g i + g (((i : Int) + 1) % n).toNat))
section HZO
variable {R : hz_P → Nat → Int} {now : Int32} {N : Nat} {ag bf : Nat → Int32} {cn : Nat} {np : Int} {P : hz_P} {l n : Int} {g : Nat → Int}
theorem hz_tk_RB {mt : Nat → Bool} {Q : hz_P} {s l : Int} {k : Nat} (HR : hz_HR R now N) (HN : ∀ (P : hz_P) (c : Nat), 0 ≤ R P c) (HB : hz_RB R N P) (hk : k ≤ N) (h : hz_tk R mt now P s k = (Q, l)) : hz_RB R N Q := by
  have T := (hz_tk_1 (mt := mt) (s := s) HR HB k hk).2.2.2.1
  rw [h] at T
  exact fun c hc => ⟨HN _ _, Int.le_trans (T c hc) (HB c hc).2⟩
theorem hz_room1 {mt : Nat → Bool} {Q : hz_P} {s left k : Int} (HR : hz_HR R now N) (HB : hz_RB R N P) (h600 : (hz_nP P : Int) + (hz_cn (R P) mt s N).2 ≤ 600) (h9 : 0 ≤ k) (hk : k.toNat < N) (hq : hz_tk R mt now P s k.toNat = (Q, left)) (h0 : 0 < left) (hm : mt k.toNat = true) (hr : 0 < R Q k.toNat) : (hz_nP Q : Int) + 1 ≤ 600 := by
  have T := (hz_tk_1 (mt := mt) (P := P) (s := s) HR HB (k.toNat + 1) (by omega)).2.2.1
  have e1 : ((hz_nP (hz_tk R mt now P s (k.toNat + 1)).1 : Nat) : Int) = (hz_nP Q : Int) + 1 := by
    simp only [hz_tk, hq]
    rw [if_pos ⟨h0, hm, hr⟩]
    show ((hz_nP Q + 1 : Nat) : Int) = _
    omega
  have m1 := hz_cn_m (r := R P) (mt := mt) (s := s) (k.toNat + 1) N (by omega)
  omega
theorem hz_roomI {Q : hz_P} {left j : Int} (HR : hz_HR R now N) (HN : ∀ (P : hz_P) (c : Nat), 0 ≤ R P c) (HB : hz_RB R N P) (hl : 1 ≤ l) (hn : 2 ≤ n ∧ n ≤ 4) (hd : ∀ i j : Nat, (i : Int) < n → (j : Int) < n → i ≠ j → g i ≠ g j) (hV : ∀ i : Nat, (i : Int) < n → l ≤ hz_sm (R P) (hz_mt ag bf (g i) (g (((i : Int) + 1) % n).toNat)) N) (h600 : (hz_nP P : Int) + hz_ne (R P) ag bf g n l N n.toNat ≤ 600) (hj0 : 0 ≤ j) (hj : j < n) {k : Nat} (hk : k < N) (hq : hz_tk R (hz_mt ag bf (g j.toNat) (g ((j + 1) % n).toNat)) now (hz_tr R ag bf g n l now N P j.toNat) l k = (Q, left)) (h0 : 0 < left) (hm : hz_mt ag bf (g j.toNat) (g ((j + 1) % n).toNat) k = true) (hr : 0 < R Q k) : (hz_nP Q : Int) + 1 ≤ 600 := by
  have e : ((j.toNat : Nat) : Int) = j := by omega
  exact hz_room (i := j.toNat) HR HN HB hl hn hd hV h600 (by omega) hk (by rw [e]; exact hq) h0 (by rw [e]; exact hm) hr
theorem hz_roomTI {Q : hz_P} {j : Int} (HR : hz_HR R now N) (HN : ∀ (P : hz_P) (c : Nat), 0 ≤ R P c) (HB : hz_RB R N P) (hl : 1 ≤ l) (hn : 2 ≤ n ∧ n ≤ 4) (hd : ∀ i j : Nat, (i : Int) < n → (j : Int) < n → i ≠ j → g i ≠ g j) (hV : ∀ i : Nat, (i : Int) < n → l ≤ hz_sm (R P) (hz_mt ag bf (g i) (g (((i : Int) + 1) % n).toNat)) N) (h600 : (hz_nP P : Int) + hz_ne (R P) ag bf g n l N n.toNat ≤ 600) (hj0 : 0 ≤ j) (hj : j < n) (hQ : Q = hz_tr R ag bf g n l now N P j.toNat) : (hz_nP Q : Int) + (hz_cn (R Q) (hz_mt ag bf (g j.toNat) (g ((j + 1) % n).toNat)) l N).2 ≤ 600 := by
  have e : ((j.toNat : Nat) : Int) = j := by omega
  have h := hz_roomT (ag := ag) (bf := bf) (i := j.toNat) HR HN HB hl hn hd hV h600 (by omega)
  rw [e] at h
  subst hQ
  exact h
theorem hz_otherI {Q : hz_P} {j : Int} (HR : hz_HR R now N) (HN : ∀ (P : hz_P) (c : Nat), 0 ≤ R P c) (HB : hz_RB R N P) (hl : 1 ≤ l) (hn : 2 ≤ n ∧ n ≤ 4) (hd : ∀ i j : Nat, (i : Int) < n → (j : Int) < n → i ≠ j → g i ≠ g j) (hV : ∀ i : Nat, (i : Int) < n → l ≤ hz_sm (R P) (hz_mt ag bf (g i) (g (((i : Int) + 1) % n).toNat)) N) (hj0 : 0 ≤ j) (hj : j < n) (hQ : Q = hz_tr R ag bf g n l now N P j.toNat) : hz_RB R N Q := by
  subst hQ
  exact (hz_other (ag := ag) (bf := bf) (i := j.toNat) HR HN HB hl hn hd hV (by omega)).1
theorem hz_rs_upI {cn k : Int} {Q : hz_P} {s x c : Int32} {ix : Nat} {f f1 : Nat → Int32} (HR : hz_HR R now cn.toNat) (hcn : 0 ≤ cn ∧ cn ≤ 100) (h : ∀ c : Nat, (c : Int) < cn → (f c).toInt = R P c) (h0 : 0 ≤ k) (hk : k < cn) (hs : 0 < s.toInt) (h1 : s.toInt ≤ R P k.toNat) (ei : (ix : Int) = k) (hx : x.toInt = R P k.toNat - s.toInt) (hc : c.toInt = k) (e : f1 = hx_up f ix x) (eQ : Q = hz_ap P c s now) : ∀ c : Nat, (c : Int) < cn → (f1 c).toInt = R Q c := by
  have q := hz_rs_up (N := cn.toNat) (k := k.toNat) HR (by omega) (fun c hc => h c (by omega)) (by omega) hs h1 (show ix = k.toNat by omega) hx (by omega) e eQ
  exact fun c hc => q c (by omega)
theorem hz_DT_W {ow : Nat → Int32} (HR : hz_HR R now N) (HN : ∀ (P : hz_P) (c : Nat), 0 ≤ R P c) (HB : hz_RB R N P) (hl : 1 ≤ l) (hn : 2 ≤ n ∧ n ≤ 4) (hd : ∀ i j : Nat, (i : Int) < n → (j : Int) < n → i ≠ j → g i ≠ g j) (hV : ∀ i : Nat, (i : Int) < n → l ≤ hz_sm (R P) (hz_mt ag bf (g i) (g (((i : Int) + 1) % n).toNat)) N) (hbf : ∀ c, c < N → 0 ≤ (bf c).toInt ∧ (bf c).toInt < 40) (h : hz_DT ow (hz_V (R P) ag bf N) g n l n.toNat) : hz_DW ow (R (hz_tr R ag bf g n l now N P n.toNat)) ag bf N :=
  hz_DT_e h (fun q p h0 h1 => by
    rw [hz_V_m ⟨h0, h1⟩ hbf, hz_V_m ⟨h0, h1⟩ hbf]
    exact (hz_tr_1 (ag := ag) (bf := bf) HR HN HB hl hn hd hV n.toNat (by omega)).2.2.2 q p)
theorem hz_it_s {Q0 Q1 : hz_P} {k k1 bl bs : Int} (h : Q0 = hz_it R ag bf cn np now P k.toNat) (h0 : 0 ≤ k) (e1 : (hz_be R ag bf cn np Q0).1 = bl) (e2 : (hz_be R ag bf cn np Q0).2.1 = bs) (hq : Q1 = hz_tr R ag bf (hz_be R ag bf cn np Q0).2.2 bs bl now cn Q0 bs.toNat) (e : k1 = k + 1) : Q1 = hz_it R ag bf cn np now P k1.toNat := by
  subst e; subst e1; subst e2
  have e : (k + 1).toNat = k.toNat + 1 := by omega
  rw [e, hq, h]; rfl
theorem hz_go_i {Q : hz_P} {bl bs ne : Int} {m : Nat} (e1 : (hz_be R ag bf cn np Q).1 = bl) (e2 : (hz_be R ag bf cn np Q).2.1 = bs) (en : hz_nP Q = m) (ee : ne = hz_ne (R Q) ag bf (hz_be R ag bf cn np Q).2.2 bs bl cn bs.toNat) : hz_go R ag bf cn np Q ↔ (0 < bs ∧ (m : Int) + ne ≤ 600) := by
  subst e1; subst e2; subst en; subst ee
  exact Iff.rfl
theorem hz_gos {Q0 : hz_P} {k k1 : Int} (h : ∀ j : Nat, j < k.toNat → hz_go R ag bf cn np (hz_it R ag bf cn np now P j)) (hq : Q0 = hz_it R ag bf cn np now P k.toNat) (h0 : 0 ≤ k) (hg : hz_go R ag bf cn np Q0) (e : k1 = k + 1) : ∀ j : Nat, j < k1.toNat → hz_go R ag bf cn np (hz_it R ag bf cn np now P j) := by
  subst e
  intro j hj
  by_cases z : j = k.toNat
  · subst z; rw [← hq]; exact hg
  · exact h j (by omega)
theorem hz_sa_s {Q0 : hz_P} {k k1 : Int} {a t x bl bs : Int32} (h : a.toInt = (hz_sa2 R ag bf cn np now P k.toNat).toInt) (hq : Q0 = hz_it R ag bf cn np now P k.toNat) (h0 : 0 ≤ k) (e1 : (hz_be R ag bf cn np Q0).1 = bl.toInt) (e2 : (hz_be R ag bf cn np Q0).2.1 = bs.toInt) (ht : t = bl * bs) (e : x = a + t) (ek : k1 = k + 1) : x.toInt = (hz_sa2 R ag bf cn np now P k1.toNat).toInt := by
  subst ek
  have e9 : (k + 1).toNat = k.toNat + 1 := by omega
  have h9 := Int32.toInt_inj.mp h
  rw [e, h9, ht, e9]
  simp only [hz_sa2]
  rw [← hq, e1, e2, Int32.ofInt_toInt, Int32.ofInt_toInt]
theorem hz_ls_s {Q0 : hz_P} {k k1 : Int} {f f1 : Nat → Int32} {ix : Nat} {bl : Int32} (h : ∀ j : Nat, j < k.toNat → (f j).toInt = (hz_be R ag bf cn np (hz_it R ag bf cn np now P j)).1) (hq : Q0 = hz_it R ag bf cn np now P k.toNat) (h0 : 0 ≤ k) (ei : (ix : Int) = k) (e1 : (hz_be R ag bf cn np Q0).1 = bl.toInt) (e : f1 = hx_up f ix bl) (ek : k1 = k + 1) : ∀ j : Nat, j < k1.toNat → (f1 j).toInt = (hz_be R ag bf cn np (hz_it R ag bf cn np now P j)).1 := by
  subst ek
  have e2 : ix = k.toNat := by omega
  subst e2
  intro j hj
  rw [e]
  by_cases z : j = k.toNat
  · subst z; rw [hx_up_at, ← hq, e1]
  · rw [hx_up_ne z]; exact h j (by omega)
theorem hz_be_RI {l n : Int} {br : Nat → Int32} (HN : ∀ (P : hz_P) (c : Nat), 0 ≤ R P c) (hbf : ∀ c, c < cn → 0 ≤ (bf c).toInt ∧ (bf c).toInt < 40) (hnp : 0 ≤ np ∧ np ≤ 40) (h : hz_SR (hz_be R ag bf cn np P) l n br) (hn : 0 < n) : hz_RI l n (hz_be R ag bf cn np P).2.2 (R P) ag bf cn :=
  hz_be_f HN hbf hnp (Prod.ext h.1 (Prod.ext h.2.1 rfl)) hn
end HZO
/-- what both sides' net comes to -/
def hz_NR (R : hz_P → Nat → Int) (ag bf : Nat → Int32) (cn : Nat) (np : Int) (now : Int32) (P Q : hz_P) (r ct : Int) (ls : Nat → Int32) : Prop := ∃ k : Nat, hz_NT R ag bf cn np now P k ∧ Q = hz_it R ag bf cn np now P k ∧ r = (hz_sa2 R ag bf cn np now P k).toInt ∧ ct = k ∧ ∀ j : Nat, j < k → (ls j).toInt = (hz_be R ag bf cn np (hz_it R ag bf cn np now P j)).1
theorem hz_NR_eq {R : hz_P → Nat → Int} {ag bf : Nat → Int32} {cn : Nat} {np : Int} {now : Int32} {P Q Q' : hz_P} {r r' ct ct' : Int} {ls ls' : Nat → Int32} (h : hz_NR R ag bf cn np now P Q r ct ls) (h' : hz_NR R ag bf cn np now P Q' r' ct' ls') : Q = Q' ∧ r = r' ∧ ct = ct' ∧ ∀ j : Nat, (j : Int) < ct → (ls j).toInt = (ls' j).toInt := by
  obtain ⟨k, a, b, c, d, e⟩ := h
  obtain ⟨k', a', b', c', d', e'⟩ := h'
  have ek := hz_NT_u a a'
  subst ek
  exact ⟨b.trans b'.symm, c.trans c'.symm, d.trans d'.symm, fun j hj => (e j (by omega)).trans (e' j (by omega)).symm⟩
/-- netted() -/
def hz_ND (k ct r : Int) (ls : Nat → Int32) : Prop := (k = -1 ∧ r = ct) ∨ (k ≠ -1 ∧ (k < 0 ∨ ct ≤ k) ∧ r = -1) ∨ ((0 ≤ k ∧ k < ct) ∧ r = (ls k.toNat).toInt)
theorem hz_ND_eq {k ct ct' r r' : Int} {ls ls' : Nat → Int32} (h : hz_ND k ct r ls) (h' : hz_ND k ct' r' ls') (e : ct = ct') (el : ∀ j : Nat, (j : Int) < ct → (ls j).toInt = (ls' j).toInt) : r = r' := by
  subst e
  unfold hz_ND at h h'
  by_cases z : 0 ≤ k ∧ k < ct
  · have := el k.toNat (by omega); omega
  · omega
/-! THE LAW: what both sides' answers are alike by -/
theorem hz_i100 {i n : Int} (h0 : 0 ≤ i) (h1 : i < n) (hn : n ≤ 100) : i.toNat < 100 := by omega
theorem hz_ix {F : Nat → Int32} (b : ∀ k, k < 100 → 0 ≤ (F k).toInt ∧ (F k).toInt ≤ 39) {i n : Int} (h0 : 0 ≤ i) (h1 : i < n) (hn : n ≤ 100) : (F i.toNat).toInt.toNat < 40 := by
  have := b i.toNat (by omega)
  omega
theorem hz_OC_i {n i w ju od de de' : Int} (h : 0 ≤ i → i < n → de = de') : hz_OC n i w ju od de ↔ hz_OC n i w ju od de' := by
  unfold hz_OC
  constructor <;> intro a <;> have e := h a.1.1 a.1.2
  · exact ⟨a.1, a.2.1, a.2.2.1, by have := a.2.2.2.1; omega, a.2.2.2.2⟩
  · exact ⟨a.1, a.2.1, a.2.2.1, by have := a.2.2.2.1; omega, a.2.2.2.2⟩
theorem hz_ZC_i {n i w sz st st' : Int} (h : 0 ≤ i → i < n → st = st') : hz_ZC n i w sz st ↔ hz_ZC n i w sz st' := by
  unfold hz_ZC
  constructor <;> intro a <;> have e := h a.1.1 a.1.2
  · exact ⟨a.1, a.2.1, a.2.2.1, by have := a.2.2.2; omega⟩
  · exact ⟨a.1, a.2.1, a.2.2.1, by have := a.2.2.2; omega⟩
theorem hz_GC_i {n i sz de de' st st' : Int} (h : 0 ≤ i → i < n → de = de' ∧ st = st') : hz_GC n i sz de st ↔ hz_GC n i sz de' st' := by
  unfold hz_GC
  constructor <;> intro a <;> have e := h a.1.1 a.1.2
  · exact ⟨a.1, a.2.1, by have := a.2.2.1; omega, by have := a.2.2.2; omega⟩
  · exact ⟨a.1, a.2.1, by have := a.2.2.1; omega, by have := a.2.2.2; omega⟩
theorem hz_adf {r r2 i : Int} {v : Int32} {d d1 g1 : Nat → Int32} (er : r = r2) (p : hw_AD r i v d d1) (q : hw_AD r2 i v d g1) : d1 = g1 := by
  rcases p with ⟨a, b⟩ | ⟨a, b⟩ <;> rcases q with ⟨a', b'⟩ | ⟨a', b'⟩
  · exact b.trans b'.symm
  · omega
  · omega
  · exact b.trans b'.symm
/-- how often net was called: the rings' count, or none yet -/
def hz_NQ (ct hn rm : Int) : Prop := (hn = 0 ∧ ct = -1) ∨ (hn ≠ 0 ∧ ct = rm)
def hz_ND2 (hn k rm r : Int) (ls : Nat → Int32) : Prop := (hn = 0 ∧ r = -1) ∨ (hn ≠ 0 ∧ hz_ND k rm r ls)
theorem hz_ND_f {k ct hn rm r r' : Int} {ls ls' : Nat → Int32} (h : hz_ND k ct r ls) (h' : hz_ND2 hn k rm r' ls') (q : hz_NQ ct hn rm) (el : ∀ j : Nat, (j : Int) < ct → (ls j).toInt = (ls' j).toInt) : r = r' := by
  rcases h' with ⟨a, b⟩ | ⟨a, b⟩
  · have e : ct = -1 := by unfold hz_NQ at q; omega
    unfold hz_ND at h
    omega
  · have e : ct = rm := by unfold hz_NQ at q; omega
    exact hz_ND_eq h b e el
