/-! NETTED: ring after ring -/
def hz_be (R : hz_P → Nat → Int) (ag bf : Nat → Int32) (cn : Nat) (np : Int) (P : hz_P) : Int × Int × (Nat → Int) := hz_F1 (hz_V (R P) ag bf cn) np np.toNat
def hz_go (R : hz_P → Nat → Int) (ag bf : Nat → Int32) (cn : Nat) (np : Int) (P : hz_P) : Prop := 0 < (hz_be R ag bf cn np P).2.1 ∧ (hz_nP P : Int) + hz_ne (R P) ag bf (hz_be R ag bf cn np P).2.2 (hz_be R ag bf cn np P).2.1 (hz_be R ag bf cn np P).1 cn (hz_be R ag bf cn np P).2.1.toNat ≤ 600
def hz_sp (R : hz_P → Nat → Int) (ag bf : Nat → Int32) (cn : Nat) (np : Int) (now : Int32) (P : hz_P) : hz_P := hz_tr R ag bf (hz_be R ag bf cn np P).2.2 (hz_be R ag bf cn np P).2.1 (hz_be R ag bf cn np P).1 now cn P (hz_be R ag bf cn np P).2.1.toNat
def hz_it (R : hz_P → Nat → Int) (ag bf : Nat → Int32) (cn : Nat) (np : Int) (now : Int32) (P : hz_P) : Nat → hz_P
  | 0 => P
  | k + 1 => hz_sp R ag bf cn np now (hz_it R ag bf cn np now P k)
/-- all that was taken off -/
def hz_sa2 (R : hz_P → Nat → Int) (ag bf : Nat → Int32) (cn : Nat) (np : Int) (now : Int32) (P : hz_P) : Nat → Int32
  | 0 => 0
  | k + 1 => hz_sa2 R ag bf cn np now P k + Int32.ofInt (hz_be R ag bf cn np (hz_it R ag bf cn np now P k)).1 * Int32.ofInt (hz_be R ag bf cn np (hz_it R ag bf cn np now P k)).2.1
def hz_NT (R : hz_P → Nat → Int) (ag bf : Nat → Int32) (cn : Nat) (np : Int) (now : Int32) (P : hz_P) (k : Nat) : Prop := (∀ j, j < k → hz_go R ag bf cn np (hz_it R ag bf cn np now P j)) ∧ ¬ hz_go R ag bf cn np (hz_it R ag bf cn np now P k)
theorem hz_NT_u {R : hz_P → Nat → Int} {ag bf : Nat → Int32} {cn : Nat} {np : Int} {now : Int32} {P : hz_P} {k k' : Nat} (h : hz_NT R ag bf cn np now P k) (h' : hz_NT R ag bf cn np now P k') : k = k' := by
  rcases (show k < k' ∨ k = k' ∨ k' < k by omega) with z | z | z
  · exact absurd (h'.1 k z) h.2
  · exact z
  · exact absurd (h.1 k' z) h'.2
section HZG
variable {R : hz_P → Nat → Int} {ag bf : Nat → Int32} {cn : Nat} {np : Int} {now : Int32} {P : hz_P}
theorem hz_V_0 {r : Nat → Int} (h : ∀ c, c < cn → 0 ≤ r c) (x : Int) : 0 ≤ hz_V r ag bf cn x := by
  unfold hz_V
  have key : ∀ (mt : Nat → Bool) (k : Nat), k ≤ cn → 0 ≤ hz_sm r mt k := by
    intro mt k
    induction k with
    | zero => intro _; exact Int.le_refl _
    | succ k ih =>
      intro hk
      have := ih (by omega); have := h k (by omega)
      simp only [hz_sm]; split <;> omega
  exact key _ cn (Nat.le_refl _)
theorem hz_sm_ub {r : Nat → Int} {mt : Nat → Bool} : ∀ n : Nat, (∀ c, c < n → 0 ≤ r c ∧ r c ≤ 609999) → 0 ≤ hz_sm r mt n ∧ hz_sm r mt n ≤ 609999 * (n : Int) := by
  intro n
  induction n with
  | zero => intro _; exact ⟨Int.le_refl _, by simp [hz_sm]⟩
  | succ n ih =>
    intro h
    have a := ih (fun c hc => h c (by omega)); have b := h n (by omega)
    simp only [hz_sm]; split <;> omega
/-- what stands behind a ring: less is left, the pairs' sums, one claim less that is open -/
theorem hz_sp_1 (HR : hz_HR R now cn) (HN : ∀ (P : hz_P) (c : Nat), 0 ≤ R P c) (HB : hz_RB R cn P) (hag : ∀ c, c < cn → 0 ≤ (ag c).toInt ∧ (ag c).toInt < 40 ∧ 0 ≤ (bf c).toInt ∧ (bf c).toInt < 40) (hnp : 0 ≤ np ∧ np ≤ 40) (hgo : 0 < (hz_be R ag bf cn np P).2.1) : (∀ c, c < cn → R (hz_sp R ag bf cn np now P) c ≤ R P c) ∧ hz_RB R cn (hz_sp R ag bf cn np now P) ∧ ((hz_nP (hz_sp R ag bf cn np now P) : Nat) : Int) = hz_nP P + hz_ne (R P) ag bf (hz_be R ag bf cn np P).2.2 (hz_be R ag bf cn np P).2.1 (hz_be R ag bf cn np P).1 cn (hz_be R ag bf cn np P).2.1.toNat ∧ (∀ q p : Int, 0 ≤ p → p < 40 → hz_V (R (hz_sp R ag bf cn np now P)) ag bf cn (40 * q + p) = hz_V (R P) ag bf cn (40 * q + p) - (if hz_eb (hz_be R ag bf cn np P).2.2 (hz_be R ag bf cn np P).2.1 q p (hz_be R ag bf cn np P).2.1.toNat = true then (hz_be R ag bf cn np P).1 else 0)) ∧ hz_op (R (hz_sp R ag bf cn np now P)) cn + 1 ≤ hz_op (R P) cn := by
  have hbf : ∀ c, c < cn → 0 ≤ (bf c).toInt ∧ (bf c).toInt < 40 := fun c hc => (hag c hc).2.2
  have RGb := hz_F1_R (V := hz_V (R P) ag bf cn) (np := np) (hz_V_0 (fun c _ => HN P c)) np.toNat (by omega)
  have RGb : hz_RG (hz_V (R P) ag bf cn) np (hz_be R ag bf cn np P) := RGb
  unfold hz_sp
  generalize hz_be R ag bf cn np P = o at *
  obtain ⟨l, n, g⟩ := o
  obtain ⟨r0, r1⟩ := RGb
  obtain ⟨n2, n4, l1, gb, gd, gl, ⟨k0, hk0, ek0⟩⟩ := r1.resolve_left (by intro z; have : (l, n, g).2.1 = 0 := z; omega)
  have n2 : 2 ≤ n := n2
  have n4 : n ≤ 4 := n4
  have l1 : 1 ≤ l := l1
  have gb : ∀ i : Nat, (i : Int) < n → 0 ≤ g i ∧ g i < np := gb
  have hmod : ∀ i : Nat, ((((i : Int) + 1) % n).toNat : Int) < n := fun i => by
    have h1 := Int.emod_nonneg ((i : Int) + 1) (show n ≠ 0 by omega)
    have h2 := Int.emod_lt_of_pos ((i : Int) + 1) (show 0 < n by omega)
    omega
  have gl : ∀ i : Nat, (i : Int) < n → l ≤ hz_sm (R P) (hz_mt ag bf (g i) (g (((i : Int) + 1) % n).toNat)) cn := fun i hi => by
    have b := gb _ (hmod i)
    rw [← hz_V_m ⟨b.1, by omega⟩ hbf]; exact gl i hi
  have T := hz_tr_1 (ag := ag) (bf := bf) (n := n) (l := l) (g := g) (P := P) HR HN HB l1 ⟨n2, n4⟩ gd gl n.toNat (by omega)
  obtain ⟨a, b, d, f⟩ := T
  show (∀ c, c < cn → R (hz_tr R ag bf g n l now cn P n.toNat) c ≤ R P c) ∧ hz_RB R cn (hz_tr R ag bf g n l now cn P n.toNat) ∧ ((hz_nP (hz_tr R ag bf g n l now cn P n.toNat) : Nat) : Int) = hz_nP P + hz_ne (R P) ag bf g n l cn n.toNat ∧ _ ∧ _
  refine ⟨a, fun c hc => ⟨HN _ _, Int.le_trans (a c hc) (HB c hc).2⟩, d, fun q p hp0 hp1 => ?_, ?_⟩
  · show hz_V (R (hz_tr R ag bf g n l now cn P n.toNat)) ag bf cn (40 * q + p) = hz_V (R P) ag bf cn (40 * q + p) - (if hz_eb g n q p n.toNat = true then l else 0)
    rw [hz_V_m ⟨hp0, hp1⟩ hbf, hz_V_m ⟨hp0, hp1⟩ hbf, f q p]
  · show hz_op (R (hz_tr R ag bf g n l now cn P n.toNat)) cn + 1 ≤ hz_op (R P) cn
    have hk0 : (k0 : Int) < n := hk0
    have bk := gb _ (hmod k0)
    have ek : l = hz_sm (R P) (hz_mt ag bf (g k0) (g (((k0 : Int) + 1) % n).toNat)) cn := by
      rw [← hz_V_m ⟨bk.1, by omega⟩ hbf]; exact ek0
    obtain ⟨c, hc, hm, hp⟩ := hz_sm_p cn (show 0 < hz_sm (R P) (hz_mt ag bf (g k0) (g (((k0 : Int) + 1) % n).toNat)) cn by omega)
    have ez : hz_sm (R (hz_tr R ag bf g n l now cn P n.toNat)) (hz_mt ag bf (g k0) (g (((k0 : Int) + 1) % n).toNat)) cn ≤ 0 := by
      rw [f, if_pos ((hz_eb_t n.toNat).mpr ⟨k0, by omega, rfl, rfl⟩)]; omega
    exact hz_op_lt cn a hc hp (hz_sm_0 cn (fun c _ => HN _ c) ez c hc hm)
theorem hz_it_1 (HR : hz_HR R now cn) (HN : ∀ (P : hz_P) (c : Nat), 0 ≤ R P c) (HB : hz_RB R cn P) (hag : ∀ c, c < cn → 0 ≤ (ag c).toInt ∧ (ag c).toInt < 40 ∧ 0 ≤ (bf c).toInt ∧ (bf c).toInt < 40) (hnp : 0 ≤ np ∧ np ≤ 40) : ∀ k : Nat, (∀ j, j < k → hz_go R ag bf cn np (hz_it R ag bf cn np now P j)) → hz_RB R cn (hz_it R ag bf cn np now P k) ∧ hz_op (R (hz_it R ag bf cn np now P k)) cn + k ≤ cn := by
  intro k
  induction k with
  | zero => intro _; exact ⟨HB, by have := (hz_op_b (r := R P) cn).2; simp only [hz_it]; omega⟩
  | succ k ih =>
    intro h
    obtain ⟨a, b⟩ := ih (fun j hj => h j (by omega))
    have s := hz_sp_1 (P := hz_it R ag bf cn np now P k) HR HN a hag hnp (h k (by omega)).1
    refine ⟨s.2.1, ?_⟩
    have := s.2.2.2.2
    simp only [hz_it]
    omega
/-- as many rings as claims: then there is none more -/
theorem hz_it_end (HR : hz_HR R now cn) (HN : ∀ (P : hz_P) (c : Nat), 0 ≤ R P c) (HB : hz_RB R cn P) (hag : ∀ c, c < cn → 0 ≤ (ag c).toInt ∧ (ag c).toInt < 40 ∧ 0 ≤ (bf c).toInt ∧ (bf c).toInt < 40) (hnp : 0 ≤ np ∧ np ≤ 40) {k : Nat} (h : ∀ j, j < k → hz_go R ag bf cn np (hz_it R ag bf cn np now P j)) (hk : cn ≤ k) : ¬ hz_go R ag bf cn np (hz_it R ag bf cn np now P k) := by
  intro hg
  have h2 := hz_it_1 HR HN HB hag hnp (k + 1) (fun j hj => by
    by_cases z : j = k
    · subst z; exact hg
    · exact h j (by omega))
  have := h2.2
  have := (hz_op_b (r := R (hz_it R ag bf cn np now P (k + 1))) cn).1
  omega
end HZG
/-! what a payment does to what is left -/
def hz_RP (odf szf gdf owf svf : Nat → Int32) (rc : Nat → Int) (now : Int) (P : hz_P) (c : Nat) : Int := hz_Rn odf szf gdf owf svf rc P.1 P.2.1 P.2.2.1 P.2.2.2.1 P.2.2.2.2.1 now P.2.2.2.2.2 c
theorem hz_RP_N {odf szf gdf owf svf : Nat → Int32} {rc : Nat → Int} {now : Int} (P : hz_P) (c : Nat) : 0 ≤ hz_RP odf szf gdf owf svf rc now P c := hz_rs_b
theorem hz_RP_HR {odf szf gdf owf svf : Nat → Int32} {rc : Nat → Int} {now : Int32} {N : Nat} (hN : N ≤ 100) : hz_HR (hz_RP odf szf gdf owf svf rc now.toInt) now N := by
  intro P c s hc hs hle c' hc'
  have hcI : (Int32.ofNat c).toInt = (c : Int) := Int32.toInt_ofNat_of_lt (by omega)
  unfold hz_RP hz_Rn hz_ap
  show hz_rs (svf c').toInt (hz_bl (odf c').toInt (szf c').toInt (gdf c').toInt (owf c').toInt (rc c') now.toInt (hx_ps (hx_up P.1 P.2.2.2.2.2 (Int32.ofNat c)) (hx_up P.2.1 P.2.2.2.2.2 now) (hx_up P.2.2.1 P.2.2.2.2.2 s) (hx_up P.2.2.2.1 P.2.2.2.2.2 now) (hx_up P.2.2.2.2.1 P.2.2.2.2.2 (-1)) now.toInt now.toInt (c' : Int) (P.2.2.2.2.2 + 1))) now.toInt = _
  by_cases z : c' = c
  · subst z
    rw [if_pos rfl]
    have e : hx_ps (hx_up P.1 P.2.2.2.2.2 (Int32.ofNat c')) (hx_up P.2.1 P.2.2.2.2.2 now) (hx_up P.2.2.1 P.2.2.2.2.2 s) (hx_up P.2.2.2.1 P.2.2.2.2.2 now) (hx_up P.2.2.2.2.1 P.2.2.2.2.2 (-1)) now.toInt now.toInt (c' : Int) (P.2.2.2.2.2 + 1) = hx_ps P.1 P.2.1 P.2.2.1 P.2.2.2.1 P.2.2.2.2.1 now.toInt now.toInt (c' : Int) P.2.2.2.2.2 + s.toInt := by
      simp only [hx_ps, hx_up_at]
      rw [if_pos ⟨hcI, Int.le_refl _, Int.le_refl _, Or.inl (by decide)⟩]
      congr 1
      exact hx_ps_congr _ (fun j hj => by rw [hx_up_ne (by omega), hx_up_ne (by omega), hx_up_ne (by omega), hx_up_ne (by omega), hx_up_ne (by omega)]; exact ⟨rfl, rfl, rfl, rfl, rfl⟩)
    rw [e]
    unfold hz_RP hz_Rn at hle
    revert hle
    generalize hx_ps P.1 P.2.1 P.2.2.1 P.2.2.2.1 P.2.2.2.2.1 now.toInt now.toInt (c' : Int) P.2.2.2.2.2 = ps
    intro hle
    unfold hz_rs hz_bl hz_pdy at *
    (repeat' split at hle) <;> (repeat' split) <;> omega
  · rw [if_neg z]
    rw [hx_ps_pay rfl rfl rfl rfl rfl (by rw [hcI]; omega)]
theorem hz_Rn_b {odf wkf owf szf gdf svf : Nat → Int32} {rc : Nat → Int} {pof pdf psm pkf pst : Nat → Int32} {now : Int} {pm c : Nat} (hCB : hz_CB odf wkf owf szf gdf svf) (hps : ∀ j, j < 600 → 0 ≤ (psm j).toInt ∧ (psm j).toInt ≤ 610000) (hpm : pm ≤ 600) (hc : c < 100) (hrc : 0 ≤ rc c ∧ rc c ≤ 9999) : 0 ≤ hz_Rn odf szf gdf owf svf rc pof pdf psm pkf pst now pm c ∧ hz_Rn odf szf gdf owf svf rc pof pdf psm pkf pst now pm c ≤ 609999 := by
  have h := hCB c hc
  have hp := hz_ps_b (pof := pof) (pdf := pdf) (pkf := pkf) (pst := pst) (d := now) (k := now) (c := (c : Int)) hps pm hpm
  unfold hz_Rn hz_rs hz_bl hz_al hz_pdy
  (repeat' split) <;> omega
/-! THE PAIRS' SUMS as an array; what a ring takes off it -/
def hz_DW (ow : Nat → Int32) (r : Nat → Int) (ag bf : Nat → Int32) (n : Nat) : Prop := ∀ x : Nat, x < 1600 → (ow x).toInt = hz_V r ag bf n (x : Int)
theorem hz_DW_0 {ow ag bf : Nat → Int32} {r : Nat → Int} (h : ∀ j : Nat, (j : Int) < 1600 → ow j = 0) : hz_DW ow r ag bf 0 := fun x hx => by rw [h x (by omega)]; rfl
theorem hz_V_s {r : Nat → Int} {ag bf : Nat → Int32} {k : Nat} {x : Int} : hz_V r ag bf (k + 1) x = hz_V r ag bf k x + (if 40 * (ag k).toInt + (bf k).toInt = x then r k else 0) := by
  unfold hz_V
  simp only [hz_sm]
  congr 1
  by_cases z : 40 * (ag k).toInt + (bf k).toInt = x
  · rw [if_pos (decide_eq_true z), if_pos z]
  · rw [if_neg (fun y => z (of_decide_eq_true y)), if_neg z]
theorem hz_DW_s {ow ow1 ag bf : Nat → Int32} {r : Nat → Int} {k k1 : Int} {v : Int32} {ix : Nat} (h : hz_DW ow r ag bf k.toNat) (h0 : 0 ≤ k) (hk : k < 100) (hr : ∀ c : Nat, (c : Int) ≤ k → 0 ≤ r c ∧ r c ≤ 609999) (hv : v.toInt = r k.toNat) (ei : (ix : Int) = 40 * (ag k.toNat).toInt + (bf k.toNat).toInt) (hix : ix < 1600) (e : ow1 = hx_up ow ix (ow ix + v)) (e1 : k1 = k + 1) : hz_DW ow1 r ag bf k1.toNat := by
  subst e1
  have e2 : (k + 1).toNat = k.toNat + 1 := by omega
  rw [e2]
  intro x hx
  rw [hz_V_s, e]
  have hb := hr k.toNat (by omega)
  have hs := hz_sm_ub (r := r) (mt := fun c => decide (40 * (ag c).toInt + (bf c).toInt = (ix : Int))) k.toNat (fun c hc => hr c (by omega))
  have hs : 0 ≤ hz_V r ag bf k.toNat (ix : Int) ∧ hz_V r ag bf k.toNat (ix : Int) ≤ 609999 * ((k.toNat : Nat) : Int) := hs
  by_cases z : x = ix
  · subst z
    rw [hx_up_at, if_pos ei.symm]
    have h1 := h x hx
    rw [i32_add (h1) hv (by omega) (by omega)]
  · rw [hx_up_ne z, if_neg (by omega), h x hx, Int.add_zero]
theorem hz_DW_n {ow ag bf : Nat → Int32} {r : Nat → Int} {k k1 : Int} (h : hz_DW ow r ag bf k.toNat) (h0 : 0 ≤ k) (hv : r k.toNat = 0) (e1 : k1 = k + 1) : hz_DW ow r ag bf k1.toNat := by
  subst e1
  have e2 : (k + 1).toNat = k.toNat + 1 := by omega
  rw [e2]
  intro x hx
  rw [hz_V_s, h x hx, hv]
  split <;> omega
theorem hz_pa {i n : Int} (h0 : 0 ≤ i) (h1 : i < n) : (i + 1 < n → (i + 1) % n = i + 1) ∧ (¬ i + 1 < n → (i + 1) % n = 0) := by
  refine ⟨fun h => Int.emod_eq_of_lt (by omega) h, fun h => ?_⟩
  have : i + 1 = n := by omega
  rw [this, Int.emod_self]
/-- the pairs' sums, the ring's first k places taken off -/
def hz_DT (ow : Nat → Int32) (V : Int → Int) (g : Nat → Int) (n l : Int) (k : Nat) : Prop := ∀ q p : Int, 0 ≤ q → q < 40 → 0 ≤ p → p < 40 → (ow (40 * q + p).toNat).toInt = V (40 * q + p) - (if hz_eb g n q p k = true then l else 0)
theorem hz_DT_0 {ow ag bf : Nat → Int32} {r : Nat → Int} {g : Nat → Int} {n l : Int} {cn : Nat} (h : hz_DW ow r ag bf cn) : hz_DT ow (hz_V r ag bf cn) g n l 0 := fun q p h1 h2 h3 h4 => by
  rw [if_neg (fun z => by cases z), h _ (by omega), show (((40 * q + p).toNat : Nat) : Int) = 40 * q + p by omega]; omega
theorem hz_DT_s {ow ow1 : Nat → Int32} {V : Int → Int} {g : Nat → Int} {n l k k1 : Int} {v x : Int32} {ix : Nat} (h : hz_DT ow V g n l k.toNat) (h0 : 0 ≤ k) (hk : k < n) (hl : 0 ≤ l) (hlv : v.toInt = l) (gb : ∀ i : Nat, (i : Int) < n → 0 ≤ g i ∧ g i < 40) (gd : ∀ i j : Nat, (i : Int) < n → (j : Int) < n → i ≠ j → g i ≠ g j) (hV : l ≤ V (40 * g k.toNat + g ((k + 1) % n).toNat)) (hV2 : V (40 * g k.toNat + g ((k + 1) % n).toNat) ≤ 2147483647) (ei : (ix : Int) = 40 * g k.toNat + g ((k + 1) % n).toNat) (ex : x = ow ix - v) (e : ow1 = hx_up ow ix x) (e1 : k1 = k + 1) : hz_DT ow1 V g n l k1.toNat := by
  subst e1
  have e2 : (k + 1).toNat = k.toNat + 1 := by omega
  have ek : ((k.toNat : Nat) : Int) = k := by omega
  have hm1 := Int.emod_nonneg (k + 1) (show n ≠ 0 by omega)
  have hm2 := Int.emod_lt_of_pos (k + 1) (show 0 < n by omega)
  have b1 := gb k.toNat (by omega)
  have b2 := gb ((k + 1) % n).toNat (by omega)
  rw [e2]
  intro q p h1 h2 h3 h4
  rw [e]
  by_cases z : g k.toNat = q ∧ g ((k + 1) % n).toNat = p
  · obtain ⟨z1, z2⟩ := z
    subst z1; subst z2
    have eix : (40 * g k.toNat + g ((k + 1) % n).toNat).toNat = ix := by omega
    have hno : ¬ hz_eb g n (g k.toNat) (g ((k + 1) % n).toNat) k.toNat = true := fun y => by
      obtain ⟨i, y1, y2, _⟩ := (hz_eb_t _).mp y
      exact gd i k.toNat (by omega) (by omega) (by omega) y2
    have hh := h _ _ h1 h2 h3 h4
    rw [if_neg hno, eix] at hh
    rw [eix, hx_up_at, if_pos ((hz_eb_t _).mpr ⟨k.toNat, by omega, rfl, by rw [ek]⟩), ex]
    exact i32_sub (by omega) hlv (by omega) (by omega)
  · rw [hz_eb_n (by rw [ek]; exact z), hx_up_ne (by omega)]
    exact h q p h1 h2 h3 h4
theorem hz_DT_e {ow ag bf : Nat → Int32} {r r1 : Nat → Int} {g : Nat → Int} {n l : Int} {cn k : Nat} (h : hz_DT ow (hz_V r ag bf cn) g n l k) (hV : ∀ q p : Int, 0 ≤ p → p < 40 → hz_V r1 ag bf cn (40 * q + p) = hz_V r ag bf cn (40 * q + p) - (if hz_eb g n q p k = true then l else 0)) : hz_DW ow r1 ag bf cn := fun x hx => by
  have e : (40 * ((x : Int) / 40) + (x : Int) % 40) = (x : Int) := by omega
  have := h ((x : Int) / 40) ((x : Int) % 40) (by omega) (by omega) (by omega) (by omega)
  rw [← hV _ _ (by omega) (by omega), e, Int.toNat_natCast] at this
  exact this
/-- one claim more is gone through, as it is done by hand -/
theorem hz_cn_y {r : Nat → Int} {mt : Nat → Bool} {s l m k k1 l1 m1 o : Int} (h : hz_cn r mt s k.toNat = (l, m)) (h0 : 0 ≤ k) (hl : 0 < l) (hm : mt k.toNat = true) (hr : 0 < r k.toNat) (ho : o = hz_mi l (r k.toNat)) (e1 : l1 = l - o) (e2 : m1 = m + 1) (e : k1 = k + 1) : hz_cn r mt s k1.toNat = (l1, m1) := by
  subst e; subst e1; subst e2; subst ho
  have e : (k + 1).toNat = k.toNat + 1 := by omega
  rw [e]; simp only [hz_cn, h]; rw [if_pos ⟨hl, hm, hr⟩]
theorem hz_cn_n {r : Nat → Int} {mt : Nat → Bool} {s l m k k1 : Int} (h : hz_cn r mt s k.toNat = (l, m)) (h0 : 0 ≤ k) (hn : ¬ (0 < l ∧ mt k.toNat = true ∧ 0 < r k.toNat)) (e : k1 = k + 1) : hz_cn r mt s k1.toNat = (l, m) := by
  subst e
  have e : (k + 1).toNat = k.toNat + 1 := by omega
  rw [e]; simp only [hz_cn, h]; rw [if_neg hn]
theorem hz_cn_z {r : Nat → Int} {mt : Nat → Bool} {s l m : Int} {k : Nat} (h : hz_cn r mt s k = (l, m)) (hl : l ≤ 0) : ∀ j : Nat, k ≤ j → hz_cn r mt s j = (l, m) := by
  intro j
  induction j with
  | zero => intro hj; have : k = 0 := by omega
            subst this; exact h
  | succ j ih =>
    intro hj
    by_cases z : k = j + 1
    · subst z; exact h
    · have e := ih (by omega)
      simp only [hz_cn, e]
      rw [if_neg (fun y => by have := y.1; omega)]
theorem hz_tk_y {R : hz_P → Nat → Int} {mt : Nat → Bool} {now c o : Int32} {P Q Q1 : hz_P} {s l k k1 l1 : Int} (h : hz_tk R mt now P s k.toNat = (Q, l)) (h0 : 0 ≤ k) (hk : k < 100) (hl : 0 < l) (hm : mt k.toNat = true) (hr : 0 < R Q k.toNat) (hb : R Q k.toNat ≤ 609999) (hc : c.toInt = k) (ho : o.toInt = hz_mi l (R Q k.toNat)) (eQ : Q1 = hz_ap Q c o now) (e1 : l1 = l - o.toInt) (e : k1 = k + 1) : hz_tk R mt now P s k1.toNat = (Q1, l1) := by
  subst e; subst e1; subst eQ
  have e : (k + 1).toNat = k.toNat + 1 := by omega
  have m1 := hz_mi_l (a := l) (b := R Q k.toNat)
  have m2 := hz_mi_c (a := l) (b := R Q k.toNat)
  have ec : Int32.ofNat k.toNat = c := Int32.toInt_inj.mp (by rw [Int32.toInt_ofNat_of_lt (by omega)]; omega)
  have eo : Int32.ofInt (hz_mi l (R Q k.toNat)) = o := Int32.toInt_inj.mp (by rw [hz_ofI (by omega) (by omega)]; omega)
  rw [e]; simp only [hz_tk, h]; rw [if_pos ⟨hl, hm, hr⟩, ec, eo, ho]
theorem hz_tk_n {R : hz_P → Nat → Int} {mt : Nat → Bool} {now : Int32} {P Q : hz_P} {s l k k1 : Int} (h : hz_tk R mt now P s k.toNat = (Q, l)) (h0 : 0 ≤ k) (hn : ¬ (0 < l ∧ mt k.toNat = true ∧ 0 < R Q k.toNat)) (e : k1 = k + 1) : hz_tk R mt now P s k1.toNat = (Q, l) := by
  subst e
  have e : (k + 1).toNat = k.toNat + 1 := by omega
  rw [e]; simp only [hz_tk, h]; rw [if_neg hn]
theorem hz_tk_z {R : hz_P → Nat → Int} {mt : Nat → Bool} {now : Int32} {P Q : hz_P} {s l : Int} {k : Nat} (h : hz_tk R mt now P s k = (Q, l)) (hl : l ≤ 0) : ∀ j : Nat, k ≤ j → hz_tk R mt now P s j = (Q, l) := by
  intro j
  induction j with
  | zero => intro hj; have : k = 0 := by omega
            subst this; exact h
  | succ j ih =>
    intro hj
    by_cases z : k = j + 1
    · subst z; exact h
    · have e := ih (by omega)
      simp only [hz_tk, e]
      rw [if_neg (fun y => by have := y.1; omega)]
theorem hz_ne_s {r : Nat → Int} {ag bf : Nat → Int32} {g : Nat → Int} {n l k k1 s s1 m : Int} {cn : Nat} {l9 : Int} (h : s = hz_ne r ag bf g n l cn k.toNat) (h0 : 0 ≤ k) (hc : hz_cn r (hz_mt ag bf (g k.toNat) (g ((k + 1) % n).toNat)) l cn = (l9, m)) (es : s1 = s + m) (e : k1 = k + 1) : s1 = hz_ne r ag bf g n l cn k1.toNat := by
  subst e
  have e : (k + 1).toNat = k.toNat + 1 := by omega
  have ek : ((k.toNat : Nat) : Int) = k := by omega
  rw [e]; simp only [hz_ne, ek, hc]; rw [← h, es]
theorem hz_tr_s {R : hz_P → Nat → Int} {ag bf : Nat → Int32} {g : Nat → Int} {n l k k1 : Int} {now : Int32} {cn : Nat} {P Q Q1 : hz_P} {l9 : Int} (h : Q = hz_tr R ag bf g n l now cn P k.toNat) (h0 : 0 ≤ k) (hc : hz_tk R (hz_mt ag bf (g k.toNat) (g ((k + 1) % n).toNat)) now Q l cn = (Q1, l9)) (e : k1 = k + 1) : Q1 = hz_tr R ag bf g n l now cn P k1.toNat := by
  subst e
  have e : (k + 1).toNat = k.toNat + 1 := by omega
  have ek : ((k.toNat : Nat) : Int) = k := by omega
  rw [e]; simp only [hz_tr, ek]; rw [← h, hc]
section HZN
variable {p : Program} {l : Launch} {e : Env} {R : Room} {s : State} {m : MethodId} {args : Array Value} {below : List Frame} {meth : Method} {c : Code} {H : Heap} {locs : List Loc} {cells slots : Nat} {Q : State → Prop}
variable {cc : ByteArray} {pc : Nat} {ls : Array Slot} {rest st0 : List Value} {D : va_G} {cl : List vw_C} {A : Nat → Prop} {a : Nat} {tys : hx_y} {H0 : Heap} {tb : List hx_d} {L : List Nat} {h : hx_h}
variable {y : MethodName} {bytes : ByteArray} {maxL nL mc ms n index : Nat} {ret : Option FieldType} {ws : List Cond} {rm : Room} {Ts : List Cond} {own C host : String} {As : List Value} {Qc : Array Value → State → Outcome → State → Prop}
theorem hz_copyi (hx : p.tables.exec = Jvm.exec) (hb : c.code = cc) (hml : c.maxLocals = ls.size) (hown : s.vm.findClass own = some m.cls) (hlink : (Cond.methodLink own index arraycopyName).before args s = true) (hnat : (Cond.native arraycopyName).before args s = true) (hstat : (Cond.static arraycopyName).before args s = true) (hini : (Cond.initialized "java/lang/System").before args s = true)
    (hW : hx_W tb tys D cl A H0 L h s H locs) (hT : hx_T tb L h) {a0 t t1 : Nat} (g0 : hx_g L h a0 t) (g1 : hx_g L h a t1) {t0 n0 n1 : Nat} {b0 b1 : Int × Int} (hd0 : tb[t]? = some (.inr (t0, n0, .inl b0))) (hd1 : tb[t1]? = some (.inr (t0, n1, .inl b1))) {cA : ClassId} (ht : tys[t0]? = some (cA, .int)) (hbb : b1.1 ≤ b0.1 ∧ b0.2 ≤ b1.2) {z1 z2 z3 : Int32} (e1 : z1 = 0) (e2 : z2 = 0) (h0 : 0 ≤ z3.toInt) (h3 : z3.toInt ≤ n0) (h4 : z3.toInt ≤ n1)
    (hframes : 1 ≤ R.frames) (hlocals : (rest.map fun v => v.category).sum + (nativeFrameWords "java/lang/System" "arraycopy" 5 + 11) ≤ R.locals) (hdg : decode cc pc = .ok (.invokestatic index, 3))
    (kk : ∀ (H1 : Heap) (locs1 : List Loc) (h1 : hx_h), h1.2.1 a = va_cpy (h.2.1 a0) (h.2.1 a) 0 0 z3.toNatClampNeg → hx_W tb tys D cl A H0 L h1 s H1 locs1 → hx_T tb L h1 → hx_S tb [(t1, 0)] L h L h1 → W p l e R s m args below meth c H1 locs1 cells slots Q (F0 m (pc + 3) ls rest)) : W p l e R s m args below meth c H locs cells slots Q (F0 m pc ls (.int z3 :: .int z2 :: .ref a :: .int z1 :: .ref a0 :: rest)) := by
  subst e1; subst e2
  obtain ⟨k0, hk0⟩ := hx_at (tb := tb) (tys := tys) (h := h) g0.1
  obtain ⟨k1, hk1⟩ := hx_at (tb := tb) (tys := tys) (h := h) g1.1
  have hk2 := hk1
  have hcA : hx_t tys t0 = cA := by simp [hx_t, ht]
  rw [hx_e_arr g0.2 hd0, hcA] at hk0
  rw [hx_e_arr g1.2 hd1, hcA] at hk1
  obtain ⟨hK, hP, hD, hS, hA⟩ := hW
  have hcl : z3.toNatClampNeg = z3.toInt.toNat := rfl
  have hneg : ¬ z3 < 0 := by rw [Int32.lt_iff_toInt_lt]; simp; omega
  have z0 : (0 : Int32).toNatClampNeg = 0 := by decide
  refine va_copyi hx hb hml hown hlink hnat hstat hini hK hP hD hS k0 k1 t0 t0 hk0 hk1 ht ht rfl (by decide) (by decide) hneg (by rw [z0, hcl]; omega) (by rw [z0, hcl]; omega) (fun _ _ => rfl) hframes hlocals hdg (fun H1 locs1 hP2 hD2 hS2 => ?_)
  rw [z0] at hP2 hD2
  have he : hx_e tb tys (h.1, fun x j => if x = a then va_cpy (h.2.1 a0) (h.2.1 a) 0 0 z3.toNatClampNeg j else h.2.1 x j, h.2.2) a = .inl (cA, n1, .inl (va_cpy (h.2.1 a0) (h.2.1 a) 0 0 z3.toNatClampNeg)) := by
    rw [hx_e_arr (h := (h.1, fun x j => if x = a then va_cpy (h.2.1 a0) (h.2.1 a) 0 0 z3.toNatClampNeg j else h.2.1 x j, h.2.2)) g1.2 hd1, hcA]
    simp [hx_a]
  rw [hx_set (h1 := (h.1, fun x j => if x = a then va_cpy (h.2.1 a0) (h.2.1 a) 0 0 z3.toNatClampNeg j else h.2.1 x j, h.2.2)) hD g1.1 hk2 he (fun x hxa => by simp [hx_e, hx_fs, hx_a, hxa])] at hP2 hD2
  refine kk H1 locs1 _ (funext fun j => if_pos rfl) ⟨hK, hP2, hD2, hS2, hA⟩ (fun q hq => ?_) ⟨fun q hq => ⟨hq, rfl⟩, fun q hq k hk => ⟨?_, rfl⟩⟩
  · by_cases hqa : q = a
    · subst hqa
      unfold hx_c
      show (match tb[h.1 q]? with | some (.inl (_, fs)) => _ | some (.inr (_, n, f)) => _ | none => False)
      rw [g1.2, hd1]
      intro k hk
      simp only [if_true]
      show b1.1 ≤ _ ∧ _ ≤ b1.2
      by_cases hkz : k < z3.toNatClampNeg
      · have e : va_cpy (h.2.1 a0) (h.2.1 q) 0 0 z3.toNatClampNeg k = h.2.1 a0 k := by simp [va_cpy, hkz]
        rw [e]
        have := hT.ei g0 hd0 (k := k) (by rw [hcl] at hkz; omega)
        exact ⟨Int.le_trans hbb.1 this.1, Int.le_trans this.2 hbb.2⟩
      · have e : va_cpy (h.2.1 a0) (h.2.1 q) 0 0 z3.toNatClampNeg k = h.2.1 q k := by simp [va_cpy, hkz]
        rw [e]
        exact hT.ei g1 hd1 hk
    · have h1 := hT q hq
      unfold hx_c at h1 ⊢
      simp only [hqa, if_false]
      exact h1
  · have hqa : q ≠ a := by
      intro z
      rw [z, g1.2, hd1] at hk
      exact hk (List.mem_singleton.mpr rfl)
    simp [hqa]
end HZN
