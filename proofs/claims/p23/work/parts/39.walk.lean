/-! PURE FACTS for the reference's walk -/
def hx_ab (a b : Int) : Int := if a < b then b - a else a - b
def hx_cx (lf agf df : Nat → Int32) (n i : Int) : Int := if i = n then 50 else (df (agf (lf i.toNat).toInt.toNat).toInt.toNat).toInt
def hx_fr (lf agf dxf dyf : Nat → Int32) (n i k : Int) : Int := hx_ab (hx_cx lf agf dxf n i) (hx_cx lf agf dxf n k) + hx_ab (hx_cx lf agf dyf n i) (hx_cx lf agf dyf n k)
def hx_bt (l k : Int) : Bool := (l.toNat / 2 ^ k.toNat) % 2 == 1
def hx_p2 (k : Int) : Int := 2 ^ k.toNat
def hx_pc (l : Int) : Int := ((l.toNat % 2 + l.toNat / 2 % 2 + l.toNat / 4 % 2 + l.toNat / 8 % 2 + l.toNat / 16 % 2 + l.toNat / 32 % 2 + l.toNat / 64 % 2 + l.toNat / 128 % 2 : Nat) : Int)
def hx_bck (l k : Nat) : Bool := decide ((((Int32.ofNat l) >>> ((Int32.ofNat k) &&& 31)) &&& 1).toInt = if hx_bt l k then 1 else 0) && decide (0 ≤ ((Int32.ofNat l) ^^^ ((1 : Int32) <<< ((Int32.ofNat k) &&& 31))).toInt) && decide (((Int32.ofNat l) ^^^ ((1 : Int32) <<< ((Int32.ofNat k) &&& 31))).toInt ≤ 255) && (!hx_bt l k || (decide (((Int32.ofNat l) ^^^ ((1 : Int32) <<< ((Int32.ofNat k) &&& 31))).toInt = l - hx_p2 k) && decide (1 ≤ hx_p2 k) && decide (hx_p2 k ≤ l) && decide (hx_pc (l - hx_p2 k) = hx_pc l - 1)))
theorem hx_bcb : (List.range 256).all (fun l => (List.range 8).all (fun k => hx_bck l k)) = true := by decide +kernel
theorem hx_bits {L K : Int32} (h0 : 0 ≤ L.toInt) (h1 : L.toInt ≤ 255) (k0 : 0 ≤ K.toInt) (k1 : K.toInt ≤ 7) : ((L >>> (K &&& 31)) &&& 1).toInt = (if hx_bt L.toInt K.toInt = true then 1 else 0) ∧ 0 ≤ (L ^^^ ((1 : Int32) <<< (K &&& 31))).toInt ∧ (L ^^^ ((1 : Int32) <<< (K &&& 31))).toInt ≤ 255 ∧ (hx_bt L.toInt K.toInt = true → (L ^^^ ((1 : Int32) <<< (K &&& 31))).toInt = L.toInt - hx_p2 K.toInt ∧ 1 ≤ hx_p2 K.toInt ∧ hx_p2 K.toInt ≤ L.toInt ∧ hx_pc (L.toInt - hx_p2 K.toInt) = hx_pc L.toInt - 1) := by
  have eL : L = Int32.ofNat L.toInt.toNat := Int32.toInt_inj.mp (by rw [Int32.toInt_ofNat_of_lt (by omega)]; omega)
  have eK : K = Int32.ofNat K.toInt.toNat := Int32.toInt_inj.mp (by rw [Int32.toInt_ofNat_of_lt (by omega)]; omega)
  have h := List.all_eq_true.mp (List.all_eq_true.mp hx_bcb L.toInt.toNat (List.mem_range.mpr (by omega))) K.toInt.toNat (List.mem_range.mpr (by omega))
  have l1 : ((L.toInt.toNat : Nat) : Int) = L.toInt := by omega
  have l2 : ((K.toInt.toNat : Nat) : Int) = K.toInt := by omega
  simp only [hx_bck, Bool.and_eq_true, decide_eq_true_eq, Bool.or_eq_true, Bool.not_eq_true', ← eL, ← eK, l1, l2] at h
  obtain ⟨⟨⟨a, b⟩, c⟩, d⟩ := h
  refine ⟨a, b, c, fun z => ?_⟩
  rcases d with d | ⟨⟨⟨d1, d2⟩, d3⟩, d4⟩
  · rw [z] at d; cases d
  · exact ⟨d1, d2, d3, d4⟩
def hx_exk (n l : Nat) : Bool := decide (l = 0) || decide (2 ^ n ≤ l) || (List.range n).any (fun k => hx_bt l k)
theorem hx_exb : (List.range 9).all (fun n => (List.range 256).all (fun l => hx_exk n l)) = true := by decide +kernel
theorem hx_exbit {n l : Int} (n0 : 0 ≤ n) (n1 : n ≤ 8) (h0 : 0 < l) (h1 : l < 2 ^ n.toNat) (h2 : l ≤ 255) : ∃ k : Int, 0 ≤ k ∧ k < n ∧ hx_bt l k = true := by
  have h := List.all_eq_true.mp (List.all_eq_true.mp hx_exb n.toNat (List.mem_range.mpr (by omega))) l.toNat (List.mem_range.mpr (by omega))
  simp only [hx_exk, Bool.or_eq_true, decide_eq_true_eq, List.any_eq_true, List.mem_range] at h
  have e : ((l.toNat : Nat) : Int) = l := by omega
  rcases h with (h | h) | ⟨k, hk, hb⟩
  · omega
  · exfalso
    have h3 : ((2 ^ n.toNat : Nat) : Int) ≤ ((l.toNat : Nat) : Int) := Int.ofNat_le.mpr h
    have h4 : ((2 ^ n.toNat : Nat) : Int) = 2 ^ n.toNat := by simp
    omega
  · exact ⟨k, by omega, by omega, by rw [e] at hb; exact hb⟩
theorem hx_pcb : (List.range 9).all (fun n => decide (hx_pc (2 ^ n - 1 : Int) = n)) = true := by decide +kernel
theorem hx_pc_all {n : Int} (n0 : 0 ≤ n) (n1 : n ≤ 8) : hx_pc (2 ^ n.toNat - 1) = n := by
  have h := List.all_eq_true.mp hx_pcb n.toNat (List.mem_range.mpr (by omega))
  simp only [decide_eq_true_eq] at h
  rw [h]; omega
theorem hx_pc_pos : (List.range 256).all (fun l => decide (l = 0) || decide (1 ≤ hx_pc l)) = true := by decide +kernel
theorem hx_pc_1 {l : Int} (h0 : 0 < l) (h1 : l ≤ 255) : 1 ≤ hx_pc l := by
  have h := List.all_eq_true.mp hx_pc_pos l.toNat (List.mem_range.mpr (by omega))
  have e : ((l.toNat : Nat) : Int) = l := by omega
  simp only [Bool.or_eq_true, decide_eq_true_eq, e] at h
  omega
theorem hx_pc_0 : hx_pc 0 = 0 := by decide
theorem hx_p2b : (List.range 9).all (fun n => decide (((1 : Int32) <<< ((Int32.ofNat n) &&& 31)).toInt = 2 ^ n)) = true := by decide +kernel
theorem hx_sh2 {n : Int32} (h0 : 0 ≤ n.toInt) (h1 : n.toInt ≤ 8) : ((1 : Int32) <<< (n &&& 31)).toInt = 2 ^ n.toInt.toNat := by
  have e : n = Int32.ofNat n.toInt.toNat := Int32.toInt_inj.mp (by rw [Int32.toInt_ofNat_of_lt (by omega)]; omega)
  have h := List.all_eq_true.mp hx_p2b n.toInt.toNat (List.mem_range.mpr (by omega))
  rw [← e] at h
  simpa using h
/-- what stands in home: bounds, and whose way it is; for all sets below l, and for l itself below i -/
def hx_dq (F : Int → Int → Int) (n : Int) (hm : Nat → Int32) (l i : Int) : Prop := 0 ≤ (hm (9 * l + i).toNat).toInt ∧ (hm (9 * l + i).toNat).toInt ≤ 198 * (l + 1) ∧ (l ≠ 0 → ∃ k : Int, 0 ≤ k ∧ k < n ∧ hx_bt l k = true ∧ (hm (9 * l + i).toNat).toInt = F i k + (hm (9 * (l - hx_p2 k) + k).toNat).toInt) ∧ (l = 0 → (hm (9 * l + i).toNat).toInt = F i n) ∧ ∀ k : Int, 0 ≤ k → k < n → hx_bt l k = true → (hm (9 * l + i).toNat).toInt ≤ F i k + (hm (9 * (l - hx_p2 k) + k).toNat).toInt
def hx_D (F : Int → Int → Int) (n : Int) (hm : Nat → Int32) (l i : Int) : Prop := (∀ l' i' : Int, 0 ≤ l' → l' < l → 0 ≤ i' → i' ≤ n → hx_dq F n hm l' i') ∧ ∀ i' : Int, 0 ≤ i' → i' < i → hx_dq F n hm l i'
theorem hx_D0 {F : Int → Int → Int} {n : Int} {hm : Nat → Int32} : hx_D F n hm 0 0 := ⟨fun l' i' h0 h1 => absurd h1 (by omega), fun i' h0 h1 => absurd h1 (by omega)⟩
theorem hx_D_row {F : Int → Int → Int} {n l l1 i : Int} {hm : Nat → Int32} (h : hx_D F n hm l i) (hi : n < i) (e : l1 = l + 1) : hx_D F n hm l1 0 := by
  subst e
  refine ⟨fun l' i' h0 h1 h2 h3 => ?_, fun i' h0 h1 => absurd h1 (by omega)⟩
  by_cases z : l' = l
  · subst z; exact h.2 i' h2 (by omega)
  · exact h.1 l' i' h0 (by omega) h2 h3
/-- the best way so far -/
def hx_best (F : Int → Int → Int) (hm : Nat → Int32) (l i k best : Int) : Prop := ((best = 1000000000 ∧ ∀ k' : Int, 0 ≤ k' → k' < k → hx_bt l k' = false) ∨ ∃ k' : Int, 0 ≤ k' ∧ k' < k ∧ hx_bt l k' = true ∧ best = F i k' + (hm (9 * (l - hx_p2 k') + k').toNat).toInt ∧ 0 ≤ best ∧ best ≤ 198 * (l + 1)) ∧ ∀ k' : Int, 0 ≤ k' → k' < k → hx_bt l k' = true → best ≤ F i k' + (hm (9 * (l - hx_p2 k') + k').toNat).toInt
theorem hx_best0 {F : Int → Int → Int} {hm : Nat → Int32} {l i : Int} : hx_best F hm l i 0 1000000000 := ⟨Or.inl ⟨rfl, fun k' h0 h1 => absurd h1 (by omega)⟩, fun k' h0 h1 => absurd h1 (by omega)⟩
theorem hx_best_no {F : Int → Int → Int} {hm : Nat → Int32} {l i k k1 best : Int} (h : hx_best F hm l i k best) (hb : hx_bt l k = false) (e : k1 = k + 1) : hx_best F hm l i k1 best := by
  subst e
  refine ⟨?_, fun k' h0 h1 h2 => ?_⟩
  rotate_left
  · by_cases z : k' = k
    · subst z; rw [hb] at h2; cases h2
    · exact h.2 k' h0 (by omega) h2
  rcases h.1 with ⟨h1, h2⟩ | ⟨k', a, b, c⟩
  · refine Or.inl ⟨h1, fun k' h0 h1 => ?_⟩
    by_cases z : k' = k
    · subst z; exact hb
    · exact h2 k' h0 (by omega)
  · exact Or.inr ⟨k', a, by omega, c⟩
theorem hx_best_yes {F : Int → Int → Int} {n : Int} {hm : Nat → Int32} {l i k k1 best best1 cand : Int} (hD : hx_D F n hm l i) (h : hx_best F hm l i k best) (hb : hx_bt l k = true) (hp1 : 1 ≤ hx_p2 k) (hp2 : hx_p2 k ≤ l) (hl : l ≤ 255) (hk0 : 0 ≤ k) (hkn : k < n) (hF0 : 0 ≤ F i k) (hF1 : F i k ≤ 198) (hc : cand = F i k + (hm (9 * (l - hx_p2 k) + k).toNat).toInt) (hbest : (best1 = best ∧ best < cand) ∨ (best1 = cand ∧ cand ≤ best)) (e : k1 = k + 1) : hx_best F hm l i k1 best1 := by
  subst e
  have hd := hD.1 (l - hx_p2 k) k (by omega) (by omega) hk0 (by omega)
  have c0 : 0 ≤ cand := by rw [hc]; have := hd.1; omega
  have c1 : cand ≤ 198 * (l + 1) := by rw [hc]; have := hd.2.1; omega
  refine ⟨?_, fun k' h0 h1 h2 => ?_⟩
  rotate_left
  · by_cases z : k' = k
    · subst z; rw [← hc]; rcases hbest with ⟨e1, e2⟩ | ⟨e1, e2⟩ <;> omega
    · have := h.2 k' h0 (by omega) h2
      rcases hbest with ⟨e1, e2⟩ | ⟨e1, e2⟩ <;> omega
  rcases hbest with ⟨e1, e2⟩ | ⟨e1, e2⟩
  · rcases h.1 with ⟨h1, h2⟩ | ⟨k', a, b, c, d⟩
    · omega
    · exact Or.inr ⟨k', a, by omega, c, by rw [e1]; exact d.1, by rw [e1]; exact d.2⟩
  · exact Or.inr ⟨k, hk0, by omega, hb, by rw [e1, hc], by omega, by omega⟩
theorem hx_dq_up {F : Int → Int → Int} {n l i l' i' : Int} {hm : Nat → Int32} {v : Int32} (h : hx_dq F n hm l' i') (h0 : 0 ≤ l') (h1 : 0 ≤ i') (hi8 : i' ≤ 8) (hl : l' < l ∨ (l' = l ∧ i' < i)) (hi : 0 ≤ i ∧ i ≤ 8) (hl0 : 0 ≤ l) (hn : n ≤ 8) (hp : ∀ k : Int, hx_bt l' k = true → 0 ≤ k → k < n → 1 ≤ hx_p2 k ∧ hx_p2 k ≤ l') : hx_dq F n (hx_up hm (9 * l + i).toNat v) l' i' := by
  have ne : (9 * l' + i').toNat ≠ (9 * l + i).toNat := by omega
  unfold hx_dq
  rw [hx_up_ne ne]
  refine ⟨h.1, h.2.1, fun z => ?_, h.2.2.2.1, fun k a b c => ?_⟩
  · obtain ⟨k, a, b, c, d⟩ := h.2.2.1 z
    refine ⟨k, a, b, c, ?_⟩
    have := hp k c a b
    rw [hx_up_ne (by omega)]; exact d
  · have := hp k c a b
    rw [hx_up_ne (by omega)]; exact h.2.2.2.2 k a b c
theorem hx_p2_le {l k : Int} (h0 : 0 ≤ l) (h1 : l ≤ 255) (hb : hx_bt l k = true) (k0 : 0 ≤ k) (k1 : k < 8) : 1 ≤ hx_p2 k ∧ hx_p2 k ≤ l := by
  have h := List.all_eq_true.mp (List.all_eq_true.mp hx_bcb l.toNat (List.mem_range.mpr (by omega))) k.toNat (List.mem_range.mpr (by omega))
  have l1 : ((l.toNat : Nat) : Int) = l := by omega
  have l2 : ((k.toNat : Nat) : Int) = k := by omega
  simp only [hx_bck, Bool.and_eq_true, decide_eq_true_eq, Bool.or_eq_true, Bool.not_eq_true', l1, l2] at h
  rcases h.2 with d | d
  · rw [hb] at d; cases d
  · exact ⟨d.1.1.2, d.1.2⟩
/-- a place of home is filled -/
theorem hx_D_put {F : Int → Int → Int} {n l i i1 best : Int} {hm hm1 : Nat → Int32} {v ix : Int32} (h : hx_D F n hm l i) (hl0 : 0 ≤ l) (hl1 : l ≤ 255) (hi0 : 0 ≤ i) (hin : i ≤ n) (hn : n ≤ 8) (hix : ix.toInt = 9 * l + i) (hv : v.toInt = best) (e : hm1 = hx_up hm ix.toNatClampNeg v) (e1 : i1 = i + 1) (hb : (l = 0 ∧ 0 ≤ best ∧ best ≤ 198 ∧ best = F i n) ∨ (l ≠ 0 ∧ l < 2 ^ n.toNat ∧ hx_best F hm l i n best)) : hx_D F n hm1 l i1 := by
  subst e; subst e1
  have eix : ix.toNatClampNeg = (9 * l + i).toNat := by unfold Int32.toNatClampNeg; omega
  rw [eix]
  have hp : ∀ l' : Int, 0 ≤ l' → l' ≤ 255 → ∀ k : Int, hx_bt l' k = true → 0 ≤ k → k < n → 1 ≤ hx_p2 k ∧ hx_p2 k ≤ l' := fun l' a b k c d e => hx_p2_le a b c d (by omega)
  refine ⟨fun l' i' h0 h1 h2 h3 => hx_dq_up (h.1 l' i' h0 h1 h2 h3) h0 h2 (by omega) (Or.inl h1) ⟨hi0, by omega⟩ hl0 hn (hp l' h0 (by omega)), fun i' h0 h1 => ?_⟩
  by_cases z : i' = i
  · subst z
    unfold hx_dq
    rw [hx_up_at, hv]
    have hbt0 : ∀ k : Int, hx_bt 0 k = false := fun k => by simp [hx_bt]
    rcases hb with ⟨b1, b2, b3, b4⟩ | ⟨b1, b2, b3⟩
    · exact ⟨b2, by omega, fun w => absurd b1 w, fun _ => b4, fun k k0 k1 kb => by rw [b1, hbt0] at kb; cases kb⟩
    · rcases b3.1 with ⟨c1, c2⟩ | ⟨k, c1, c2, c3, c4, c5, c6⟩
      · obtain ⟨k, d1, d2, d3⟩ := hx_exbit (n := n) (l := l) (by omega) hn (by omega) b2 hl1
        rw [c2 k d1 d2] at d3; cases d3
      · refine ⟨c5, c6, fun _ => ⟨k, c1, c2, c3, ?_⟩, fun w => absurd w b1, fun k k0 k1 kb => ?_⟩
        · have := hp l hl0 hl1 k c3 c1 c2
          rw [hx_up_ne (by omega)]; exact c4
        · have := hp l hl0 hl1 k kb k0 k1
          rw [hx_up_ne (by omega)]; exact b3.2 k k0 k1 kb
  · exact hx_dq_up (h.2 i' h0 (by omega)) hl0 h0 (by omega) (Or.inr ⟨rfl, by omega⟩) ⟨hi0, by omega⟩ hl0 hn (hp l hl0 hl1)
theorem hx_bit_yes {L K x y : Int32} (q : ((L >>> (K &&& 31)) &&& 1).toInt = (if hx_bt L.toInt K.toInt = true then 1 else 0)) (ey : y = L >>> (K &&& 31)) (ex : x = y &&& 1) (hx : x.toInt ≠ 0) : hx_bt L.toInt K.toInt = true := by
  rw [← ey, ← ex] at q
  cases h : hx_bt L.toInt K.toInt with
  | true => rfl
  | false => rw [h] at q; simp at q; exact absurd (by rw [q]) hx
theorem hx_bit_no {L K x y : Int32} (q : ((L >>> (K &&& 31)) &&& 1).toInt = (if hx_bt L.toInt K.toInt = true then 1 else 0)) (ey : y = L >>> (K &&& 31)) (ex : x = y &&& 1) (hx : x.toInt ≠ 1) : hx_bt L.toInt K.toInt = false := by
  rw [← ey, ← ex] at q
  cases h : hx_bt L.toInt K.toInt with
  | false => rfl
  | true => rw [h] at q; simp at q; exact absurd (by rw [q]) hx
