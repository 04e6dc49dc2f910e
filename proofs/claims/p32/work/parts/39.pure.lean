section
/-! PURE FACTS for the reference's reader of texts and its small stack -/
def hx_up (f : Nat → Int32) (k : Nat) (v : Int32) : Nat → Int32 := fun j => if j = k then v else f j
theorem hx_up_at {f : Nat → Int32} {k : Nat} {v : Int32} : hx_up f k v k = v := by simp [hx_up]
theorem hx_up_ne {f : Nat → Int32} {k j : Nat} {v : Int32} (h : j ≠ k) : hx_up f k v j = f j := by simp [hx_up, h]
theorem hx_pi_fun (h : hx_h) (a k : Nat) (x : Int32) : (hx_pi h a k x).2.1 a = hx_up (h.2.1 a) k x := by
  funext j
  simp [hx_pi, hx_up]
/-- a comparison as the stack's steps have it -/
def hx_okc (s : Int) : Bool := decide (1000000 ≤ s) && decide (s < 9000000) && decide (s % 100000 < 10008)
/-- how high the stack stands behind n steps; none: they can't be gone through -/
def hx_rp (f : Nat → Int32) : Nat → Option Nat
  | 0 => some 0
  | n + 1 => match hx_rp f n with
    | none => none
    | some d => if hx_okc (f n).toInt = true then some (d + 1) else if (f n).toInt = 2 then (if 1 ≤ d then some d else none) else if (f n).toInt = 0 ∨ (f n).toInt = 1 then (if 2 ≤ d then some (d - 1) else none) else none
theorem hx_rp_s {f : Nat → Int32} {n : Nat} : hx_rp f (n + 1) = (match hx_rp f n with
    | none => none
    | some d => if hx_okc (f n).toInt = true then some (d + 1) else if (f n).toInt = 2 then (if 1 ≤ d then some d else none) else if (f n).toInt = 0 ∨ (f n).toInt = 1 then (if 2 ≤ d then some (d - 1) else none) else none) := rfl
theorem hx_rp_congr {f g : Nat → Int32} : ∀ n, (∀ j, j < n → f j = g j) → hx_rp f n = hx_rp g n := by
  intro n
  induction n with
  | zero => intro _; rfl
  | succ n ih =>
    intro h
    rw [hx_rp_s, hx_rp_s, ih (fun j hj => h j (by omega)), h n (by omega)]
theorem hx_rp_up {f : Nat → Int32} {n : Nat} {v : Int32} : hx_rp (hx_up f n v) n = hx_rp f n := hx_rp_congr n (fun j hj => hx_up_ne (by omega))
theorem hx_rp_c {f : Nat → Int32} {n d : Nat} {v : Int32} (h : hx_rp f n = some d) (hv : hx_okc v.toInt = true) : hx_rp (hx_up f n v) (n + 1) = some (d + 1) := by
  rw [hx_rp_s, hx_rp_up, h, hx_up_at]
  simp [hv]
theorem hx_rp_n {f : Nat → Int32} {n d : Nat} {v : Int32} (h : hx_rp f n = some d) (hv : v.toInt = 2) (hd : 1 ≤ d) : hx_rp (hx_up f n v) (n + 1) = some d := by
  rw [hx_rp_s, hx_rp_up, h, hx_up_at, hv]
  simp [hx_okc, hd]
theorem hx_rp_j {f : Nat → Int32} {n d : Nat} {v : Int32} (h : hx_rp f n = some d) (hv : v.toInt = 0 ∨ v.toInt = 1) (hd : 2 ≤ d) : hx_rp (hx_up f n v) (n + 1) = some (d - 1) := by
  rw [hx_rp_s, hx_rp_up, h, hx_up_at]
  rcases hv with hv | hv <;> rw [hv] <;> simp [hx_okc, hd]
/-- joints that wait, openings and nots that wait -/
def hx_ao (f : Nat → Int32) : Nat → Nat
  | 0 => 0
  | n + 1 => hx_ao f n + (if (f n).toInt = 0 ∨ (f n).toInt = 1 then 1 else 0)
def hx_dp (f : Nat → Int32) : Nat → Nat
  | 0 => 0
  | n + 1 => hx_dp f n + (if (f n).toInt = 2 ∨ (f n).toInt = 100 then 1 else 0)
def hx_nn (f : Nat → Int32) : Nat → Nat
  | 0 => 0
  | n + 1 => hx_nn f n + (if (f n).toInt = 2 then 1 else 0)
def hx_oe (f : Nat → Int32) (n : Nat) : Prop := ∀ k, k < n → (f k).toInt = 0 ∨ (f k).toInt = 1 ∨ (f k).toInt = 2 ∨ (f k).toInt = 100
theorem hx_cnt_congr {f g : Nat → Int32} : ∀ n, (∀ j, j < n → f j = g j) → hx_ao f n = hx_ao g n ∧ hx_dp f n = hx_dp g n ∧ hx_nn f n = hx_nn g n := by
  intro n
  induction n with
  | zero => intro _; exact ⟨rfl, rfl, rfl⟩
  | succ n ih =>
    intro h
    obtain ⟨a, b, c⟩ := ih (fun j hj => h j (by omega))
    simp only [hx_ao, hx_dp, hx_nn, a, b, c, h n (by omega)]
    exact ⟨trivial, trivial, trivial⟩
theorem hx_cnt_up {f : Nat → Int32} {n : Nat} {v : Int32} : hx_ao (hx_up f n v) n = hx_ao f n ∧ hx_dp (hx_up f n v) n = hx_dp f n ∧ hx_nn (hx_up f n v) n = hx_nn f n := hx_cnt_congr n (fun j hj => hx_up_ne (by omega))
theorem hx_cnt_sum {f : Nat → Int32} : ∀ n, hx_oe f n → hx_ao f n + hx_dp f n = n ∧ hx_nn f n ≤ hx_dp f n := by
  intro n
  induction n with
  | zero => intro _; exact ⟨rfl, Nat.le_refl _⟩
  | succ n ih =>
    intro h
    obtain ⟨a, b⟩ := ih (fun k hk => h k (by omega))
    have := h n (by omega)
    simp only [hx_ao, hx_dp, hx_nn]
    rcases this with z | z | z | z <;> simp [z] <;> omega
/-- the reader's state in what an ACT proves: b is 1 where a whole comparison stands -/
def hx_Q (b : Nat) (C nx st op : Int) (sf of : Nat → Int32) : Prop := 0 ≤ st ∧ 0 ≤ op ∧ 0 ≤ C ∧ C ≤ 20 ∧ nx ≤ 400 ∧ hx_oe of op.toNat ∧ hx_dp of op.toNat ≤ 8 ∧ ∃ N J : Int, 0 ≤ N ∧ 0 ≤ J ∧ st + hx_ao of op.toNat + hx_nn of op.toNat = N + C + J ∧ 3 * N + 5 * C + 2 * J + 5 ≤ nx ∧ N ≤ 8 * C + (if b = 0 then (hx_dp of op.toNat : Int) else 0) ∧ J + b ≤ C ∧ (hx_ao of op.toNat : Int) ≤ J ∧ hx_rp sf st.toNat = some (hx_ao of op.toNat + b)
theorem hx_Q_start {nx : Int} {sf of : Nat → Int32} (h : 5 ≤ nx) (h4 : nx ≤ 400) : hx_Q 0 0 nx 0 0 sf of := by
  refine ⟨by omega, by omega, by omega, by omega, h4, fun k hk => absurd hk (by simp), by simp [hx_dp], 0, 0, by omega, by omega, ?_, by omega, ?_, by omega, by simp [hx_ao], rfl⟩
  · simp [hx_ao, hx_nn]
  · simp [hx_dp]
/-- room for a comparison's step -/
theorem hx_Q_room {C nx st op : Int} {sf of : Nat → Int32} (q : hx_Q 0 C nx st op sf of) (h : nx + 5 ≤ 400) : st ≤ 126 := by
  obtain ⟨h1, h2, h3, h3b, h4, h5, h6, N, J, n1, n2, n3, n4, n5, n6, n7, n8⟩ := q
  simp only [if_true] at n5
  omega
theorem hx_Q_op {b : Nat} {C nx st op : Int} {sf of : Nat → Int32} (q : hx_Q b C nx st op sf of) : op ≤ 28 := by
  obtain ⟨h1, h2, h3, h3b, h4, h5, h6, N, J, n1, n2, n3, n4, n5, n6, n7, n8⟩ := q
  obtain ⟨a, -⟩ := hx_cnt_sum op.toNat h5
  omega
/-- a comparison is written -/
theorem hx_Q_cmp {C nx nx1 st op : Int} {sf of : Nat → Int32} {v : Int32} {k : Nat} (q : hx_Q 0 C nx st op sf of) (hC : C < 20) (h : nx + 5 ≤ nx1) (h4 : nx1 ≤ 400) (hv : hx_okc v.toInt = true) (hk : (k : Int) = st) : hx_Q 1 (C + 1) nx1 (st + 1) op (hx_up sf k v) of := by
  obtain ⟨h1, h2, h3, h3b, -, h5, h6, N, J, n1, n2, n3, n4, n5, n6, n7, n8⟩ := q
  simp only [if_true] at n5
  have e : (st + 1).toNat = k + 1 := by omega
  have e0 : st.toNat = k := by omega
  refine ⟨by omega, h2, by omega, by omega, h4, h5, h6, N, J, n1, n2, by omega, by omega, ?_, by omega, n7, ?_⟩
  · simp; omega
  · rw [e]
    rw [e0] at n8
    exact hx_rp_c n8 hv
theorem hx_oe_up {of : Nat → Int32} {k : Nat} {v : Int32} (h : hx_oe of k) (hv : v.toInt = 0 ∨ v.toInt = 1 ∨ v.toInt = 2 ∨ v.toInt = 100) : hx_oe (hx_up of k v) (k + 1) := by
  intro j hj
  by_cases z : j = k
  · subst z; rw [hx_up_at]; exact hv
  · rw [hx_up_ne z]; exact h j (by omega)
/-- a not or an opening is laid on the pile -/
theorem hx_Q_open {C nx nx1 st op : Int} {sf of : Nat → Int32} {v : Int32} {k : Nat} (q : hx_Q 0 C nx st op sf of) (hd : (hx_dp of op.toNat : Int) < 8) (hv : (v.toInt = 2 ∧ nx + 3 ≤ nx1) ∨ (v.toInt = 100 ∧ nx ≤ nx1)) (h4 : nx1 ≤ 400) (hk : (k : Int) = op) : hx_Q 0 C nx1 st (op + 1) sf (hx_up of k v) := by
  obtain ⟨h1, h2, h3, h3b, -, h5, h6, N, J, n1, n2, n3, n4, n5, n6, n7, n8⟩ := q
  simp only [if_true] at n5
  have e : (op + 1).toNat = k + 1 := by omega
  have e0 : op.toNat = k := by omega
  rw [e0] at h5 h6 hd n3 n5 n7 n8
  obtain ⟨c1, c2, c3⟩ := hx_cnt_up (f := of) (n := k) (v := v)
  refine ⟨h1, by omega, h3, h3b, h4, by rw [e]; exact hx_oe_up h5 (by omega), ?_, ?_⟩
  · rw [e]; simp only [hx_dp, hx_up_at, c2]; split <;> omega
  · rw [e]
    simp only [hx_ao, hx_dp, hx_nn, hx_up_at, c1, c2, c3]
    rcases hv with ⟨hv, hn⟩ | ⟨hv, hn⟩
    · refine ⟨N + 1, J, by omega, n2, ?_, by omega, ?_, n6, ?_, ?_⟩ <;> simp only [hv] <;> simp <;> first | omega | exact n8
    · refine ⟨N, J, n1, n2, ?_, by omega, ?_, n6, ?_, ?_⟩ <;> simp only [hv] <;> simp <;> first | omega | exact n8
/-- a joint is laid on the pile -/
theorem hx_Q_join {C nx nx1 st op : Int} {sf of : Nat → Int32} {v : Int32} {k : Nat} (q : hx_Q 1 C nx st op sf of) (hv : v.toInt = 0 ∨ v.toInt = 1) (hn : nx + 2 ≤ nx1) (h4 : nx1 ≤ 400) (hk : (k : Int) = op) : hx_Q 0 C nx1 st (op + 1) sf (hx_up of k v) := by
  obtain ⟨h1, h2, h3, h3b, -, h5, h6, N, J, n1, n2, n3, n4, n5, n6, n7, n8⟩ := q
  have n5' : N ≤ 8 * C := by simpa using n5
  have e : (op + 1).toNat = k + 1 := by omega
  have e0 : op.toNat = k := by omega
  rw [e0] at h5 h6 n3 n7 n8
  obtain ⟨c1, c2, c3⟩ := hx_cnt_up (f := of) (n := k) (v := v)
  refine ⟨h1, by omega, h3, h3b, h4, by rw [e]; exact hx_oe_up h5 (by omega), ?_, N, J + 1, n1, by omega, ?_, by omega, ?_, by omega, ?_, ?_⟩
  · rw [e]; simp only [hx_dp, hx_up_at, c2]; split <;> omega
  · rw [e]; simp only [hx_ao, hx_nn, hx_up_at, c1, c3]; rcases hv with hv | hv <;> simp [hv] <;> omega
  · rw [e]; simp only [hx_dp, hx_up_at, c2, if_true]; split <;> omega
  · rw [e]; simp only [hx_ao, hx_up_at, c1]; rcases hv with hv | hv <;> simp [hv] <;> omega
  · rw [e]; simp only [hx_ao, hx_up_at, c1]; rcases hv with hv | hv <;> simp [hv] <;> exact n8
/-- the uppermost of the pile is written as a step -/
theorem hx_Q_pop {C nx st op : Int} {sf of : Nat → Int32} {v : Int32} {k : Nat} (q : hx_Q 1 C nx st op sf of) (hop : 0 < op) (hv : v = of (op.toNat - 1)) (h2 : v.toInt = 0 ∨ v.toInt = 1 ∨ v.toInt = 2) (hk : (k : Int) = st) : hx_Q 1 C nx (st + 1) (op - 1) (hx_up sf k v) of ∧ st ≤ 126 := by
  have e1 : ∃ o : Nat, op.toNat = o + 1 := ⟨op.toNat - 1, by omega⟩
  obtain ⟨o, ho⟩ := e1
  have hv' : v = of o := by rw [hv, ho]; rfl
  have q0 := q
  obtain ⟨h1, h2a, h3, h3b, h4, h5, h6, N, J, n1, n2, n3, n4, n5, n6, n7, n8⟩ := q
  have n5' : N ≤ 8 * C := by simpa using n5
  have e : (st + 1).toNat = k + 1 := by omega
  have e0 : st.toNat = k := by omega
  have eo : (op - 1).toNat = o := by omega
  rw [ho] at h5 h6 n3 n7 n8
  rw [e0] at n8
  simp only [hx_ao, hx_dp, hx_nn, ← hv'] at h6 n3 n7 n8
  refine ⟨⟨by omega, by omega, h3, h3b, h4, by rw [eo]; exact fun j hj => h5 j (by omega), ?_, N, J, n1, n2, ?_, n4, by simp; omega, n6, ?_, ?_⟩, ?_⟩
  · rw [eo]; omega
  · rw [eo]; rcases h2 with h2 | h2 | h2 <;> simp [h2] at n3 <;> omega
  · rw [eo]; omega
  · rw [eo, e]
    rcases h2 with h2 | h2 | h2
    · simp [h2] at n8; exact (hx_rp_j n8 (Or.inl h2) (by omega)).trans (by simp)
    · simp [h2] at n8; exact (hx_rp_j n8 (Or.inr h2) (by omega)).trans (by simp)
    · simp [h2] at n8; exact hx_rp_n n8 h2 (by omega)
  · rcases h2 with h2 | h2 | h2 <;> simp [h2] at n3 <;> omega
/-- an opening is taken off the pile -/
theorem hx_Q_shut {C nx nx1 st op : Int} {sf of : Nat → Int32} (q : hx_Q 1 C nx st op sf of) (hop : 0 < op) (hv : (of (op.toNat - 1)).toInt = 100) (hn : nx ≤ nx1) (h4 : nx1 ≤ 400) : hx_Q 1 C nx1 st (op - 1) sf of := by
  have e1 : ∃ o : Nat, op.toNat = o + 1 := ⟨op.toNat - 1, by omega⟩
  obtain ⟨o, ho⟩ := e1
  have hv' : (of o).toInt = 100 := by rw [ho] at hv; exact hv
  obtain ⟨h1, h2a, h3, h3b, -, h5, h6, N, J, n1, n2, n3, n4, n5, n6, n7, n8⟩ := q
  have n5' : N ≤ 8 * C := by simpa using n5
  have eo : (op - 1).toNat = o := by omega
  rw [ho] at h5 h6 n3 n7 n8
  simp [hx_ao, hx_dp, hx_nn, hv'] at h6 n3 n7 n8
  refine ⟨h1, by omega, h3, h3b, h4, by rw [eo]; exact fun j hj => h5 j (by omega), by rw [eo]; omega, N, J, n1, n2, by rw [eo]; omega, by omega, by simp; omega, n6, by rw [eo]; omega, by rw [eo]; exact n8⟩
/-- the words of the reference -/
def P_words : Nat → Int32 := fun j => ([111, 114, 0, 0, 0, 0, 0, 97, 110, 100, 0, 0, 0, 0, 110, 111, 116, 0, 0, 0, 0, 111, 97, 116, 104, 0, 0, 0, 100, 101, 110, 105, 101, 100, 0, 110, 111, 116, 101, 0, 0, 0, 119, 105, 116, 110, 101, 115, 115, 111, 119, 110, 0, 0, 0, 0, 111, 116, 104, 101, 114, 0, 0, 97, 108, 105, 107, 101, 0, 0, 99, 108, 97, 105, 109, 101, 100, 109, 111, 115, 116, 0, 0, 0, 115, 112, 108, 105, 116, 0, 0, 119, 101, 101, 107, 0, 0, 0, 107, 101, 101, 112, 0, 0, 0, 108, 97, 116, 101, 0, 0, 0, 103, 97, 111, 108, 0, 0, 0, 108, 111, 110, 103, 101, 115, 116, 97, 103, 101, 0, 0, 0, 0, 99, 111, 115, 116, 0, 0, 0, 112, 114, 111, 118, 101, 0, 0, 115, 117, 109, 109, 111, 110, 115, 104, 101, 97, 114, 105, 110, 103, 111, 114, 100, 101, 114, 0, 0, 115, 101, 105, 122, 117, 114, 101] : List Int32).getD j 0
def hx_wd (f : Nat → Int32) : Prop := ∀ j, j < 175 → f j = P_words j
/-- no end of a word ahead of n -/
def hx_wp (f : Nat → Int32) (w n : Int) : Prop := ∀ j : Nat, (j : Int) < n → (f (7 * w.toNat + j)).toInt ≠ 0
theorem hx_wp0 {f : Nat → Int32} {w : Int} : hx_wp f w 0 := fun j hj => absurd hj (by omega)
theorem hx_wp_s {f : Nat → Int32} {w n n1 : Int} {x i : Int32} (h : hx_wp f w n) (hx : x.toInt ≠ 0) (ex : x = f i.toNatClampNeg) (hi : i.toInt = 7 * w + n) (hw : 0 ≤ w) (h1 : n1 = n + 1) : hx_wp f w n1 := by
  subst h1
  intro j hj
  by_cases z : (j : Int) = n
  · have e : 7 * w.toNat + j = i.toNatClampNeg := by unfold Int32.toNatClampNeg; omega
    rw [e, ← ex]; exact hx
  · exact h j (by omega)
theorem hx_wz {f : Nat → Int32} {w n : Int} {x i : Int32} (hx : x.toInt = 0) (ex : x = f i.toNatClampNeg) (hi : i.toInt = 7 * w + n) (hw : 0 ≤ w) (hn : 0 ≤ n) : (f (7 * w.toNat + n.toNat)).toInt = 0 := by
  have e : 7 * w.toNat + n.toNat = i.toNatClampNeg := by unfold Int32.toNatClampNeg; omega
  rw [e, ← ex]; exact hx
theorem hx_okc_i {s : Int} (h1 : 1000000 ≤ s) (h2 : s < 9000000) (h3 : s % 100000 < 10008) : hx_okc s = true := by simp [hx_okc, h1, h2, h3]
/-- the reader's state by where it reads -/
def hx_QQ (b : Nat) (C next st op : Int) (sf of : Nat → Int32) : Prop := ∃ y : Int, y ≤ next ∧ hx_Q b C y st op sf of
theorem hx_QQ_start {next : Int} {sf of : Nat → Int32} (h : 5 ≤ next) : hx_QQ 0 0 next 0 0 sf of := ⟨5, h, hx_Q_start (by omega) (by omega)⟩
theorem hx_QQ_next {b : Nat} {C n n1 st op : Int} {sf of : Nat → Int32} (q : hx_QQ b C n st op sf of) (h : n ≤ n1) : hx_QQ b C n1 st op sf of := by
  obtain ⟨y, hy, q⟩ := q
  exact ⟨y, by omega, q⟩
theorem hx_QQ_b {b : Nat} {C n st op : Int} {sf of : Nat → Int32} (q : hx_QQ b C n st op sf of) : 0 ≤ st ∧ 0 ≤ op ∧ op ≤ 28 ∧ 0 ≤ C ∧ C ≤ 20 := by
  obtain ⟨y, hy, q⟩ := q
  exact ⟨q.1, q.2.1, hx_Q_op q, q.2.2.1, q.2.2.2.1⟩
theorem hx_QQ_room {C n n1 st op : Int} {sf of : Nat → Int32} (q : hx_QQ 0 C n st op sf of) (h : n + 5 ≤ n1) (h4 : n1 ≤ 400) : st ≤ 126 := by
  obtain ⟨y, hy, q⟩ := q
  exact hx_Q_room q (by omega)
theorem hx_QQ_cmp {C C1 n n1 st st1 op : Int} {sf sf1 of : Nat → Int32} {v : Int32} {k : Nat} (q : hx_QQ 0 C n st op sf of) (hC : C < 20) (h : n + 5 ≤ n1) (h4 : n1 ≤ 400) (hv : hx_okc v.toInt = true) (hk : (k : Int) = st) (e1 : C1 = C + 1) (e2 : st1 = st + 1) (e3 : sf1 = hx_up sf k v) : hx_QQ 1 C1 n1 st1 op sf1 of := by
  subst e1; subst e2; subst e3
  obtain ⟨y, hy, q⟩ := q
  exact ⟨n1, by omega, hx_Q_cmp q hC (by omega) h4 hv hk⟩
theorem hx_top {b : Nat} {C n st op : Int} {sf of : Nat → Int32} {x i : Int32} (q : hx_QQ b C n st op sf of) (hop : 0 < op) (ex : x = of i.toNatClampNeg) (hi : i.toInt = op - 1) : x = of (op.toNat - 1) ∧ (x.toInt = 0 ∨ x.toInt = 1 ∨ x.toInt = 2 ∨ x.toInt = 100) := by
  obtain ⟨y, hy, q⟩ := q
  have e : i.toNatClampNeg = op.toNat - 1 := by unfold Int32.toNatClampNeg; omega
  rw [e] at ex
  exact ⟨ex, by rw [ex]; exact q.2.2.2.2.2.1 _ (by omega)⟩
theorem hx_QQ_pop {C n st st1 op op1 : Int} {sf sf1 of : Nat → Int32} {x v i : Int32} {k : Nat} (q : hx_QQ 1 C n st op sf of) (hop : 0 < op) (ex : x = of i.toNatClampNeg) (hi : i.toInt = op - 1) (h100 : x.toInt ≠ 100) (hv : v.toInt = x.toInt) (hk : (k : Int) = st) (e2 : st1 = st + 1) (e1 : op1 = op - 1) (e3 : sf1 = hx_up sf k v) : hx_QQ 1 C n st1 op1 sf1 of := by
  have ht := hx_top q hop ex hi
  have hvx : v = x := Int32.toInt_inj.mp hv
  subst e1; subst e2; subst e3; subst hvx
  obtain ⟨y, hy, q⟩ := q
  exact ⟨y, hy, (hx_Q_pop q hop ht.1 (by omega) hk).1⟩
theorem hx_QQ_poproom {C n st op : Int} {sf of : Nat → Int32} {x i : Int32} (q : hx_QQ 1 C n st op sf of) (hop : 0 < op) (ex : x = of i.toNatClampNeg) (hi : i.toInt = op - 1) (h100 : x.toInt ≠ 100) : st ≤ 126 := by
  have ht := hx_top q hop ex hi
  obtain ⟨y, hy, q⟩ := q
  exact (hx_Q_pop (k := st.toNat) q hop ht.1 (by omega) (by have := q.1; omega)).2
theorem hx_QQ_shut {C n n1 st op op1 : Int} {sf of : Nat → Int32} (q : hx_QQ 1 C n st op sf of) (hop : 0 < op) (hv : (of (op.toNat - 1)).toInt = 100) (hn : n ≤ n1) (e1 : op1 = op - 1) : hx_QQ 1 C n1 st op1 sf of := by
  subst e1
  obtain ⟨y, hy, q⟩ := q
  exact ⟨y, by omega, hx_Q_shut q hop hv (Int.le_refl _) q.2.2.2.2.1⟩
theorem hx_QQ_open {C n n1 st op op1 : Int} {sf of of1 : Nat → Int32} {v : Int32} {k : Nat} (q : hx_QQ 0 C n st op sf of) (hd : (hx_dp of op.toNat : Int) < 8) (hv : (v.toInt = 2 ∧ n + 3 ≤ n1 ∧ n1 ≤ 400) ∨ (v.toInt = 100 ∧ n ≤ n1)) (hk : (k : Int) = op) (e1 : op1 = op + 1) (e3 : of1 = hx_up of k v) : hx_QQ 0 C n1 st op1 sf of1 := by
  subst e1; subst e3
  obtain ⟨y, hy, q⟩ := q
  rcases hv with ⟨hv, h1, h2⟩ | ⟨hv, h1⟩
  · exact ⟨y + 3, by omega, hx_Q_open q hd (Or.inl ⟨hv, Int.le_refl _⟩) (by omega) hk⟩
  · exact ⟨y, by omega, hx_Q_open q hd (Or.inr ⟨hv, Int.le_refl _⟩) q.2.2.2.2.1 hk⟩
theorem hx_QQ_join {C n n1 st op op1 : Int} {sf of of1 : Nat → Int32} {v : Int32} {k : Nat} (q : hx_QQ 1 C n st op sf of) (hv : v.toInt = 0 ∨ v.toInt = 1) (hn : n + 2 ≤ n1) (h4 : n1 ≤ 400) (hk : (k : Int) = op) (e1 : op1 = op + 1) (e3 : of1 = hx_up of k v) : hx_QQ 0 C n1 st op1 sf of1 := by
  subst e1; subst e3
  obtain ⟨y, hy, q⟩ := q
  exact ⟨n1, Int.le_refl _, hx_Q_join q hv (by omega) h4 hk⟩
theorem hx_QQ_end {C n st : Int} {sf of : Nat → Int32} (q : hx_QQ 1 C n st 0 sf of) : hx_rp sf st.toNat = some 1 := by
  obtain ⟨y, hy, q⟩ := q
  obtain ⟨h1, h2, h3, h3b, h4, h5, h6, N, J, n1, n2, n3, n4, n5, n6, n7, n8⟩ := q
  simpa [hx_ao] using n8
/-- depth as it is counted -/
theorem hx_dp_s {f : Nat → Int32} {n : Int} {x i : Int32} (hn : 0 ≤ n) (ex : x = f i.toNatClampNeg) (hi : i.toInt = n) : (hx_dp f (n + 1).toNat : Int) = hx_dp f n.toNat + (if x.toInt = 2 ∨ x.toInt = 100 then 1 else 0) := by
  have e : (n + 1).toNat = n.toNat + 1 := by omega
  have e2 : i.toNatClampNeg = n.toNat := by unfold Int32.toNatClampNeg; omega
  rw [e2] at ex
  rw [e]; simp only [hx_dp, ← ex]; split <;> omega
theorem hx_QQ_startE {b : Nat} {C n st op : Int} {sf of : Nat → Int32} (hb : b = 0) (hC : C = 0) (hst : st = 0) (hop : op = 0) (h : 5 ≤ n) : hx_QQ b C n st op sf of := by
  subst hb; subst hC; subst hst; subst hop
  exact hx_QQ_start h
theorem hx_QQ_bE {b b1 : Nat} {C n st op : Int} {sf of : Nat → Int32} (q : hx_QQ b C n st op sf of) (e : b = b1) : hx_QQ b1 C n st op sf of := e ▸ q
theorem hx_QQ_dp {b : Nat} {C n st op : Int} {sf of : Nat → Int32} (q : hx_QQ b C n st op sf of) : (hx_dp of op.toNat : Int) ≤ 8 := by
  obtain ⟨y, hy, q⟩ := q
  have := q.2.2.2.2.2.2.1
  omega
theorem hx_QQ_endE {C n st op : Int} {sf of : Nat → Int32} (q : hx_QQ 1 C n st op sf of) (h : op = 0) : hx_rp sf st.toNat = some 1 := by
  subst h
  exact hx_QQ_end q
theorem hx_QQ_t100 {b : Nat} {C n st op low : Int} {sf of : Nat → Int32} (q : hx_QQ b C n st op sf of) (hop : 0 < op) (h : op = 0 ∨ (of (op.toNat - 1)).toInt = 100 ∨ (of (op.toNat - 1)).toInt < low) (hl : low ≤ 0) : (of (op.toNat - 1)).toInt = 100 := by
  obtain ⟨y, hy, q⟩ := q
  have := q.2.2.2.2.2.1 (op.toNat - 1) (by omega)
  omega
/-- every ACT's proof can be gone through -/
def hx_RP (prf psf : Nat → Int32) (a : Int) : Prop := ∀ p : Int, 0 ≤ p → p ≤ a → (psf p.toNat).toInt ≤ 128 ∧ hx_rp (fun k => prf (128 * p.toNat + k)) (psf p.toNat).toInt.toNat = some 1
/-- a row of rules: WEEK is 1 at least, costs are 999 at most -/
def hx_rk (rd : Nat → Int32) : Prop := 1 ≤ (rd 2).toInt ∧ ∀ j : Nat, 9 ≤ j → j < 13 → (rd j).toInt ≤ 999
def hx_WK (rf : Nat → Int32) (a : Int) : Prop := ∀ p : Int, 0 ≤ p → p ≤ a → hx_rk (fun j => rf (13 * p.toNat + j))
theorem hx_WK_c {rf : Nat → Int32} {a p k : Int} (h : hx_WK rf a) (h0 : 0 ≤ p) (h1 : p ≤ a) (k0 : 9 ≤ k) (k1 : k ≤ 12) : (rf (13 * p.toNat + k.toNat)).toInt ≤ 999 := (h p h0 h1).2 k.toNat (by omega) (by omega)
/-- how often summons were tried, at most -/
def hx_TR (f : Nat → Int32) (n : Int) : Prop := ∀ c : Nat, c < 100 → (f c).toInt ≤ n
theorem hx_TR_up {f f1 : Nat → Int32} {n : Int} {i v : Int32} (h : hx_TR f n) (e : f1 = hx_up f i.toNatClampNeg v) (hv : v.toInt ≤ n + 1) : hx_TR f1 (n + 1) := by
  subst e
  intro c hc
  by_cases z : c = i.toNatClampNeg
  · subst z; rw [hx_up_at]; exact hv
  · rw [hx_up_ne z]; have := h c hc; omega
theorem hx_TR_le {f : Nat → Int32} {n m : Int} (h : hx_TR f n) (l : n ≤ m) : hx_TR f m := fun c hc => Int.le_trans (h c hc) l
def hx_PL (plf : Nat → Int32) (c a : Int) : Prop := ∀ k : Int, 0 ≤ k → k < c → 0 ≤ (plf k.toNat).toInt ∧ (plf k.toNat).toInt ≤ a
def hx_hc (f : Nat → Int32) : Nat → Nat
  | 0 => 0
  | n + 1 => hx_hc f n + (if (f n).toInt = -1 then 0 else 1)
theorem hx_hc_le {f : Nat → Int32} : ∀ n, hx_hc f n ≤ n := by
  intro n
  induction n with
  | zero => exact Nat.le_refl _
  | succ n ih => simp only [hx_hc]; split <;> omega
theorem hx_hc_lt {f : Nat → Int32} : ∀ n i, i < n → (f i).toInt = -1 → hx_hc f n < n := by
  intro n
  induction n with
  | zero => intro i h; omega
  | succ n ih =>
    intro i h hf
    simp only [hx_hc]
    by_cases z : i = n
    · subst z; rw [if_pos hf]; have := hx_hc_le (f := f) i; omega
    · have := ih i (by omega) hf
      split <;> omega
theorem hx_hc_congr {f g : Nat → Int32} : ∀ n, (∀ j, j < n → f j = g j) → hx_hc f n = hx_hc g n := by
  intro n
  induction n with
  | zero => intro _; rfl
  | succ n ih => intro h; simp only [hx_hc, ih (fun j hj => h j (by omega)), h n (by omega)]
theorem hx_hc_up {f : Nat → Int32} {v : Int32} : ∀ n i, i < n → (f i).toInt = -1 → v.toInt ≠ -1 → hx_hc (hx_up f i v) n = hx_hc f n + 1 := by
  intro n
  induction n with
  | zero => intro i h; omega
  | succ n ih =>
    intro i h hf hv
    simp only [hx_hc]
    by_cases z : i = n
    · subst z
      rw [hx_up_at, if_neg hv, if_pos hf, hx_hc_congr (f := hx_up f i v) (g := f) i (fun j hj => hx_up_ne (by omega))]
    · rw [ih i (by omega) hf hv, hx_up_ne (by omega)]
      omega
/-- a claim is heard -/
theorem hx_hear {hf hf1 : Nat → Int32} {m m1 c i v x : Int32} (h : m.toInt = hx_hc hf c.toInt.toNat) (hi0 : 0 ≤ i.toInt) (hi : i.toInt < c.toInt) (hx : x = hf i.toNatClampNeg) (hx1 : x.toInt = -1) (hv : v.toInt ≠ -1) (e : hf1 = hx_up hf i.toNatClampNeg v) (hm : m1.toInt = m.toInt + 1) : m1.toInt = hx_hc hf1 c.toInt.toNat := by
  subst e
  have hc : i.toNatClampNeg < c.toInt.toNat := by unfold Int32.toNatClampNeg; omega
  rw [hx_hc_up _ _ hc (by rw [← hx]; exact hx1) hv]
  omega
theorem hx_hear_lt {hf : Nat → Int32} {m c i x : Int32} (h : m.toInt = hx_hc hf c.toInt.toNat) (hi0 : 0 ≤ i.toInt) (hi : i.toInt < c.toInt) (hx : x = hf i.toNatClampNeg) (hx1 : x.toInt = -1) : m.toInt < c.toInt := by
  have hc : i.toNatClampNeg < c.toInt.toNat := by unfold Int32.toNatClampNeg; omega
  have := hx_hc_lt (f := hf) _ _ hc (by rw [← hx]; exact hx1)
  omega
/-- a claim is filed -/
theorem hx_filed {hf hf1 : Nat → Int32} {m c c1 i v : Int32} (h : m.toInt = hx_hc hf c.toInt.toNat) (h0 : 0 ≤ c.toInt) (hi : i = c) (hv : v.toInt = -1) (e : hf1 = hx_up hf i.toNatClampNeg v) (hc : c1.toInt = c.toInt + 1) : m.toInt = hx_hc hf1 c1.toInt.toNat := by
  subst e; subst hi
  have e1 : c1.toInt.toNat = i.toNatClampNeg + 1 := by unfold Int32.toNatClampNeg; omega
  have e2 : i.toInt.toNat = i.toNatClampNeg := rfl
  rw [e1]
  simp only [hx_hc, hx_up_at, hv]
  rw [hx_hc_congr (g := hf) _ (fun j hj => hx_up_ne (by omega)), ← e2]
  simpa using h
theorem hx_PL_up {plf plf1 : Nat → Int32} {c c1 a : Int} {i v : Int32} (h : hx_PL plf c a) (hi : i.toInt = c) (h0 : 0 ≤ c) (hv : 0 ≤ v.toInt ∧ v.toInt ≤ a) (e : plf1 = hx_up plf i.toNatClampNeg v) (hc : c1 = c + 1) : hx_PL plf1 c1 a := by
  subst e; subst hc
  intro k hk0 hk
  by_cases z : k = c
  · have : k.toNat = i.toNatClampNeg := by unfold Int32.toNatClampNeg; omega
    rw [this, hx_up_at]; exact hv
  · have : k.toNat ≠ i.toNatClampNeg := by unfold Int32.toNatClampNeg; omega
    rw [hx_up_ne this]; exact h k hk0 (by omega)
theorem hx_rd {rd rd1 : Nat → Int32} {i v : Int32} (h : hx_rk rd) (e : rd1 = hx_up rd i.toNatClampNeg v) (h0 : 0 ≤ i.toInt) (hv : i.toInt = 2 → 1 ≤ v.toInt) (hc : 9 ≤ i.toInt → v.toInt ≤ 999) : hx_rk rd1 := by
  subst e
  refine ⟨?_, fun j h9 h13 => ?_⟩
  · by_cases z : 2 = i.toNatClampNeg
    · rw [← z, hx_up_at]; exact hv (by unfold Int32.toNatClampNeg at z; omega)
    · rw [hx_up_ne z]; exact h.1
  · by_cases z : j = i.toNatClampNeg
    · subst z; rw [hx_up_at]; exact hc (by unfold Int32.toNatClampNeg at h9; omega)
    · rw [hx_up_ne z]; exact h.2 j h9 h13
def hx_rk1 (rd : Nat → Int32) (k : Int) : Prop := (k ≤ 2 ∨ 1 ≤ (rd 2).toInt) ∧ ∀ j : Nat, 9 ≤ j → (j : Int) < k → (rd j).toInt ≤ 999
theorem hx_rk1_0 {rd : Nat → Int32} : hx_rk1 rd 0 := ⟨Or.inl (by decide), fun j h9 h => absurd h (by omega)⟩
theorem hx_rk1_e {rd : Nat → Int32} {k : Int} (h : hx_rk1 rd k) (hk : 13 ≤ k) : hx_rk rd := ⟨h.1.resolve_left (by omega), fun j h9 h13 => h.2 j h9 (by omega)⟩
theorem hx_rd2 {rd rd1 : Nat → Int32} {i v : Int32} {k k1 : Int} (h : hx_rk1 rd k) (e : rd1 = hx_up rd i.toNatClampNeg v) (hi : i.toInt = k) (h0 : 0 ≤ k) (hv : i.toInt = 2 → 1 ≤ v.toInt) (hc : 9 ≤ i.toInt → v.toInt ≤ 999) (e1 : k1 = k + 1) : hx_rk1 rd1 k1 := by
  subst e; subst e1
  refine ⟨?_, fun j h9 hj => ?_⟩
  · by_cases z : 2 = i.toNatClampNeg
    · rw [← z, hx_up_at]; exact Or.inr (hv (by unfold Int32.toNatClampNeg at z; omega))
    · rw [hx_up_ne z]
      unfold Int32.toNatClampNeg at z
      rcases h.1 with h | h
      · exact Or.inl (by omega)
      · exact Or.inr h
  · by_cases z : j = i.toNatClampNeg
    · subst z; rw [hx_up_at]; exact hc (by unfold Int32.toNatClampNeg at h9; omega)
    · rw [hx_up_ne z]; exact h.2 j h9 (by unfold Int32.toNatClampNeg at z; omega)
theorem hx_rp_wo {sf sf1 sf2 sf3 : Nat → Int32} {v1 v2 v3 s0 s1 s2 s3 : Int32} (e0 : s0.toInt = 0) (h1 : s1.toInt = s0.toInt + 1 ∧ sf1 = hx_up sf s0.toNatClampNeg v1) (h2 : s2.toInt = s1.toInt + 1 ∧ sf2 = hx_up sf1 s1.toNatClampNeg v2) (h3 : s3.toInt = s2.toInt + 1 ∧ sf3 = hx_up sf2 s2.toNatClampNeg v3) (o1 : hx_okc v1.toInt = true) (o2 : hx_okc v2.toInt = true) (o3 : v3.toInt = 1) : hx_rp sf3 s3.toInt.toNat = some 1 := by
  have a0 : s0.toNatClampNeg = 0 := by unfold Int32.toNatClampNeg; omega
  have a1 : s1.toNatClampNeg = 1 := by unfold Int32.toNatClampNeg; omega
  have a2 : s2.toNatClampNeg = 2 := by unfold Int32.toNatClampNeg; omega
  have a3 : s3.toInt.toNat = 3 := by omega
  rw [a0] at h1; rw [a1] at h2; rw [a2] at h3; rw [a3, h3.2, h2.2, h1.2]
  have r1 : hx_rp (hx_up sf 0 v1) 1 = some 1 := hx_rp_c (d := 0) rfl o1
  have r2 := hx_rp_c r1 o2
  exact hx_rp_j (d := 2) r2 (Or.inr o3) (by decide)
/-- a proof is kept in its row -/
def hx_kp (sf prf g : Nat → Int32) (a k : Int) : Prop := (∀ j : Nat, (j : Int) < k → g (128 * a.toNat + j) = sf j) ∧ ∀ m : Nat, ((m : Int) < 128 * a ∨ 128 * a + k ≤ m) → g m = prf m
theorem hx_kp0 {sf prf : Nat → Int32} {a : Int} : hx_kp sf prf prf a 0 := ⟨fun j hj => absurd hj (by omega), fun _ _ => rfl⟩
theorem hx_kp_s {sf prf g g1 : Nat → Int32} {a k k1 : Int} {i v l : Int32} (h : hx_kp sf prf g a k) (ha : 0 ≤ a) (hk : 0 ≤ k) (hi : i.toInt = 128 * a + k) (hv : v = sf l.toNatClampNeg) (hl : l.toInt = k) (e : g1 = hx_up g i.toNatClampNeg v) (e1 : k1 = k + 1) : hx_kp sf prf g1 a k1 := by
  subst e; subst e1
  have ei : i.toNatClampNeg = 128 * a.toNat + k.toNat := by unfold Int32.toNatClampNeg; omega
  have el : l.toNatClampNeg = k.toNat := by unfold Int32.toNatClampNeg; omega
  rw [el] at hv
  refine ⟨fun j hj => ?_, fun m hm => ?_⟩
  · by_cases z : j = k.toNat
    · subst z; rw [ei, hx_up_at, hv]
    · rw [hx_up_ne (by omega)]; exact h.1 j (by omega)
  · rw [hx_up_ne (by omega)]; exact h.2 m (by omega)
theorem hx_RP_new {prf prf1 psf psf1 sf : Nat → Int32} {a a1 : Int} {i st : Int32} (h : hx_RP prf psf a) (hi : i.toInt = a1) (h1 : a1 = a + 1) (h0 : 0 ≤ a) (hs : st.toInt ≤ 128) (hs0 : 0 ≤ st.toInt) (hr : hx_rp sf st.toInt.toNat = some 1) (e1 : psf1 = hx_up psf i.toNatClampNeg st) (e2 : hx_kp sf prf prf1 a1 st.toInt) : hx_RP prf1 psf1 a1 := by
  subst e1
  intro p hp0 hp
  have ei : i.toNatClampNeg = a1.toNat := by unfold Int32.toNatClampNeg; omega
  by_cases z : p = a1
  · subst z
    rw [ei, hx_up_at]
    refine ⟨hs, ?_⟩
    rw [hx_rp_congr (f := fun k => prf1 (128 * p.toNat + k)) (g := sf) _ (fun j hj => e2.1 j (by omega))]
    exact hr
  · obtain ⟨u1, u2⟩ := h p hp0 (by omega)
    rw [hx_up_ne (by omega)]
    refine ⟨u1, ?_⟩
    rw [hx_rp_congr (f := fun k => prf1 (128 * p.toNat + k)) (g := fun k => prf (128 * p.toNat + k)) _ (fun j hj => e2.2 _ (by omega))]
    exact u2
/-- the rules of a new ACT -/
def hx_wk1 (rf : Nat → Int32) (a k : Int) : Prop := hx_WK rf (a - 1) ∧ hx_rk1 (fun j => rf (13 * a.toNat + j)) k
theorem hx_wk1_s {rf rf1 rd : Nat → Int32} {a k k1 : Int} {i v l : Int32} (h : hx_wk1 rf a k) (ha : 0 ≤ a) (hk : 0 ≤ k) (hk13 : k < 13) (hi : i.toInt = 13 * a + k) (hv : v = rd l.toNatClampNeg) (hl : l.toInt = k) (hr : hx_rk rd) (e : rf1 = hx_up rf i.toNatClampNeg v) (e1 : k1 = k + 1) : hx_wk1 rf1 a k1 := by
  subst e; subst e1
  have ei : i.toNatClampNeg = 13 * a.toNat + k.toNat := by unfold Int32.toNatClampNeg; omega
  have el : l.toNatClampNeg = k.toNat := by unfold Int32.toNatClampNeg; omega
  rw [el] at hv
  refine ⟨fun p hp0 hp => ?_, ?_, fun j h9 hj => ?_⟩
  · refine ⟨?_, fun j h9 h13 => ?_⟩
    · show 1 ≤ (hx_up rf i.toNatClampNeg v (13 * p.toNat + 2)).toInt
      rw [hx_up_ne (by omega)]; exact (h.1 p hp0 hp).1
    · show (hx_up rf i.toNatClampNeg v (13 * p.toNat + j)).toInt ≤ 999
      rw [hx_up_ne (by omega)]; exact (h.1 p hp0 hp).2 j h9 h13
  · show k + 1 ≤ 2 ∨ 1 ≤ (hx_up rf i.toNatClampNeg v (13 * a.toNat + 2)).toInt
    by_cases z : k = 2
    · subst z
      refine Or.inr ?_
      rw [ei]
      rw [show 13 * a.toNat + 2 = 13 * a.toNat + (2 : Int).toNat from rfl, hx_up_at, hv]; exact hr.1
    · rcases h.2.1 with q | q
      · exact Or.inl (by omega)
      · rw [hx_up_ne (by omega)]; exact Or.inr q
  · show (hx_up rf i.toNatClampNeg v (13 * a.toNat + j)).toInt ≤ 999
    by_cases z : j = k.toNat
    · subst z; rw [ei, hx_up_at, hv]; exact hr.2 _ h9 (by omega)
    · rw [hx_up_ne (by omega)]; exact h.2.2 j h9 (by omega)
theorem hx_wk1_e {rf : Nat → Int32} {a k : Int} (h : hx_wk1 rf a k) (hk : 13 ≤ k) : hx_WK rf a := by
  intro p hp0 hp
  by_cases z : p = a
  · subst z
    exact hx_rk1_e h.2 hk
  · exact h.1 p hp0 (by omega)
theorem hx_remz {x y : Int32} (h0 : 0 ≤ x.toInt) (h1 : 1 ≤ y.toInt) : (x - x / y * y).toInt = x.toInt % y.toInt := by
  have d := hx_dv h0 h1
  have b := Int32.toInt_lt x
  have p0 : 0 ≤ x.toInt / y.toInt := Int.ediv_nonneg h0 (by omega)
  have q0 := Int.emod_nonneg x.toInt (show y.toInt ≠ 0 by omega)
  have q1 := Int.emod_lt_of_pos x.toInt (show 0 < y.toInt by omega)
  have q2 := Int.mul_ediv_add_emod x.toInt y.toInt
  have q3 : x.toInt / y.toInt * y.toInt = x.toInt - x.toInt % y.toInt := by rw [Int.mul_comm]; omega
  have q4 : 0 ≤ x.toInt / y.toInt * y.toInt := Int.mul_nonneg p0 (by omega)
  have m : (x / y * y).toInt = x.toInt / y.toInt * y.toInt := by
    rw [Int32.toInt_mul, d]; exact Int.bmod_eq_of_le (by omega) (by omega)
  rw [Int32.toInt_sub, m]
  have z : x.toInt - x.toInt / y.toInt * y.toInt = x.toInt % y.toInt := by omega
  rw [z]; exact Int.bmod_eq_of_le (by omega) (by omega)
/-- the odometer of plans -/
def hx_w (i : Int) : Int := if i = 3 then 1 else if i = 2 then 13 else if i = 1 then 169 else if i = 0 then 2197 else 28561
def hx_V (f : Nat → Int32) : Int := 2197 * (f 0).toInt + 169 * (f 1).toInt + 13 * (f 2).toInt + (f 3).toInt
def hx_m12 (f : Nat → Int32) : Prop := ∀ k : Nat, k < 4 → 0 ≤ (f k).toInt ∧ (f k).toInt ≤ 12
theorem hx_V_b {f : Nat → Int32} (h : hx_m12 f) : 0 ≤ hx_V f ∧ hx_V f ≤ 28560 := by
  have a := h 0 (by decide)
  have b := h 1 (by decide)
  have c := h 2 (by decide)
  have d := h 3 (by decide)
  unfold hx_V
  omega
theorem hx_w_b {i : Int} : 1 ≤ hx_w i := by unfold hx_w; split <;> (try split) <;> (try split) <;> (try split) <;> omega
theorem hx_V_up {f f1 : Nat → Int32} {i v x : Int32} (h0 : 0 ≤ i.toInt) (h3 : i.toInt ≤ 3) (ex : x = f i.toNatClampNeg) (e : f1 = hx_up f i.toNatClampNeg v) : (x.toInt = 12 → v.toInt = 0 → hx_V f1 + hx_w (i.toInt - 1) = hx_V f + hx_w i.toInt) ∧ (v.toInt = x.toInt + 1 → hx_V f1 = hx_V f + hx_w i.toInt) := by
  subst e; subst ex
  rcases (show i.toInt = 0 ∨ i.toInt = 1 ∨ i.toInt = 2 ∨ i.toInt = 3 by omega) with z | z | z | z
  · have e : i.toNatClampNeg = 0 := by unfold Int32.toNatClampNeg; omega
    rw [z, e]; simp only [hx_V, hx_up, hx_w]; simp; omega
  · have e : i.toNatClampNeg = 1 := by unfold Int32.toNatClampNeg; omega
    rw [z, e]; simp only [hx_V, hx_up, hx_w]; simp; omega
  · have e : i.toNatClampNeg = 2 := by unfold Int32.toNatClampNeg; omega
    rw [z, e]; simp only [hx_V, hx_up, hx_w]; simp; omega
  · have e : i.toNatClampNeg = 3 := by unfold Int32.toNatClampNeg; omega
    rw [z, e]; simp only [hx_V, hx_up, hx_w]; simp; omega
end
section
/-! PURE FACTS for the reference's walk -/
def hx_ab (a b : Int) : Int := if a < b then b - a else a - b
def hx_cx (lf agf df : Nat → Int32) (n i : Int) : Int := if i = n then 50 else (df (agf (lf i.toNat).toInt.toNat).toInt.toNat).toInt
def hx_fr (lf agf dxf dyf : Nat → Int32) (n i k : Int) : Int := hx_ab (hx_cx lf agf dxf n i) (hx_cx lf agf dxf n k) + hx_ab (hx_cx lf agf dyf n i) (hx_cx lf agf dyf n k)
def hx_bt (l k : Int) : Bool := (l.toNat / 2 ^ k.toNat) % 2 == 1
def hx_p2 (k : Int) : Int := 2 ^ k.toNat
def hx_pc (l : Int) : Int := ((l.toNat % 2 + l.toNat / 2 % 2 + l.toNat / 4 % 2 + l.toNat / 8 % 2 + l.toNat / 16 % 2 + l.toNat / 32 % 2 + l.toNat / 64 % 2 + l.toNat / 128 % 2 : Nat) : Int)
def hx_bck (l k : Nat) : Bool := decide ((((Int32.ofNat l) >>> ((Int32.ofNat k) &&& 31)) &&& 1).toInt = if hx_bt l k then 1 else 0) && decide (0 ≤ ((Int32.ofNat l) ^^^ ((1 : Int32) <<< ((Int32.ofNat k) &&& 31))).toInt) && decide (((Int32.ofNat l) ^^^ ((1 : Int32) <<< ((Int32.ofNat k) &&& 31))).toInt ≤ 255) && (!hx_bt l k || (decide (((Int32.ofNat l) ^^^ ((1 : Int32) <<< ((Int32.ofNat k) &&& 31))).toInt = l - hx_p2 k) && decide (1 ≤ hx_p2 k) && decide (hx_p2 k ≤ l) && decide (hx_pc (l - hx_p2 k) = hx_pc l - 1)))
theorem hx_bcb : (List.range 256).all (fun l => (List.range 8).all (fun k => hx_bck l k)) = true := by decide +kernel
theorem hx_bits {L K : Int32} (h0 : 0 ≤ L.toInt) (h1 : L.toInt ≤ 255) (k0 : 0 ≤ K.toInt) (k1 : K.toInt ≤ 7) : ((L >>> (K &&& 31)) &&& 1).toInt = (if hx_bt L.toInt K.toInt = true then 1 else 0) ∧ 0 ≤ (L ^^^ ((1 : Int32) <<< (K &&& 31))).toInt ∧ (L ^^^ ((1 : Int32) <<< (K &&& 31))).toInt ≤ 255 ∧ (hx_bt L.toInt K.toInt = true → (L ^^^ ((1 : Int32) <<< (K &&& 31))).toInt = L.toInt - hx_p2 K.toInt ∧ 1 ≤ hx_p2 K.toInt ∧ hx_p2 K.toInt ≤ L.toInt ∧ hx_pc (L.toInt - hx_p2 K.toInt) = hx_pc L.toInt - 1) := by
  have eL : L = Int32.ofNat L.toInt.toNat := Int32.toInt_inj.mp (by rw [Int32.toInt_ofNat_of_lt (by omega)]; omega)
  have eK : K = Int32.ofNat K.toInt.toNat := Int32.toInt_inj.mp (by rw [Int32.toInt_ofNat_of_lt (by omega)]; omega)
  have h := List.all_eq_true.mp (List.all_eq_true.mp hx_bcb L.toInt.toNat (List.mem_range.mpr (by omega))) K.toInt.toNat (List.mem_range.mpr (by omega))
  have l1 : ((L.toInt.toNat : Nat) : Int) = L.toInt := by omega
  have l2 : ((K.toInt.toNat : Nat) : Int) = K.toInt := by omega
  simp only [hx_bck, Bool.and_eq_true, decide_eq_true_eq, Bool.or_eq_true, Bool.not_eq_true', ← eL, ← eK, l1, l2] at h
  obtain ⟨⟨⟨a, b⟩, c⟩, d⟩ := h
  refine ⟨a, b, c, fun z => ?_⟩
  rcases d with d | ⟨⟨⟨d1, d2⟩, d3⟩, d4⟩
  · rw [z] at d; cases d
  · exact ⟨d1, d2, d3, d4⟩
def hx_exk (n l : Nat) : Bool := decide (l = 0) || decide (2 ^ n ≤ l) || (List.range n).any (fun k => hx_bt l k)
theorem hx_exb : (List.range 9).all (fun n => (List.range 256).all (fun l => hx_exk n l)) = true := by decide +kernel
theorem hx_exbit {n l : Int} (n0 : 0 ≤ n) (n1 : n ≤ 8) (h0 : 0 < l) (h1 : l < 2 ^ n.toNat) (h2 : l ≤ 255) : ∃ k : Int, 0 ≤ k ∧ k < n ∧ hx_bt l k = true := by
  have h := List.all_eq_true.mp (List.all_eq_true.mp hx_exb n.toNat (List.mem_range.mpr (by omega))) l.toNat (List.mem_range.mpr (by omega))
  simp only [hx_exk, Bool.or_eq_true, decide_eq_true_eq, List.any_eq_true, List.mem_range] at h
  have e : ((l.toNat : Nat) : Int) = l := by omega
  rcases h with (h | h) | ⟨k, hk, hb⟩
  · omega
  · exfalso
    have h3 : ((2 ^ n.toNat : Nat) : Int) ≤ ((l.toNat : Nat) : Int) := Int.ofNat_le.mpr h
    have h4 : ((2 ^ n.toNat : Nat) : Int) = 2 ^ n.toNat := by simp
    omega
  · exact ⟨k, by omega, by omega, by rw [e] at hb; exact hb⟩
theorem hx_pcb : (List.range 9).all (fun n => decide (hx_pc (2 ^ n - 1 : Int) = n)) = true := by decide +kernel
theorem hx_pc_all {n : Int} (n0 : 0 ≤ n) (n1 : n ≤ 8) : hx_pc (2 ^ n.toNat - 1) = n := by
  have h := List.all_eq_true.mp hx_pcb n.toNat (List.mem_range.mpr (by omega))
  simp only [decide_eq_true_eq] at h
  rw [h]; omega
theorem hx_pc_pos : (List.range 256).all (fun l => decide (l = 0) || decide (1 ≤ hx_pc l)) = true := by decide +kernel
theorem hx_pc_1 {l : Int} (h0 : 0 < l) (h1 : l ≤ 255) : 1 ≤ hx_pc l := by
  have h := List.all_eq_true.mp hx_pc_pos l.toNat (List.mem_range.mpr (by omega))
  have e : ((l.toNat : Nat) : Int) = l := by omega
  simp only [Bool.or_eq_true, decide_eq_true_eq, e] at h
  omega
theorem hx_pc_0 : hx_pc 0 = 0 := by decide
theorem hx_p2b : (List.range 9).all (fun n => decide (((1 : Int32) <<< ((Int32.ofNat n) &&& 31)).toInt = 2 ^ n)) = true := by decide +kernel
theorem hx_sh2 {n : Int32} (h0 : 0 ≤ n.toInt) (h1 : n.toInt ≤ 8) : ((1 : Int32) <<< (n &&& 31)).toInt = 2 ^ n.toInt.toNat := by
  have e : n = Int32.ofNat n.toInt.toNat := Int32.toInt_inj.mp (by rw [Int32.toInt_ofNat_of_lt (by omega)]; omega)
  have h := List.all_eq_true.mp hx_p2b n.toInt.toNat (List.mem_range.mpr (by omega))
  rw [← e] at h
  simpa using h
/-- what stands in home: bounds, and whose way it is; for all sets below l, and for l itself below i -/
def hx_dq (F : Int → Int → Int) (n : Int) (hm : Nat → Int32) (l i : Int) : Prop := 0 ≤ (hm (9 * l + i).toNat).toInt ∧ (hm (9 * l + i).toNat).toInt ≤ 198 * (l + 1) ∧ (l ≠ 0 → ∃ k : Int, 0 ≤ k ∧ k < n ∧ hx_bt l k = true ∧ (hm (9 * l + i).toNat).toInt = F i k + (hm (9 * (l - hx_p2 k) + k).toNat).toInt) ∧ (l = 0 → (hm (9 * l + i).toNat).toInt = F i n) ∧ ∀ k : Int, 0 ≤ k → k < n → hx_bt l k = true → (hm (9 * l + i).toNat).toInt ≤ F i k + (hm (9 * (l - hx_p2 k) + k).toNat).toInt
def hx_D (F : Int → Int → Int) (n : Int) (hm : Nat → Int32) (l i : Int) : Prop := (∀ l' i' : Int, 0 ≤ l' → l' < l → 0 ≤ i' → i' ≤ n → hx_dq F n hm l' i') ∧ ∀ i' : Int, 0 ≤ i' → i' < i → hx_dq F n hm l i'
theorem hx_D0 {F : Int → Int → Int} {n : Int} {hm : Nat → Int32} : hx_D F n hm 0 0 := ⟨fun l' i' h0 h1 => absurd h1 (by omega), fun i' h0 h1 => absurd h1 (by omega)⟩
theorem hx_D_row {F : Int → Int → Int} {n l l1 i : Int} {hm : Nat → Int32} (h : hx_D F n hm l i) (hi : n < i) (e : l1 = l + 1) : hx_D F n hm l1 0 := by
  subst e
  refine ⟨fun l' i' h0 h1 h2 h3 => ?_, fun i' h0 h1 => absurd h1 (by omega)⟩
  by_cases z : l' = l
  · subst z; exact h.2 i' h2 (by omega)
  · exact h.1 l' i' h0 (by omega) h2 h3
/-- the best way so far -/
def hx_best (F : Int → Int → Int) (hm : Nat → Int32) (l i k best : Int) : Prop := ((best = 1000000000 ∧ ∀ k' : Int, 0 ≤ k' → k' < k → hx_bt l k' = false) ∨ ∃ k' : Int, 0 ≤ k' ∧ k' < k ∧ hx_bt l k' = true ∧ best = F i k' + (hm (9 * (l - hx_p2 k') + k').toNat).toInt ∧ 0 ≤ best ∧ best ≤ 198 * (l + 1)) ∧ ∀ k' : Int, 0 ≤ k' → k' < k → hx_bt l k' = true → best ≤ F i k' + (hm (9 * (l - hx_p2 k') + k').toNat).toInt
theorem hx_best0 {F : Int → Int → Int} {hm : Nat → Int32} {l i : Int} : hx_best F hm l i 0 1000000000 := ⟨Or.inl ⟨rfl, fun k' h0 h1 => absurd h1 (by omega)⟩, fun k' h0 h1 => absurd h1 (by omega)⟩
theorem hx_best_no {F : Int → Int → Int} {hm : Nat → Int32} {l i k k1 best : Int} (h : hx_best F hm l i k best) (hb : hx_bt l k = false) (e : k1 = k + 1) : hx_best F hm l i k1 best := by
  subst e
  refine ⟨?_, fun k' h0 h1 h2 => ?_⟩
  rotate_left
  · by_cases z : k' = k
    · subst z; rw [hb] at h2; cases h2
    · exact h.2 k' h0 (by omega) h2
  rcases h.1 with ⟨h1, h2⟩ | ⟨k', a, b, c⟩
  · refine Or.inl ⟨h1, fun k' h0 h1 => ?_⟩
    by_cases z : k' = k
    · subst z; exact hb
    · exact h2 k' h0 (by omega)
  · exact Or.inr ⟨k', a, by omega, c⟩
theorem hx_best_yes {F : Int → Int → Int} {n : Int} {hm : Nat → Int32} {l i k k1 best best1 cand : Int} (hD : hx_D F n hm l i) (h : hx_best F hm l i k best) (hb : hx_bt l k = true) (hp1 : 1 ≤ hx_p2 k) (hp2 : hx_p2 k ≤ l) (hl : l ≤ 255) (hk0 : 0 ≤ k) (hkn : k < n) (hF0 : 0 ≤ F i k) (hF1 : F i k ≤ 198) (hc : cand = F i k + (hm (9 * (l - hx_p2 k) + k).toNat).toInt) (hbest : (best1 = best ∧ best < cand) ∨ (best1 = cand ∧ cand ≤ best)) (e : k1 = k + 1) : hx_best F hm l i k1 best1 := by
  subst e
  have hd := hD.1 (l - hx_p2 k) k (by omega) (by omega) hk0 (by omega)
  have c0 : 0 ≤ cand := by rw [hc]; have := hd.1; omega
  have c1 : cand ≤ 198 * (l + 1) := by rw [hc]; have := hd.2.1; omega
  refine ⟨?_, fun k' h0 h1 h2 => ?_⟩
  rotate_left
  · by_cases z : k' = k
    · subst z; rw [← hc]; rcases hbest with ⟨e1, e2⟩ | ⟨e1, e2⟩ <;> omega
    · have := h.2 k' h0 (by omega) h2
      rcases hbest with ⟨e1, e2⟩ | ⟨e1, e2⟩ <;> omega
  rcases hbest with ⟨e1, e2⟩ | ⟨e1, e2⟩
  · rcases h.1 with ⟨h1, h2⟩ | ⟨k', a, b, c, d⟩
    · omega
    · exact Or.inr ⟨k', a, by omega, c, by rw [e1]; exact d.1, by rw [e1]; exact d.2⟩
  · exact Or.inr ⟨k, hk0, by omega, hb, by rw [e1, hc], by omega, by omega⟩
theorem hx_dq_up {F : Int → Int → Int} {n l i l' i' : Int} {hm : Nat → Int32} {v : Int32} (h : hx_dq F n hm l' i') (h0 : 0 ≤ l') (h1 : 0 ≤ i') (hi8 : i' ≤ 8) (hl : l' < l ∨ (l' = l ∧ i' < i)) (hi : 0 ≤ i ∧ i ≤ 8) (hl0 : 0 ≤ l) (hn : n ≤ 8) (hp : ∀ k : Int, hx_bt l' k = true → 0 ≤ k → k < n → 1 ≤ hx_p2 k ∧ hx_p2 k ≤ l') : hx_dq F n (hx_up hm (9 * l + i).toNat v) l' i' := by
  have ne : (9 * l' + i').toNat ≠ (9 * l + i).toNat := by omega
  unfold hx_dq
  rw [hx_up_ne ne]
  refine ⟨h.1, h.2.1, fun z => ?_, h.2.2.2.1, fun k a b c => ?_⟩
  · obtain ⟨k, a, b, c, d⟩ := h.2.2.1 z
    refine ⟨k, a, b, c, ?_⟩
    have := hp k c a b
    rw [hx_up_ne (by omega)]; exact d
  · have := hp k c a b
    rw [hx_up_ne (by omega)]; exact h.2.2.2.2 k a b c
theorem hx_p2_le {l k : Int} (h0 : 0 ≤ l) (h1 : l ≤ 255) (hb : hx_bt l k = true) (k0 : 0 ≤ k) (k1 : k < 8) : 1 ≤ hx_p2 k ∧ hx_p2 k ≤ l := by
  have h := List.all_eq_true.mp (List.all_eq_true.mp hx_bcb l.toNat (List.mem_range.mpr (by omega))) k.toNat (List.mem_range.mpr (by omega))
  have l1 : ((l.toNat : Nat) : Int) = l := by omega
  have l2 : ((k.toNat : Nat) : Int) = k := by omega
  simp only [hx_bck, Bool.and_eq_true, decide_eq_true_eq, Bool.or_eq_true, Bool.not_eq_true', l1, l2] at h
  rcases h.2 with d | d
  · rw [hb] at d; cases d
  · exact ⟨d.1.1.2, d.1.2⟩
/-- a place of home is filled -/
theorem hx_D_put {F : Int → Int → Int} {n l i i1 best : Int} {hm hm1 : Nat → Int32} {v ix : Int32} (h : hx_D F n hm l i) (hl0 : 0 ≤ l) (hl1 : l ≤ 255) (hi0 : 0 ≤ i) (hin : i ≤ n) (hn : n ≤ 8) (hix : ix.toInt = 9 * l + i) (hv : v.toInt = best) (e : hm1 = hx_up hm ix.toNatClampNeg v) (e1 : i1 = i + 1) (hb : (l = 0 ∧ 0 ≤ best ∧ best ≤ 198 ∧ best = F i n) ∨ (l ≠ 0 ∧ l < 2 ^ n.toNat ∧ hx_best F hm l i n best)) : hx_D F n hm1 l i1 := by
  subst e; subst e1
  have eix : ix.toNatClampNeg = (9 * l + i).toNat := by unfold Int32.toNatClampNeg; omega
  rw [eix]
  have hp : ∀ l' : Int, 0 ≤ l' → l' ≤ 255 → ∀ k : Int, hx_bt l' k = true → 0 ≤ k → k < n → 1 ≤ hx_p2 k ∧ hx_p2 k ≤ l' := fun l' a b k c d e => hx_p2_le a b c d (by omega)
  refine ⟨fun l' i' h0 h1 h2 h3 => hx_dq_up (h.1 l' i' h0 h1 h2 h3) h0 h2 (by omega) (Or.inl h1) ⟨hi0, by omega⟩ hl0 hn (hp l' h0 (by omega)), fun i' h0 h1 => ?_⟩
  by_cases z : i' = i
  · subst z
    unfold hx_dq
    rw [hx_up_at, hv]
    have hbt0 : ∀ k : Int, hx_bt 0 k = false := fun k => by simp [hx_bt]
    rcases hb with ⟨b1, b2, b3, b4⟩ | ⟨b1, b2, b3⟩
    · exact ⟨b2, by omega, fun w => absurd b1 w, fun _ => b4, fun k k0 k1 kb => by rw [b1, hbt0] at kb; cases kb⟩
    · rcases b3.1 with ⟨c1, c2⟩ | ⟨k, c1, c2, c3, c4, c5, c6⟩
      · obtain ⟨k, d1, d2, d3⟩ := hx_exbit (n := n) (l := l) (by omega) hn (by omega) b2 hl1
        rw [c2 k d1 d2] at d3; cases d3
      · refine ⟨c5, c6, fun _ => ⟨k, c1, c2, c3, ?_⟩, fun w => absurd w b1, fun k k0 k1 kb => ?_⟩
        · have := hp l hl0 hl1 k c3 c1 c2
          rw [hx_up_ne (by omega)]; exact c4
        · have := hp l hl0 hl1 k kb k0 k1
          rw [hx_up_ne (by omega)]; exact b3.2 k k0 k1 kb
  · exact hx_dq_up (h.2 i' h0 (by omega)) hl0 h0 (by omega) (Or.inr ⟨rfl, by omega⟩) ⟨hi0, by omega⟩ hl0 hn (hp l hl0 hl1)
theorem hx_bit_yes {L K x y : Int32} (q : ((L >>> (K &&& 31)) &&& 1).toInt = (if hx_bt L.toInt K.toInt = true then 1 else 0)) (ey : y = L >>> (K &&& 31)) (ex : x = y &&& 1) (hx : x.toInt ≠ 0) : hx_bt L.toInt K.toInt = true := by
  rw [← ey, ← ex] at q
  cases h : hx_bt L.toInt K.toInt with
  | true => rfl
  | false => rw [h] at q; simp at q; exact absurd (by rw [q]) hx
theorem hx_bit_no {L K x y : Int32} (q : ((L >>> (K &&& 31)) &&& 1).toInt = (if hx_bt L.toInt K.toInt = true then 1 else 0)) (ey : y = L >>> (K &&& 31)) (ex : x = y &&& 1) (hx : x.toInt ≠ 1) : hx_bt L.toInt K.toInt = false := by
  rw [← ey, ← ex] at q
  cases h : hx_bt L.toInt K.toInt with
  | false => rfl
  | true => rw [h] at q; simp at q; exact absurd (by rw [q]) hx
end
section
/-! THE WALK, on both sides: what the table says, and the way along it -/
def hx_cg (g : Nat → Int32) (n i : Int) : Int := if i = n then 50 else (g i.toNat).toInt
def hx_fg (gx gy : Nat → Int32) (n i k : Int) : Int := hx_ab (hx_cg gx n i) (hx_cg gx n k) + hx_ab (hx_cg gy n i) (hx_cg gy n k)
def hx_mn (F H : Int → Int → Int) (n l i V : Int) : Prop := (l = 0 → V = F i n) ∧ (l ≠ 0 → ∃ k : Int, 0 ≤ k ∧ k < n ∧ hx_bt l k = true ∧ V = F i k + H (l - hx_p2 k) k) ∧ ∀ k : Int, 0 ≤ k → k < n → hx_bt l k = true → V ≤ F i k + H (l - hx_p2 k) k
def hx_WT (F H : Int → Int → Int) (n : Int) : Prop := ∀ l i : Int, 0 ≤ l → l < 2 ^ n.toNat → 0 ≤ i → i < n → hx_bt l i = false → hx_mn F H n l i (H l i)
def hx_sp (F H : Int → Int → Int) (n l a d k l1 d1 : Int) : Prop := 0 ≤ k ∧ k < n ∧ hx_bt l k = true ∧ F a k + H (l - hx_p2 k) k = d ∧ (∀ k' : Int, 0 ≤ k' → k' < k → hx_bt l k' = true → F a k' + H (l - hx_p2 k') k' ≠ d) ∧ l1 = l - hx_p2 k ∧ d1 = H l1 k
def hx_wj (F H : Int → Int → Int) (n V : Int) (lf w : Nat → Int32) (j l a d : Int) : Prop := ∃ L A D : Nat → Int, L 0 = 2 ^ n.toNat - 1 ∧ A 0 = n ∧ D 0 = V ∧ L j.toNat = l ∧ A j.toNat = a ∧ D j.toNat = d ∧ ∀ m : Nat, (m : Int) < j → hx_sp F H n (L m) (A m) (D m) (A (m + 1)) (L (m + 1)) (D (m + 1)) ∧ w m = lf (A (m + 1)).toNat
def hx_WA (F : Int → Int → Int) (n : Int) (lf w : Nat → Int32) (r : Int) : Prop := ∃ H : Int → Int → Int, hx_WT F H n ∧ hx_mn F H n (2 ^ n.toNat - 1) n r ∧ ∃ l a d : Int, hx_wj F H n r lf w n l a d
def hx_btxk (l k : Nat) : Bool := !hx_bt l k || !hx_bt (l - hx_p2 k) k
theorem hx_btxb : (List.range 256).all (fun l => (List.range 8).all (fun k => hx_btxk l k)) = true := by decide +kernel
theorem hx_btx {l k : Int} (h0 : 0 ≤ l) (h1 : l ≤ 255) (k0 : 0 ≤ k) (k1 : k < 8) (hb : hx_bt l k = true) : hx_bt (l - hx_p2 k) k = false := by
  have h := List.all_eq_true.mp (List.all_eq_true.mp hx_btxb l.toNat (List.mem_range.mpr (by omega))) k.toNat (List.mem_range.mpr (by omega))
  have e : ((l.toNat : Nat) : Int) = l := by omega
  have e2 : ((k.toNat : Nat) : Int) = k := by omega
  simp only [hx_btxk, Bool.or_eq_true, Bool.not_eq_true', e, e2] at h
  rcases h with h | h
  · rw [hb] at h; cases h
  · exact h
theorem hx_p2n {n : Int} (n0 : 0 ≤ n) (n1 : n ≤ 8) : (1 : Int) ≤ 2 ^ n.toNat ∧ (2 : Int) ^ n.toNat ≤ 256 := by
  have h : (List.range 9).all (fun n => decide ((1 : Int) ≤ 2 ^ n) && decide ((2 : Int) ^ n ≤ 256)) = true := by decide +kernel
  have h := List.all_eq_true.mp h n.toNat (List.mem_range.mpr (by omega))
  simpa using h
theorem hx_sub_d {n l k : Int} (n0 : 0 ≤ n) (n1 : n ≤ 8) (h0 : 0 ≤ l) (h1 : l < 2 ^ n.toNat) (k0 : 0 ≤ k) (k1 : k < n) (hb : hx_bt l k = true) : 0 ≤ l - hx_p2 k ∧ l - hx_p2 k < l ∧ l - hx_p2 k < 2 ^ n.toNat ∧ hx_bt (l - hx_p2 k) k = false := by
  have hn := hx_p2n n0 n1
  have hp := hx_p2_le h0 (by omega) hb k0 (by omega)
  exact ⟨by omega, by omega, by omega, hx_btx h0 (by omega) k0 (by omega) hb⟩
theorem hx_mn_u {F F' H H' : Int → Int → Int} {n l i V V' : Int} (n0 : 0 ≤ n) (hi0 : 0 ≤ i) (hi1 : i ≤ n) (hF : ∀ i k : Int, 0 ≤ i → i ≤ n → 0 ≤ k → k ≤ n → F i k = F' i k) (hH : ∀ k : Int, 0 ≤ k → k < n → hx_bt l k = true → H (l - hx_p2 k) k = H' (l - hx_p2 k) k) (p : hx_mn F H n l i V) (q : hx_mn F' H' n l i V') : V = V' := by
  by_cases z : l = 0
  · rw [p.1 z, q.1 z]; exact hF i n hi0 hi1 n0 (by omega)
  · obtain ⟨k, k0, k1, kb, e⟩ := p.2.1 z
    obtain ⟨k', k0', k1', kb', e'⟩ := q.2.1 z
    have a := q.2.2 k k0 k1 kb
    have b := p.2.2 k' k0' k1' kb'
    rw [← hF i k hi0 hi1 k0 (by omega), ← hH k k0 k1 kb] at a
    rw [hF i k' hi0 hi1 k0' (by omega), hH k' k0' k1' kb'] at b
    omega
theorem hx_WT_u {F F' H H' : Int → Int → Int} {n : Int} (n0 : 0 ≤ n) (n1 : n ≤ 8) (hF : ∀ i k : Int, 0 ≤ i → i ≤ n → 0 ≤ k → k ≤ n → F i k = F' i k) (p : hx_WT F H n) (q : hx_WT F' H' n) : ∀ (m : Nat) (l i : Int), l < m → 0 ≤ l → l < 2 ^ n.toNat → 0 ≤ i → i < n → hx_bt l i = false → H l i = H' l i := by
  intro m
  induction m with
  | zero => intro l i h0 h1; exfalso; omega
  | succ m ih =>
    intro l i h0 h1 h2 i0 i1 hb
    refine hx_mn_u n0 i0 (by omega) hF (fun k k0 k1 kb => ?_) (p l i h1 h2 i0 i1 hb) (q l i h1 h2 i0 i1 hb)
    have hd := hx_sub_d n0 n1 h1 h2 k0 k1 kb
    exact ih _ k (by omega) hd.1 hd.2.2.1 k0 k1 hd.2.2.2
theorem hx_wj_0 {F H : Int → Int → Int} {n V : Int} {lf w : Nat → Int32} : hx_wj F H n V lf w 0 (2 ^ n.toNat - 1) n V := ⟨fun _ => 2 ^ n.toNat - 1, fun _ => n, fun _ => V, rfl, rfl, rfl, rfl, rfl, rfl, fun m hm => by exfalso; omega⟩
theorem hx_wj_s {F H : Int → Int → Int} {n V : Int} {lf w w1 : Nat → Int32} {j l a d k l1 d1 j1 : Int} {jx : Nat} {v : Int32} (h : hx_wj F H n V lf w j l a d) (hj : 0 ≤ j) (s : hx_sp F H n l a d k l1 d1) (e : w1 = hx_up w jx v) (ej : (jx : Int) = j) (ev : v = lf k.toNat) (e1 : j1 = j + 1) : hx_wj F H n V lf w1 j1 l1 k d1 := by
  obtain ⟨L, A, D, a1, a2, a3, a4, a5, a6, a7⟩ := h
  subst e1; subst e; subst ev
  have ejx : j.toNat = jx := by omega
  have ej1 : (j + 1).toNat = jx + 1 := by omega
  rw [ejx] at a4 a5 a6
  refine ⟨fun m => if m = jx + 1 then l1 else L m, fun m => if m = jx + 1 then k else A m, fun m => if m = jx + 1 then d1 else D m, by simpa using a1, by simpa using a2, by simpa using a3, by simp [ej1], by simp [ej1], by simp [ej1], fun m hm => ?_⟩
  have hm1 : m ≠ jx + 1 := by omega
  by_cases z : m = jx
  · subst z
    simp only [if_neg hm1, if_true, hx_up_at]
    rw [a4, a5, a6]
    exact ⟨s, trivial⟩
  · have hm2 : m + 1 ≠ jx + 1 := by omega
    simp only [if_neg hm1, if_neg hm2, hx_up_ne z]
    exact a7 m (by omega)
theorem hx_sp_u {F F' H H' : Int → Int → Int} {n l a d k l1 d1 k' l1' d1' : Int} (n0 : 0 ≤ n) (n1 : n ≤ 8) (hF : ∀ i k : Int, 0 ≤ i → i ≤ n → 0 ≤ k → k ≤ n → F i k = F' i k) (hH : ∀ l i : Int, 0 ≤ l → l < 2 ^ n.toNat → 0 ≤ i → i < n → hx_bt l i = false → H l i = H' l i) (l0 : 0 ≤ l) (l2 : l < 2 ^ n.toNat) (a0 : 0 ≤ a) (a1 : a ≤ n) (p : hx_sp F H n l a d k l1 d1) (q : hx_sp F' H' n l a d k' l1' d1') : k = k' ∧ l1 = l1' ∧ d1 = d1' ∧ 0 ≤ l1 ∧ l1 < 2 ^ n.toNat ∧ 0 ≤ k ∧ k ≤ n := by
  obtain ⟨p1, p2, p3, p4, p5, p6, p7⟩ := p
  obtain ⟨q1, q2, q3, q4, q5, q6, q7⟩ := q
  have hk : k = k' := by
    rcases (show k < k' ∨ k = k' ∨ k' < k by omega) with z | z | z
    · exfalso
      have hd := hx_sub_d n0 n1 l0 l2 p1 p2 p3
      refine q5 k p1 z p3 ?_
      rw [← hF a k a0 a1 p1 (by omega), ← hH _ k hd.1 hd.2.2.1 p1 p2 hd.2.2.2]
      exact p4
    · exact z
    · exfalso
      have hd := hx_sub_d n0 n1 l0 l2 q1 q2 q3
      refine p5 k' q1 z q3 ?_
      rw [hF a k' a0 a1 q1 (by omega), hH _ k' hd.1 hd.2.2.1 q1 q2 hd.2.2.2]
      exact q4
  subst hk
  have hd := hx_sub_d n0 n1 l0 l2 p1 p2 p3
  subst p6; subst q6
  exact ⟨rfl, rfl, by rw [p7, q7]; exact hH _ k hd.1 hd.2.2.1 p1 p2 hd.2.2.2, hd.1, hd.2.2.1, p1, by omega⟩
theorem hx_WA_u {F F' : Int → Int → Int} {n r r' : Int} {lf w lf' w' : Nat → Int32} (n0 : 0 ≤ n) (n1 : n ≤ 8) (hF : ∀ i k : Int, 0 ≤ i → i ≤ n → 0 ≤ k → k ≤ n → F i k = F' i k) (hl : ∀ j : Nat, j < 8 → lf j = lf' j) (p : hx_WA F n lf w r) (q : hx_WA F' n lf' w' r') : r = r' ∧ ∀ m : Nat, (m : Int) < n → w m = w' m := by
  obtain ⟨H, p1, p2, _, _, _, L, A, D, a1, a2, a3, -, -, -, a7⟩ := p
  obtain ⟨H', q1, q2, _, _, _, L', A', D', b1, b2, b3, -, -, -, b7⟩ := q
  have hn := hx_p2n n0 n1
  have hH : ∀ l i : Int, 0 ≤ l → l < 2 ^ n.toNat → 0 ≤ i → i < n → hx_bt l i = false → H l i = H' l i := fun l i x0 x1 x2 x3 x4 => hx_WT_u n0 n1 hF p1 q1 (l.toNat + 1) l i (by omega) x0 x1 x2 x3 x4
  have hr : r = r' := hx_mn_u n0 n0 (by omega) hF (fun k k0 k1 kb => by
    have hd := hx_sub_d n0 n1 (l := 2 ^ n.toNat - 1) (by omega) (by omega) k0 k1 kb
    exact hH _ k hd.1 hd.2.2.1 k0 k1 hd.2.2.2) p2 q2
  refine ⟨hr, ?_⟩
  have key : ∀ m : Nat, (m : Int) ≤ n → L m = L' m ∧ A m = A' m ∧ D m = D' m ∧ 0 ≤ L m ∧ L m < 2 ^ n.toNat ∧ 0 ≤ A m ∧ A m ≤ n := by
    intro m
    induction m with
    | zero => intro _; rw [a1, b1, a2, b2, a3, b3]; exact ⟨rfl, rfl, hr, by omega, by omega, n0, by omega⟩
    | succ m ih =>
      intro hm
      obtain ⟨c1, c2, c3, c4, c5, c6, c7⟩ := ih (by omega)
      have s1 := (a7 m (by omega)).1
      have s2 := (b7 m (by omega)).1
      rw [← c1, ← c2, ← c3] at s2
      obtain ⟨d1, d2, d3, d4, d5, d6, d7⟩ := hx_sp_u n0 n1 hF hH c4 c5 c6 c7 s1 s2
      exact ⟨d2, d1, d3, d4, d5, d6, d7⟩
  intro m hm
  have k1 := key m (by omega)
  have k2 := key (m + 1) (by omega)
  have s1 := (a7 m hm).1
  rw [(a7 m hm).2, (b7 m hm).2, ← k2.2.1]
  have := s1.1; have := s1.2.1
  exact hl _ (by omega)
/-- the reference's table -/
def hx_HM (hm : Nat → Int32) (l i : Int) : Int := (hm (9 * l + i).toNat).toInt
theorem hx_D_mn {F : Int → Int → Int} {n l i : Int} {hm : Nat → Int32} (h : hx_D F n hm (2 ^ n.toNat) 0) (l0 : 0 ≤ l) (l1 : l < 2 ^ n.toNat) (i0 : 0 ≤ i) (i1 : i ≤ n) : hx_mn F (hx_HM hm) n l i (hx_HM hm l i) := by
  have hd := h.1 l i l0 l1 i0 i1
  exact ⟨hd.2.2.2.1, hd.2.2.1, hd.2.2.2.2⟩
theorem hx_D_WT {F : Int → Int → Int} {n : Int} {hm : Nat → Int32} (h : hx_D F n hm (2 ^ n.toNat) 0) : hx_WT F (hx_HM hm) n := fun l i l0 l1 i0 i1 _ => hx_D_mn h l0 l1 i0 (by omega)
/-- the class's table -/
def hw_HC (n : Int) (a : Nat → Int32) (l i : Int) : Int := (a (8 * (2 ^ n.toNat - 1 - l) + i).toNat).toInt
def hw_mb (F H : Int → Int → Int) (n l i : Int) : Prop := 0 ≤ H l i ∧ H l i ≤ 198 * (l + 1) ∧ hx_mn F H n l i (H l i)
def hw_E (F H : Int → Int → Int) (n l i : Int) : Prop := (∀ l' i' : Int, 0 ≤ l' → l' < l → 0 ≤ i' → i' < n → hx_bt l' i' = false → hw_mb F H n l' i') ∧ ∀ i' : Int, 0 ≤ i' → i' < i → i' < n → hx_bt l i' = false → hw_mb F H n l i'
theorem hw_E0 {F H : Int → Int → Int} {n : Int} : hw_E F H n 0 0 := ⟨fun l' i' h0 h1 => absurd h1 (by omega), fun i' h0 h1 => absurd h1 (by omega)⟩
theorem hw_E_row {F H : Int → Int → Int} {n l l1 i : Int} (h : hw_E F H n l i) (hi : n ≤ i) (e : l1 = l + 1) : hw_E F H n l1 0 := by
  subst e
  refine ⟨fun l' i' h0 h1 h2 h3 hb => ?_, fun i' h0 h1 => absurd h1 (by omega)⟩
  by_cases z : l' = l
  · subst z; exact h.2 i' h2 (by omega) h3 hb
  · exact h.1 l' i' h0 (by omega) h2 h3 hb
theorem hw_E_skip {F H : Int → Int → Int} {n l i i1 : Int} (h : hw_E F H n l i) (hb : hx_bt l i = true) (e : i1 = i + 1) : hw_E F H n l i1 := by
  subst e
  refine ⟨h.1, fun i' h0 h1 h2 h3 => ?_⟩
  by_cases z : i' = i
  · subst z; rw [hb] at h3; cases h3
  · exact h.2 i' h0 (by omega) h2 h3
theorem hw_mb_c {F H H1 : Int → Int → Int} {n l i : Int} (n0 : 0 ≤ n) (n1 : n ≤ 8) (l0 : 0 ≤ l) (l1 : l < 2 ^ n.toNat) (e : H1 l i = H l i) (hH : ∀ l' i' : Int, 0 ≤ l' → l' < l → 0 ≤ i' → i' < n → H1 l' i' = H l' i') (h : hw_mb F H n l i) : hw_mb F H1 n l i := by
  obtain ⟨a, b, c, d, f⟩ := h
  refine ⟨by rw [e]; exact a, by rw [e]; exact b, by rw [e]; exact c, fun z => ?_, fun k k0 k1 kb => ?_⟩
  · obtain ⟨k, k0, k1, kb, ke⟩ := d z
    have hd := hx_sub_d n0 n1 l0 l1 k0 k1 kb
    exact ⟨k, k0, k1, kb, by rw [e, hH _ k hd.1 hd.2.1 k0 k1]; exact ke⟩
  · have hd := hx_sub_d n0 n1 l0 l1 k0 k1 kb
    rw [e, hH _ k hd.1 hd.2.1 k0 k1]; exact f k k0 k1 kb
theorem hw_E_put {F : Int → Int → Int} {n l i i1 V : Int} {a a1 : Nat → Int32} {ix : Nat} {v : Int32} (h : hw_E F (hw_HC n a) n l i) (n0 : 0 ≤ n) (n1 : n ≤ 8) (l0 : 0 ≤ l) (l1 : l < 2 ^ n.toNat) (i0 : 0 ≤ i) (i2 : i < n) (hix : (ix : Int) = 8 * (2 ^ n.toNat - 1 - l) + i) (hv : v.toInt = V) (e : a1 = hx_up a ix v) (e1 : i1 = i + 1) (V0 : 0 ≤ V) (V1 : V ≤ 198 * (l + 1)) (hm : hx_mn F (hw_HC n a) n l i V) : hw_E F (hw_HC n a1) n l i1 := by
  subst e; subst e1
  have hne : ∀ l' i' : Int, 0 ≤ l' → l' < 2 ^ n.toNat → 0 ≤ i' → i' < n → (l' ≠ l ∨ i' ≠ i) → hw_HC n (hx_up a ix v) l' i' = hw_HC n a l' i' := by
    intro l' i' x0 x1 x2 x3 x4
    unfold hw_HC
    rw [hx_up_ne (by omega)]
  have hat : hw_HC n (hx_up a ix v) l i = V := by
    unfold hw_HC
    rw [show (8 * (2 ^ n.toNat - 1 - l) + i).toNat = ix by omega, hx_up_at, hv]
  refine ⟨fun l' i' h0 h1 h2 h3 hb => hw_mb_c n0 n1 h0 (by omega) (hne l' i' h0 (by omega) h2 h3 (Or.inl (by omega))) (fun l2 i2' x0 x1 x2 x3 => hne l2 i2' x0 (by omega) x2 x3 (Or.inl (by omega))) (h.1 l' i' h0 h1 h2 h3 hb), fun i' h0 h1 h2 hb => ?_⟩
  by_cases z : i' = i
  · subst z
    have c : hx_mn F (hw_HC n (hx_up a ix v)) n l i' V := by
      refine ⟨hm.1, fun y => ?_, fun k k0 k1 kb => ?_⟩
      · obtain ⟨k, k0, k1, kb, ke⟩ := hm.2.1 y
        have hd := hx_sub_d n0 n1 l0 l1 k0 k1 kb
        exact ⟨k, k0, k1, kb, by rw [hne _ k hd.1 hd.2.2.1 k0 k1 (Or.inl (by omega))]; exact ke⟩
      · have hd := hx_sub_d n0 n1 l0 l1 k0 k1 kb
        rw [hne _ k hd.1 hd.2.2.1 k0 k1 (Or.inl (by omega))]; exact hm.2.2 k k0 k1 kb
    exact ⟨by rw [hat]; exact V0, by rw [hat]; exact V1, by rw [hat]; exact c⟩
  · exact hw_mb_c n0 n1 l0 l1 (hne l i' l0 l1 h0 h2 (Or.inr z)) (fun l2 i2' x0 x1 x2 x3 => hne l2 i2' x0 (by omega) x2 x3 (Or.inl (by omega))) (h.2 i' h0 (by omega) h2 hb)
theorem hx_btfb : (List.range 9).all (fun n => (List.range n).all (fun k => hx_bt (2 ^ n - 1 : Int) k)) = true := by decide +kernel
theorem hx_bt_full {n k : Int} (n0 : 0 ≤ n) (n1 : n ≤ 8) (k0 : 0 ≤ k) (k1 : k < n) : hx_bt (2 ^ n.toNat - 1) k = true := by
  have h := List.all_eq_true.mp (List.all_eq_true.mp hx_btfb n.toNat (List.mem_range.mpr (by omega))) k.toNat (List.mem_range.mpr (by omega))
  have e : ((k.toNat : Nat) : Int) = k := by omega
  rw [e] at h; exact h
theorem hw_E_WT {F H : Int → Int → Int} {n : Int} (n0 : 0 ≤ n) (n1 : n ≤ 8) (h : hw_E F H n (2 ^ n.toNat - 1) 0) : hx_WT F H n := fun l i l0 l1 i0 i1 hb => by
  by_cases z : l = 2 ^ n.toNat - 1
  · subst z; rw [hx_bt_full n0 n1 i0 i1] at hb; cases hb
  · exact (h.1 l i l0 (by omega) i0 i1 hb).2.2
/-- bits of those who have been, as the class has them -/
def hx_btck (n b k : Nat) : Bool := !(decide (b < 2 ^ n)) || (hx_bt ((2 ^ n - 1 : Int) - b) k == !hx_bt b k)
theorem hx_btcb : (List.range 9).all (fun n => (List.range 256).all (fun b => (List.range n).all (fun k => hx_btck n b k))) = true := by decide +kernel
theorem hx_btc {n b k : Int} (n0 : 0 ≤ n) (n1 : n ≤ 8) (b0 : 0 ≤ b) (b1 : b < 2 ^ n.toNat) (k0 : 0 ≤ k) (k1 : k < n) : hx_bt (2 ^ n.toNat - 1 - b) k = !hx_bt b k := by
  have hn := hx_p2n n0 n1
  have h := List.all_eq_true.mp (List.all_eq_true.mp (List.all_eq_true.mp hx_btcb n.toNat (List.mem_range.mpr (by omega))) b.toNat (List.mem_range.mpr (by omega))) k.toNat (List.mem_range.mpr (by omega))
  have e : ((b.toNat : Nat) : Int) = b := by omega
  have e2 : ((k.toNat : Nat) : Int) = k := by omega
  have hb : b.toNat < 2 ^ n.toNat := by
    have h4 : ((2 ^ n.toNat : Nat) : Int) = 2 ^ n.toNat := by simp
    omega
  simp only [hx_btck, Bool.or_eq_true, Bool.not_eq_true', decide_eq_false_iff_not, e, e2, beq_iff_eq] at h
  rcases h with h | h
  · exact absurd hb h
  · exact h
def hx_orck (b k : Nat) : Bool := hx_bt b k || (decide (((Int32.ofNat b) ||| ((1 : Int32) <<< ((Int32.ofNat k) &&& 31))).toInt = b + hx_p2 k) && decide (1 ≤ hx_p2 k) && decide (b + hx_p2 k ≤ 255))
theorem hx_orcb : (List.range 256).all (fun b => (List.range 8).all (fun k => hx_orck b k)) = true := by decide +kernel
theorem hx_orc {B K : Int32} (h0 : 0 ≤ B.toInt) (h1 : B.toInt ≤ 255) (k0 : 0 ≤ K.toInt) (k1 : K.toInt ≤ 7) (hb : hx_bt B.toInt K.toInt = false) : (B ||| ((1 : Int32) <<< (K &&& 31))).toInt = B.toInt + hx_p2 K.toInt ∧ 1 ≤ hx_p2 K.toInt ∧ B.toInt + hx_p2 K.toInt ≤ 255 := by
  have eL : B = Int32.ofNat B.toInt.toNat := Int32.toInt_inj.mp (by rw [Int32.toInt_ofNat_of_lt (by omega)]; omega)
  have eK : K = Int32.ofNat K.toInt.toNat := Int32.toInt_inj.mp (by rw [Int32.toInt_ofNat_of_lt (by omega)]; omega)
  have h := List.all_eq_true.mp (List.all_eq_true.mp hx_orcb B.toInt.toNat (List.mem_range.mpr (by omega))) K.toInt.toNat (List.mem_range.mpr (by omega))
  have l1 : ((B.toInt.toNat : Nat) : Int) = B.toInt := by omega
  have l2 : ((K.toInt.toNat : Nat) : Int) = K.toInt := by omega
  simp only [hx_orck, Bool.and_eq_true, decide_eq_true_eq, Bool.or_eq_true, ← eL, ← eK, l1, l2] at h
  rcases h with h | h
  · rw [hb] at h; cases h
  · exact ⟨h.1.1, h.1.2, h.2⟩
/-- the least so far -/
def hw_bs (F H : Int → Int → Int) (l i k best : Int) : Prop := ((best = 1000000000 ∧ ∀ k' : Int, 0 ≤ k' → k' < k → hx_bt l k' = false) ∨ ∃ k' : Int, 0 ≤ k' ∧ k' < k ∧ hx_bt l k' = true ∧ best = F i k' + H (l - hx_p2 k') k' ∧ 0 ≤ best ∧ best ≤ 198 * (l + 1)) ∧ ∀ k' : Int, 0 ≤ k' → k' < k → hx_bt l k' = true → best ≤ F i k' + H (l - hx_p2 k') k'
theorem hw_bs_0 {F H : Int → Int → Int} {l i : Int} : hw_bs F H l i 0 1000000000 := ⟨Or.inl ⟨rfl, fun k' h0 h1 => absurd h1 (by omega)⟩, fun k' h0 h1 => absurd h1 (by omega)⟩
theorem hw_bs_no {F H : Int → Int → Int} {l i k k1 best : Int} (h : hw_bs F H l i k best) (hb : hx_bt l k = false) (e : k1 = k + 1) : hw_bs F H l i k1 best := by
  subst e
  refine ⟨?_, fun k' h0 h1 h2 => ?_⟩
  rotate_left
  · by_cases z : k' = k
    · subst z; rw [hb] at h2; cases h2
    · exact h.2 k' h0 (by omega) h2
  rcases h.1 with ⟨h1, h2⟩ | ⟨k', a, b, c⟩
  · refine Or.inl ⟨h1, fun k' h0 h1 => ?_⟩
    by_cases z : k' = k
    · subst z; exact hb
    · exact h2 k' h0 (by omega)
  · exact Or.inr ⟨k', a, by omega, c⟩
theorem hw_bs_yes {F H : Int → Int → Int} {l i k k1 best best1 cand : Int} (h : hw_bs F H l i k best) (hb : hx_bt l k = true) (l1 : l ≤ 255) (hk0 : 0 ≤ k) (hc : cand = F i k + H (l - hx_p2 k) k) (c0 : 0 ≤ cand) (c1 : cand ≤ 198 * (l + 1)) (hbest : (best1 = best ∧ best ≤ cand) ∨ (best1 = cand ∧ cand ≤ best)) (e : k1 = k + 1) : hw_bs F H l i k1 best1 := by
  subst e
  refine ⟨?_, fun k' h0 h1 h2 => ?_⟩
  rotate_left
  · by_cases z : k' = k
    · subst z; rw [← hc]; rcases hbest with ⟨e1, e2⟩ | ⟨e1, e2⟩ <;> omega
    · have := h.2 k' h0 (by omega) h2
      rcases hbest with ⟨e1, e2⟩ | ⟨e1, e2⟩ <;> omega
  rcases hbest with ⟨e1, e2⟩ | ⟨e1, e2⟩
  · rcases h.1 with ⟨h1, h2⟩ | ⟨k', a, b, c, d⟩
    · exfalso; omega
    · exact Or.inr ⟨k', a, by omega, c, by rw [e1]; exact d.1, by rw [e1]; exact d.2⟩
  · exact Or.inr ⟨k, hk0, by omega, hb, by rw [e1, hc], by omega, by omega⟩
theorem hw_bs_mn {F H : Int → Int → Int} {n l i best : Int} (n0 : 0 ≤ n) (n1 : n ≤ 8) (h : hw_bs F H l i n best) (l0 : 0 < l) (l1 : l < 2 ^ n.toNat) : hx_mn F H n l i best ∧ 0 ≤ best ∧ best ≤ 198 * (l + 1) := by
  have hn := hx_p2n n0 n1
  rcases h.1 with ⟨h1, h2⟩ | ⟨k', a, b, c, d, e, f⟩
  · obtain ⟨k, k0, k1, kb⟩ := hx_exbit n0 n1 l0 l1 (by omega)
    rw [h2 k k0 k1] at kb; cases kb
  · exact ⟨⟨fun z => by exfalso; omega, fun _ => ⟨k', a, b, c, d⟩, h.2⟩, e, f⟩
/-- a coordinate of those whom the objects of the array name -/
def hx_dc (h : hx_h) (q pd px : Nat) (g : Nat → Int32) (n : Int) : Prop := ∀ k : Nat, (k : Int) < n → ∀ c d, h.2.2 q k = some c → h.2.2 c pd = some d → h.2.1 d px = g k
theorem hx_D_le {F : Int → Int → Int} {n l l0 : Int} {hm : Nat → Int32} (h : hx_D F n hm l 0) (e : l0 ≤ l) : hx_D F n hm l0 0 := ⟨fun l' i' a b => h.1 l' i' a (by omega), fun i' a b => absurd b (by omega)⟩
theorem hx_wj_i {F H : Int → Int → Int} {n V j l a d : Int} {lf w : Nat → Int32} (ej : j = 0) (el : l = 2 ^ n.toNat - 1) (ea : a = n) (ed : d = V) : hx_wj F H n V lf w j l a d := by
  subst ej; subst el; subst ea; subst ed
  exact hx_wj_0
theorem hx_wj_j {F H : Int → Int → Int} {n V j j1 l a d : Int} {lf w : Nat → Int32} (h : hx_wj F H n V lf w j l a d) (e : j = j1) : hx_wj F H n V lf w j1 l a d := by
  subst e
  exact h
end
section
theorem dX10_in_0 : decode cX10_in 0 = .ok (.iload_n 0, 1) := by decide +kernel
theorem dX10_in_1 : decode cX10_in 1 = .ok (.iload_n 1, 1) := by decide +kernel
theorem dX10_in_2 : decode cX10_in 2 = .ok (.if_icmp .lt 12, 3) := by decide +kernel
theorem dX10_in_5 : decode cX10_in 5 = .ok (.iload_n 0, 1) := by decide +kernel
theorem dX10_in_6 : decode cX10_in 6 = .ok (.iload_n 2, 1) := by decide +kernel
theorem dX10_in_7 : decode cX10_in 7 = .ok (.if_icmp .gt 7, 3) := by decide +kernel
theorem dX10_in_10 : decode cX10_in 10 = .ok (.iconst 1, 1) := by decide +kernel
theorem dX10_in_11 : decode cX10_in 11 = .ok (.goto 4, 3) := by decide +kernel
theorem dX10_in_14 : decode cX10_in 14 = .ok (.iconst 0, 1) := by decide +kernel
theorem dX10_in_15 : decode cX10_in 15 = .ok (.ireturn, 1) := by decide +kernel
set_option maxHeartbeats 4000000 in
set_option maxRecDepth 100000 in
theorem t_X10_in (l : Launch) (dC : Nat → ClassId) (dI : Nat → Nat → Nat) (dA : Nat → ClassId) (L : List Nat) (h : hx_h) (sz : Nat) (i1 : Int32) (i2 : Int32) (i3 : Int32) (hT : hx_T T_tb L h)   : Met l yX10_in (Cond.code yX10_in cX10_in 3 (some .boolean) :: hx_all) ({ frames := 0, cells := 0, slots := 0, locals := 0 }) (va_Pc [.int i1, .int i2, .int i3] (hx_B T_tb (P_ty dA) (dC, dI) vwCl L h sz)) (va_Qi (fun (r : Int32) (u : List Nat × hx_h) => ((r.toInt = 0 ∧ (i1.toInt < i2.toInt ∨ i3.toInt < i1.toInt)) ∨ (r.toInt = 1 ∧ i2.toInt ≤ i1.toInt ∧ i1.toInt ≤ i3.toInt)) ∧ hx_T T_tb u.1 u.2 ∧ hx_S T_tb [] L h u.1 u.2) (hx_E T_tb (P_ty dA) (dC, dI) vwCl (hx_A L sz)) (hx_A L sz)) 0 0 (hx_A L sz) := by
  refine hx_met (lv := [(0, .int i1), (1, .int i2), (2, .int i3)]) (by decide +kernel) rfl (Nat.le_of_ble_eq_true rfl) rfl ?_
  intro p e s m below meth c hx hb hml hr hlk hts0 hown hin hsz hW ls hl
  have hts : ∀ w ∈ hx_all, w.before _ s = true := fun w hw => hts0 w (List.mem_cons_of_mem _ hw)
  have hown : s.vm.findClass "SmallCourtModel" = some m.cls := hown
  have hM : hx_S T_tb [] L h L h := hx_S.rf
  refine lv_iload_n hx hb dX10_in_0 rfl (lv_at hl 0 rfl) ?_
  refine lv_iload_n hx hb dX10_in_1 rfl (lv_at hl 1 rfl) ?_
  refine hb_icmp_lt (zx := i1.toInt) (zy := i2.toInt) (tgt := 14) hx hb rfl rfl dX10_in_2 ?o0 (fun c_1 => ?_) (fun c_1 => ?_)
  case o0 => decide
  · skip
    refine lv_iconst (v := 0) hx hb dX10_in_14 ?o1 ?_
    case o1 => decide
    exact hx_retz hx hb hr rfl hlk hW ⟨(by have zr : (0 : Int32).toInt = 0 := (by decide); (first | omega | (refine ⟨?_, ?_⟩ <;> omega))), hT, hM⟩ dX10_in_15
  · skip
    refine lv_iload_n hx hb dX10_in_5 rfl (lv_at hl 0 rfl) ?_
    refine lv_iload_n hx hb dX10_in_6 rfl (lv_at hl 2 rfl) ?_
    refine hb_icmp_gt (zx := i1.toInt) (zy := i3.toInt) (tgt := 14) hx hb rfl rfl dX10_in_7 ?o2 (fun c_2 => ?_) (fun c_2 => ?_)
    case o2 => decide
    · skip
      refine lv_iconst (v := 0) hx hb dX10_in_14 ?o3 ?_
      case o3 => decide
      exact hx_retz hx hb hr rfl hlk hW ⟨(by have zr : (0 : Int32).toInt = 0 := (by decide); (first | omega | (refine ⟨?_, ?_⟩ <;> omega))), hT, hM⟩ dX10_in_15
    · skip
      refine lv_iconst (v := 1) hx hb dX10_in_10 ?o4 ?_
      case o4 => decide
      refine lv_goto (tgt := 15) hx hb dX10_in_11 ?o5 ?_
      case o5 => decide
      exact hx_retz hx hb hr rfl hlk hW ⟨(by have zr : (1 : Int32).toInt = 1 := (by decide); (first | omega | (refine ⟨?_, ?_⟩ <;> omega))), hT, hM⟩ dX10_in_15

theorem dX10_isDay_0 : decode cX10_isDay 0 = .ok (.iload_n 0, 1) := by decide +kernel
theorem dX10_isDay_1 : decode cX10_isDay 1 = .ok (.iconst 0, 1) := by decide +kernel
theorem dX10_isDay_2 : decode cX10_isDay 2 = .ok (.sipush 7999, 3) := by decide +kernel
theorem dX10_isDay_5 : decode cX10_isDay 5 = .ok (.invokestatic 228, 3) := by decide +kernel
theorem dX10_isDay_8 : decode cX10_isDay 8 = .ok (.ireturn, 1) := by decide +kernel
set_option maxHeartbeats 4000000 in
set_option maxRecDepth 100000 in
theorem t_X10_isDay (l : Launch) (dC : Nat → ClassId) (dI : Nat → Nat → Nat) (dA : Nat → ClassId) (L : List Nat) (h : hx_h) (sz : Nat) (i1 : Int32) (hT : hx_T T_tb L h)   : Met l yX10_isDay (Cond.code yX10_isDay cX10_isDay 1 (some .boolean) :: hx_all) ({ frames := 1, cells := 0, slots := 0, locals := 22 }) (va_Pc [.int i1] (hx_B T_tb (P_ty dA) (dC, dI) vwCl L h sz)) (va_Qi (fun (r : Int32) (u : List Nat × hx_h) => ((r.toInt = 0 ∧ (i1.toInt < 0 ∨ 7999 < i1.toInt)) ∨ (r.toInt = 1 ∧ 0 ≤ i1.toInt ∧ i1.toInt ≤ 7999)) ∧ hx_T T_tb u.1 u.2 ∧ hx_S T_tb [] L h u.1 u.2) (hx_E T_tb (P_ty dA) (dC, dI) vwCl (hx_A L sz)) (hx_A L sz)) 0 0 (hx_A L sz) := by
  refine hx_met (lv := [(0, .int i1)]) (by decide +kernel) rfl (Nat.le_of_ble_eq_true rfl) rfl ?_
  intro p e s m below meth c hx hb hml hr hlk hts0 hown hin hsz hW ls hl
  have hts : ∀ w ∈ hx_all, w.before _ s = true := fun w hw => hts0 w (List.mem_cons_of_mem _ hw)
  have hown : s.vm.findClass "SmallCourtModel" = some m.cls := hown
  have hM : hx_S T_tb [] L h L h := hx_S.rf
  refine lv_iload_n hx hb dX10_isDay_0 rfl (lv_at hl 0 rfl) ?_
  refine lv_iconst (v := 0) hx hb dX10_isDay_1 ?o0 ?_
  case o0 => decide
  refine lv_sipush (v := 7999) hx hb dX10_isDay_2 ?o1 ?_
  case o1 => decide
  have zc_7999 : (7999 : Int32).toInt = 7999 := ?o2
  case o2 => decide
  have zc_0 : (0 : Int32).toInt = 0 := ?o3
  case o3 => decide
  refine hx_goi (hx_runS (As := [.int i1, .int (0 : Int32), .int (7999 : Int32)]) (rest := []) ⟨hx, hb, hml, hown, hts⟩ hW (t_X10_in l dC dI dA L h s.heap.size i1 (0 : Int32) (7999 : Int32) hT) (va_cwS 3 hts (hx_gS kw_1445 kw_1443 kw_1444 kw_103) rfl rfl rfl (by decide +kernel) ⟨Nat.le_of_ble_eq_true rfl, Nat.le_of_ble_eq_true rfl⟩) rfl hl.1 rfl (Nat.le_of_ble_eq_true rfl) dX10_isDay_5 ⟨Nat.le_of_ble_eq_true rfl, Nat.le_of_ble_eq_true rfl⟩) hW (fun r_3 L_1 h_2 H locs p_4 hW => ?_)
  obtain ⟨hr_5, hT, hs⟩ := p_4
  replace hT : hx_T T_tb L_1 h_2 := hT
  replace hs : hx_S T_tb [] L h L_1 h_2 := hs
  replace hM := hM.tr (hs.mono ?o4)
  case o4 => decide
  exact hx_retz hx hb hr (hx_nar01 (by omega)) hlk hW ⟨(by first | omega | (refine ⟨?_, ?_⟩ <;> omega)), hT, hM⟩ dX10_isDay_8

theorem dX10_clock_0 : decode cX10_clock 0 = .ok (.iload_n 1, 1) := by decide +kernel
theorem dX10_clock_1 : decode cX10_clock 1 = .ok (.aload_n 0, 1) := by decide +kernel
theorem dX10_clock_2 : decode cX10_clock 2 = .ok (.getfield 232, 3) := by decide +kernel
theorem dX10_clock_5 : decode cX10_clock 5 = .ok (.sipush 7999, 3) := by decide +kernel
theorem dX10_clock_8 : decode cX10_clock 8 = .ok (.invokestatic 228, 3) := by decide +kernel
theorem dX10_clock_11 : decode cX10_clock 11 = .ok (.ifCond .ne 5, 3) := by decide +kernel
theorem dX10_clock_14 : decode cX10_clock 14 = .ok (.iconst 0, 1) := by decide +kernel
theorem dX10_clock_15 : decode cX10_clock 15 = .ok (.ireturn, 1) := by decide +kernel
theorem dX10_clock_16 : decode cX10_clock 16 = .ok (.aload_n 0, 1) := by decide +kernel
theorem dX10_clock_17 : decode cX10_clock 17 = .ok (.iload_n 1, 1) := by decide +kernel
theorem dX10_clock_18 : decode cX10_clock 18 = .ok (.putfield 232, 3) := by decide +kernel
theorem dX10_clock_21 : decode cX10_clock 21 = .ok (.iconst 1, 1) := by decide +kernel
theorem dX10_clock_22 : decode cX10_clock 22 = .ok (.ireturn, 1) := by decide +kernel
set_option maxHeartbeats 4000000 in
set_option maxRecDepth 100000 in
theorem t_X10_clock (l : Launch) (dC : Nat → ClassId) (dI : Nat → Nat → Nat) (dA : Nat → ClassId) (L : List Nat) (h : hx_h) (sz : Nat) (x : Nat) (i1 : Int32) (hT : hx_T T_tb L h) (gx : hx_g L h x 10) (now0 : Int32) (f_x_0 : h.2.1 x 0 = now0) : Met l yX10_clock (Cond.code yX10_clock cX10_clock 2 (some .boolean) :: hx_all) ({ frames := 1, cells := 0, slots := 0, locals := 22 }) (va_Pc [.ref x, .int i1] (hx_B T_tb (P_ty dA) (dC, dI) vwCl L h sz)) (va_Qi (fun (r : Int32) (u : List Nat × hx_h) => (∃ (now1 : Int32), u.2.2.1 x 0 = now1 ∧ ((r.toInt = 0 ∨ r.toInt = 1) ∧ (r.toInt = 0 → (i1.toInt < now0.toInt ∨ 7999 < i1.toInt) ∧ now1 = now0) ∧ (r.toInt = 1 → now0.toInt ≤ i1.toInt ∧ i1.toInt ≤ 7999 ∧ now1 = i1))) ∧ hx_T T_tb u.1 u.2 ∧ hx_S T_tb [(10, 0)] L h u.1 u.2) (hx_E T_tb (P_ty dA) (dC, dI) vwCl (hx_A L sz)) (hx_A L sz)) 0 0 (hx_A L sz) := by
  refine hx_met (lv := [(0, .ref x), (1, .int i1)]) (by decide +kernel) rfl (Nat.le_of_ble_eq_true rfl) rfl ?_
  intro p e s m below meth c hx hb hml hr hlk hts0 hown hin hsz hW ls hl
  have hts : ∀ w ∈ hx_all, w.before _ s = true := fun w hw => hts0 w (List.mem_cons_of_mem _ hw)
  have hown : s.vm.findClass "SmallCourtModel" = some m.cls := hown
  have hM : hx_S T_tb [(10, 0)] L h L h := hx_S.rf
  have b_now0 := hT.gi gx tt_10 (k := 0) rfl
  rw [f_x_0] at b_now0
  have b_now0 : 0 ≤ now0.toInt ∧ now0.toInt ≤ 7999 := b_now0
  refine lv_iload_n hx hb dX10_clock_0 rfl (lv_at hl 1 rfl) ?_
  refine lv_aload_n hx hb dX10_clock_1 rfl (lv_at hl 0 rfl) ?_
  refine hk_geti hx hb hts hC_10 hown hW (gx.S hM) tt_10 0 ?o0 rfl kw_1143 ⟨rfl, rfl, rfl⟩ f_x_0 dX10_clock_2 ?_
  case o0 => decide
  refine lv_sipush (v := 7999) hx hb dX10_clock_5 ?o1 ?_
  case o1 => decide
  have zc_7999 : (7999 : Int32).toInt = 7999 := ?o2
  case o2 => decide
  refine hx_goi (hx_runS (As := [.int i1, .int now0, .int (7999 : Int32)]) (rest := []) ⟨hx, hb, hml, hown, hts⟩ hW (t_X10_in l dC dI dA L h s.heap.size i1 now0 (7999 : Int32) hT) (va_cwS 3 hts (hx_gS kw_1445 kw_1443 kw_1444 kw_103) rfl rfl rfl (by decide +kernel) ⟨Nat.le_of_ble_eq_true rfl, Nat.le_of_ble_eq_true rfl⟩) rfl hl.1 rfl (Nat.le_of_ble_eq_true rfl) dX10_clock_8 ⟨Nat.le_of_ble_eq_true rfl, Nat.le_of_ble_eq_true rfl⟩) hW (fun r_3 L_1 h_2 H locs p_4 hW => ?_)
  obtain ⟨hr_5, hT, hs⟩ := p_4
  replace hT : hx_T T_tb L_1 h_2 := hT
  replace hs : hx_S T_tb [] L h L_1 h_2 := hs
  replace f_x_0 := (hs.o (gx.S hM) trivial rfl).1.trans f_x_0
  replace hM := hM.tr (hs.mono ?o3)
  case o3 => decide
  refine hb_if_ne (zx := r_3.toInt) (tgt := 16) hx hb rfl dX10_clock_11 ?o4 (fun c_6 => ?_) (fun c_6 => ?_)
  case o4 => decide
  · skip
    replace hr_5 := hr_5.resolve_left (fun z9 => c_6 z9.1)
    replace c_6 := hr_5.1
    replace hr_5 := hr_5.2
    refine lv_aload_n hx hb dX10_clock_16 rfl (lv_at hl 0 rfl) ?_
    refine lv_iload_n hx hb dX10_clock_17 rfl (lv_at hl 1 rfl) ?_
    refine hx_puti hx hb hts hC_10 hown hW hT (hx_S.rf (M := [(10, 0)])) (gx.S hM) tt_10 0 ?o5 rfl kw_1143 ⟨rfl, rfl, rfl⟩ rfl (x := i1) ⟨?o6, ?o7⟩ rfl rfl rfl (List.mem_singleton.mpr rfl) dX10_clock_18 (fun H locs h_7 eh_7 hW hT hs => ?_)
    case o5 => decide
    case o6 => omega
    case o7 => omega
    replace hM := hM.tr (hs.mono ?o8)
    case o8 => decide
    have f_8 : h_7.2.1 x 0 = i1 := ?o9
    case o9 =>
      rw [eh_7]
      exact hx_pi_at _ _ _ _
    refine lv_iconst (v := 1) hx hb dX10_clock_21 ?o10 ?_
    case o10 => decide
    exact hx_retz hx hb hr rfl hlk hW ⟨⟨i1, f_8, (by have zr : (1 : Int32).toInt = 1 := (by decide); exact ⟨by omega, fun z => absurd z (by decide), fun _ => ⟨by omega, by omega, rfl⟩⟩)⟩, hT, hM⟩ dX10_clock_22
  · skip
    replace hr_5 := hr_5.resolve_right (fun z9 => absurd (c_6.symm.trans z9.1) ?o11)
    case o11 => decide
    replace hr_5 := hr_5.2
    refine lv_iconst (v := 0) hx hb dX10_clock_14 ?o12 ?_
    case o12 => decide
    exact hx_retz hx hb hr rfl hlk hW ⟨⟨now0, f_x_0, (by have zr : (0 : Int32).toInt = 0 := (by decide); exact ⟨by omega, fun _ => ⟨by omega, rfl⟩, fun z => absurd z (by decide)⟩)⟩, hT, hM⟩ dX10_clock_15

def wNX10_without : Nat := 11975177493887006664686487111746803698502355583449825827999986074185662064118989481792150140725418970988518271709643077037549621518396148563750418881118792365934911441445970127118749730384410
theorem wX10_without_c : hz_cd cX10_without wNX10_without 79 := ⟨by decide +kernel, by decide +kernel⟩
theorem dX10_without_0 : decode cX10_without 0 = .ok (.iload_n 0, 1) := dw_26 wX10_without_c rfl
theorem dX10_without_1 : decode cX10_without 1 = .ok (.tableswitch 76 0 8 #[51, 55, 58, 61, 64, 66, 68, 70, 73], 51) := by decide +kernel
theorem dX10_without_52 : decode cX10_without 52 = .ok (.sipush 480, 3) := dw_17 wX10_without_c 1 224 rfl rfl rfl
theorem dX10_without_55 : decode cX10_without 55 = .ok (.ireturn, 1) := dw_172 wX10_without_c rfl
theorem dX10_without_56 : decode cX10_without 56 = .ok (.bipush 30, 2) := dw_16 wX10_without_c 30 rfl rfl rfl
theorem dX10_without_58 : decode cX10_without 58 = .ok (.ireturn, 1) := dw_172 wX10_without_c rfl
theorem dX10_without_59 : decode cX10_without 59 = .ok (.bipush 12, 2) := dw_16 wX10_without_c 12 rfl rfl rfl
theorem dX10_without_61 : decode cX10_without 61 = .ok (.ireturn, 1) := dw_172 wX10_without_c rfl
theorem dX10_without_62 : decode cX10_without 62 = .ok (.bipush 60, 2) := dw_16 wX10_without_c 60 rfl rfl rfl
theorem dX10_without_64 : decode cX10_without 64 = .ok (.ireturn, 1) := dw_172 wX10_without_c rfl
theorem dX10_without_65 : decode cX10_without 65 = .ok (.iconst 2, 1) := dw_5 wX10_without_c rfl
theorem dX10_without_66 : decode cX10_without 66 = .ok (.ireturn, 1) := dw_172 wX10_without_c rfl
theorem dX10_without_67 : decode cX10_without 67 = .ok (.iconst 4, 1) := dw_7 wX10_without_c rfl
theorem dX10_without_68 : decode cX10_without 68 = .ok (.ireturn, 1) := dw_172 wX10_without_c rfl
theorem dX10_without_69 : decode cX10_without 69 = .ok (.iconst 1, 1) := dw_4 wX10_without_c rfl
theorem dX10_without_70 : decode cX10_without 70 = .ok (.ireturn, 1) := dw_172 wX10_without_c rfl
theorem dX10_without_71 : decode cX10_without 71 = .ok (.bipush 40, 2) := dw_16 wX10_without_c 40 rfl rfl rfl
theorem dX10_without_73 : decode cX10_without 73 = .ok (.ireturn, 1) := dw_172 wX10_without_c rfl
theorem dX10_without_74 : decode cX10_without 74 = .ok (.bipush 21, 2) := dw_16 wX10_without_c 21 rfl rfl rfl
theorem dX10_without_76 : decode cX10_without 76 = .ok (.ireturn, 1) := dw_172 wX10_without_c rfl
theorem dX10_without_77 : decode cX10_without 77 = .ok (.iconst 0, 1) := dw_3 wX10_without_c rfl
theorem dX10_without_78 : decode cX10_without 78 = .ok (.ireturn, 1) := dw_172 wX10_without_c rfl
theorem dX10_leastOf_0 : decode cX10_leastOf 0 = .ok (.iload_n 0, 1) := by decide +kernel
theorem dX10_leastOf_1 : decode cX10_leastOf 1 = .ok (.iconst 1, 1) := by decide +kernel
theorem dX10_leastOf_2 : decode cX10_leastOf 2 = .ok (.if_icmp .eq 14, 3) := by decide +kernel
theorem dX10_leastOf_5 : decode cX10_leastOf 5 = .ok (.iload_n 0, 1) := by decide +kernel
theorem dX10_leastOf_6 : decode cX10_leastOf 6 = .ok (.iconst 3, 1) := by decide +kernel
theorem dX10_leastOf_7 : decode cX10_leastOf 7 = .ok (.if_icmp .eq 9, 3) := by decide +kernel
theorem dX10_leastOf_10 : decode cX10_leastOf 10 = .ok (.iload_n 0, 1) := by decide +kernel
theorem dX10_leastOf_11 : decode cX10_leastOf 11 = .ok (.bipush 8, 2) := by decide +kernel
theorem dX10_leastOf_13 : decode cX10_leastOf 13 = .ok (.if_icmp .lt 7, 3) := by decide +kernel
theorem dX10_leastOf_16 : decode cX10_leastOf 16 = .ok (.iconst 0, 1) := by decide +kernel
theorem dX10_leastOf_17 : decode cX10_leastOf 17 = .ok (.goto 4, 3) := by decide +kernel
theorem dX10_leastOf_20 : decode cX10_leastOf 20 = .ok (.iconst 1, 1) := by decide +kernel
theorem dX10_leastOf_21 : decode cX10_leastOf 21 = .ok (.ireturn, 1) := by decide +kernel
def wNX10_mostOf : Nat := 56843129509498388588490944301354315642376542482062728459871293352101656433245937830303499952866001854477409521938382760386673058331615191678508349893084936379460769215290360598174182960650087462610555589825178138
theorem wX10_mostOf_c : hz_cd cX10_mostOf wNX10_mostOf 88 := ⟨by decide +kernel, by decide +kernel⟩
theorem dX10_mostOf_0 : decode cX10_mostOf 0 = .ok (.iload_n 0, 1) := dw_26 wX10_mostOf_c rfl
theorem dX10_mostOf_1 : decode cX10_mostOf 1 = .ok (.tableswitch 83 0 8 #[51, 55, 59, 63, 67, 70, 73, 76, 80], 51) := by decide +kernel
theorem dX10_mostOf_52 : decode cX10_mostOf 52 = .ok (.sipush 9999, 3) := dw_17 wX10_mostOf_c 39 15 rfl rfl rfl
theorem dX10_mostOf_55 : decode cX10_mostOf 55 = .ok (.ireturn, 1) := dw_172 wX10_mostOf_c rfl
theorem dX10_mostOf_56 : decode cX10_mostOf 56 = .ok (.sipush 365, 3) := dw_17 wX10_mostOf_c 1 109 rfl rfl rfl
theorem dX10_mostOf_59 : decode cX10_mostOf 59 = .ok (.ireturn, 1) := dw_172 wX10_mostOf_c rfl
theorem dX10_mostOf_60 : decode cX10_mostOf 60 = .ok (.sipush 999, 3) := dw_17 wX10_mostOf_c 3 231 rfl rfl rfl
theorem dX10_mostOf_63 : decode cX10_mostOf 63 = .ok (.ireturn, 1) := dw_172 wX10_mostOf_c rfl
theorem dX10_mostOf_64 : decode cX10_mostOf 64 = .ok (.sipush 999, 3) := dw_17 wX10_mostOf_c 3 231 rfl rfl rfl
theorem dX10_mostOf_67 : decode cX10_mostOf 67 = .ok (.ireturn, 1) := dw_172 wX10_mostOf_c rfl
theorem dX10_mostOf_68 : decode cX10_mostOf 68 = .ok (.bipush 20, 2) := dw_16 wX10_mostOf_c 20 rfl rfl rfl
theorem dX10_mostOf_70 : decode cX10_mostOf 70 = .ok (.ireturn, 1) := dw_172 wX10_mostOf_c rfl
theorem dX10_mostOf_71 : decode cX10_mostOf 71 = .ok (.bipush 20, 2) := dw_16 wX10_mostOf_c 20 rfl rfl rfl
theorem dX10_mostOf_73 : decode cX10_mostOf 73 = .ok (.ireturn, 1) := dw_172 wX10_mostOf_c rfl
theorem dX10_mostOf_74 : decode cX10_mostOf 74 = .ok (.bipush 30, 2) := dw_16 wX10_mostOf_c 30 rfl rfl rfl
theorem dX10_mostOf_76 : decode cX10_mostOf 76 = .ok (.ireturn, 1) := dw_172 wX10_mostOf_c rfl
theorem dX10_mostOf_77 : decode cX10_mostOf 77 = .ok (.sipush 400, 3) := dw_17 wX10_mostOf_c 1 144 rfl rfl rfl
theorem dX10_mostOf_80 : decode cX10_mostOf 80 = .ok (.ireturn, 1) := dw_172 wX10_mostOf_c rfl
theorem dX10_mostOf_81 : decode cX10_mostOf 81 = .ok (.bipush 40, 2) := dw_16 wX10_mostOf_c 40 rfl rfl rfl
theorem dX10_mostOf_83 : decode cX10_mostOf 83 = .ok (.ireturn, 1) := dw_172 wX10_mostOf_c rfl
theorem dX10_mostOf_84 : decode cX10_mostOf 84 = .ok (.sipush 999, 3) := dw_17 wX10_mostOf_c 3 231 rfl rfl rfl
theorem dX10_mostOf_87 : decode cX10_mostOf 87 = .ok (.ireturn, 1) := dw_172 wX10_mostOf_c rfl
def wNX10_four : Nat := 88467196073578092586784551856132364832250842158344340745687850555282075833763651909392400
theorem wX10_four_c : hz_cd cX10_four wNX10_four 37 := ⟨by decide +kernel, by decide +kernel⟩
theorem dX10_four_0 : decode cX10_four 0 = .ok (.bipush 24, 2) := dw_16 wX10_four_c 24 rfl rfl rfl
theorem dX10_four_2 : decode cX10_four 2 = .ok (.istore_n 2, 1) := dw_61 wX10_four_c rfl
theorem dX10_four_3 : decode cX10_four 3 = .ok (.iload_n 2, 1) := dw_28 wX10_four_c rfl
theorem dX10_four_4 : decode cX10_four 4 = .ok (.ifCond .lt 32, 3) := dw_155 wX10_four_c 0 32 rfl rfl rfl
theorem dX10_four_7 : decode cX10_four 7 = .ok (.aload_n 0, 1) := dw_42 wX10_four_c rfl
theorem dX10_four_8 : decode cX10_four 8 = .ok (.getfield 22, 3) := dw_180 wX10_four_c 0 22 rfl rfl
theorem dX10_four_11 : decode cX10_four 11 = .ok (.aload_n 0, 1) := dw_42 wX10_four_c rfl
theorem dX10_four_12 : decode cX10_four 12 = .ok (.getfield 236, 3) := dw_180 wX10_four_c 0 236 rfl rfl
theorem dX10_four_15 : decode cX10_four 15 = .ok (.iload_n 1, 1) := dw_27 wX10_four_c rfl
theorem dX10_four_16 : decode cX10_four 16 = .ok (.iload_n 2, 1) := dw_28 wX10_four_c rfl
theorem dX10_four_17 : decode cX10_four 17 = .ok (.ishr, 1) := dw_122 wX10_four_c rfl
theorem dX10_four_18 : decode cX10_four 18 = .ok (.i2b, 1) := dw_145 wX10_four_c rfl
theorem dX10_four_19 : decode cX10_four 19 = .ok (.bastore, 1) := dw_84 wX10_four_c rfl
theorem dX10_four_20 : decode cX10_four 20 = .ok (.aload_n 0, 1) := dw_42 wX10_four_c rfl
theorem dX10_four_21 : decode cX10_four 21 = .ok (.dup, 1) := dw_89 wX10_four_c rfl
theorem dX10_four_22 : decode cX10_four 22 = .ok (.getfield 236, 3) := dw_180 wX10_four_c 0 236 rfl rfl
theorem dX10_four_25 : decode cX10_four 25 = .ok (.iconst 1, 1) := dw_4 wX10_four_c rfl
theorem dX10_four_26 : decode cX10_four 26 = .ok (.iadd, 1) := dw_96 wX10_four_c rfl
theorem dX10_four_27 : decode cX10_four 27 = .ok (.putfield 236, 3) := dw_181 wX10_four_c 0 236 rfl rfl
theorem dX10_four_30 : decode cX10_four 30 = .ok (.iinc 2 (-8), 3) := dn_132 wX10_four_c 2 248 rfl (by decide)
theorem dX10_four_33 : decode cX10_four 33 = .ok (.goto (-30), 3) := dn_167 wX10_four_c 255 226 rfl (by decide)
theorem dX10_four_36 : decode cX10_four 36 = .ok (.return_, 1) := dw_177 wX10_four_c rfl
def wNX10_feed : Nat := 103965289510706926502029115669025582072901874786789231249780459126165856060613428213799563057340521572889691993130
theorem wX10_feed_c : hz_cd cX10_feed wNX10_feed 47 := ⟨by decide +kernel, by decide +kernel⟩
theorem dX10_feed_0 : decode cX10_feed 0 = .ok (.aload_n 0, 1) := dw_42 wX10_feed_c rfl
theorem dX10_feed_1 : decode cX10_feed 1 = .ok (.getfield 236, 3) := dw_180 wX10_feed_c 0 236 rfl rfl
theorem dX10_feed_4 : decode cX10_feed 4 = .ok (.bipush 20, 2) := dw_16 wX10_feed_c 20 rfl rfl rfl
theorem dX10_feed_6 : decode cX10_feed 6 = .ok (.iadd, 1) := dw_96 wX10_feed_c rfl
theorem dX10_feed_7 : decode cX10_feed 7 = .ok (.sipush 400, 3) := dw_17 wX10_feed_c 1 144 rfl rfl rfl
theorem dX10_feed_10 : decode cX10_feed 10 = .ok (.if_icmp .le 5, 3) := dw_164 wX10_feed_c 0 5 rfl rfl rfl
theorem dX10_feed_13 : decode cX10_feed 13 = .ok (.iconst (-1), 1) := dw_2 wX10_feed_c rfl
theorem dX10_feed_14 : decode cX10_feed 14 = .ok (.ireturn, 1) := dw_172 wX10_feed_c rfl
theorem dX10_feed_15 : decode cX10_feed 15 = .ok (.aload_n 0, 1) := dw_42 wX10_feed_c rfl
theorem dX10_feed_16 : decode cX10_feed 16 = .ok (.iload_n 1, 1) := dw_27 wX10_feed_c rfl
theorem dX10_feed_17 : decode cX10_feed 17 = .ok (.invokevirtual 239, 3) := dw_182 wX10_feed_c 0 239 rfl rfl
theorem dX10_feed_20 : decode cX10_feed 20 = .ok (.aload_n 0, 1) := dw_42 wX10_feed_c rfl
theorem dX10_feed_21 : decode cX10_feed 21 = .ok (.iload_n 2, 1) := dw_28 wX10_feed_c rfl
theorem dX10_feed_22 : decode cX10_feed 22 = .ok (.invokevirtual 239, 3) := dw_182 wX10_feed_c 0 239 rfl rfl
theorem dX10_feed_25 : decode cX10_feed 25 = .ok (.aload_n 0, 1) := dw_42 wX10_feed_c rfl
theorem dX10_feed_26 : decode cX10_feed 26 = .ok (.iload_n 3, 1) := dw_29 wX10_feed_c rfl
theorem dX10_feed_27 : decode cX10_feed 27 = .ok (.invokevirtual 239, 3) := dw_182 wX10_feed_c 0 239 rfl rfl
theorem dX10_feed_30 : decode cX10_feed 30 = .ok (.aload_n 0, 1) := dw_42 wX10_feed_c rfl
theorem dX10_feed_31 : decode cX10_feed 31 = .ok (.iload 4, 2) := dw_21 wX10_feed_c 4 rfl
theorem dX10_feed_33 : decode cX10_feed 33 = .ok (.invokevirtual 239, 3) := dw_182 wX10_feed_c 0 239 rfl rfl
theorem dX10_feed_36 : decode cX10_feed 36 = .ok (.aload_n 0, 1) := dw_42 wX10_feed_c rfl
theorem dX10_feed_37 : decode cX10_feed 37 = .ok (.iload 5, 2) := dw_21 wX10_feed_c 5 rfl
theorem dX10_feed_39 : decode cX10_feed 39 = .ok (.invokevirtual 239, 3) := dw_182 wX10_feed_c 0 239 rfl rfl
theorem dX10_feed_42 : decode cX10_feed 42 = .ok (.aload_n 0, 1) := dw_42 wX10_feed_c rfl
theorem dX10_feed_43 : decode cX10_feed 43 = .ok (.getfield 236, 3) := dw_180 wX10_feed_c 0 236 rfl rfl
theorem dX10_feed_46 : decode cX10_feed 46 = .ok (.ireturn, 1) := dw_172 wX10_feed_c rfl
theorem dX10_end_0 : decode cX10_end 0 = .ok (.iload_n 1, 1) := by decide +kernel
theorem dX10_end_1 : decode cX10_end 1 = .ok (.ifCond .lt 11, 3) := by decide +kernel
theorem dX10_end_4 : decode cX10_end 4 = .ok (.iload_n 1, 1) := by decide +kernel
theorem dX10_end_5 : decode cX10_end 5 = .ok (.aload_n 0, 1) := by decide +kernel
theorem dX10_end_6 : decode cX10_end 6 = .ok (.getfield 236, 3) := by decide +kernel
theorem dX10_end_9 : decode cX10_end 9 = .ok (.if_icmp .le 5, 3) := by decide +kernel
theorem dX10_end_12 : decode cX10_end 12 = .ok (.iconst (-1), 1) := by decide +kernel
theorem dX10_end_13 : decode cX10_end 13 = .ok (.ireturn, 1) := by decide +kernel
theorem dX10_end_14 : decode cX10_end 14 = .ok (.aload_n 0, 1) := by decide +kernel
theorem dX10_end_15 : decode cX10_end 15 = .ok (.iload_n 1, 1) := by decide +kernel
theorem dX10_end_16 : decode cX10_end 16 = .ok (.putfield 236, 3) := by decide +kernel
theorem dX10_end_19 : decode cX10_end 19 = .ok (.iload_n 1, 1) := by decide +kernel
theorem dX10_end_20 : decode cX10_end 20 = .ok (.ireturn, 1) := by decide +kernel
theorem dX10_fails_0 : decode cX10_fails 0 = .ok (.aload_n 0, 1) := by decide +kernel
theorem dX10_fails_1 : decode cX10_fails 1 = .ok (.getfield 242, 3) := by decide +kernel
theorem dX10_fails_4 : decode cX10_fails 4 = .ok (.ifCond .ne 15, 3) := by decide +kernel
theorem dX10_fails_7 : decode cX10_fails 7 = .ok (.aload_n 0, 1) := by decide +kernel
theorem dX10_fails_8 : decode cX10_fails 8 = .ok (.iconst 1, 1) := by decide +kernel
theorem dX10_fails_9 : decode cX10_fails 9 = .ok (.bipush 8, 2) := by decide +kernel
theorem dX10_fails_11 : decode cX10_fails 11 = .ok (.iload_n 2, 1) := by decide +kernel
theorem dX10_fails_12 : decode cX10_fails 12 = .ok (.imul, 1) := by decide +kernel
theorem dX10_fails_13 : decode cX10_fails 13 = .ok (.iadd, 1) := by decide +kernel
theorem dX10_fails_14 : decode cX10_fails 14 = .ok (.iload_n 1, 1) := by decide +kernel
theorem dX10_fails_15 : decode cX10_fails 15 = .ok (.iadd, 1) := by decide +kernel
theorem dX10_fails_16 : decode cX10_fails 16 = .ok (.putfield 242, 3) := by decide +kernel
theorem dX10_fails_19 : decode cX10_fails 19 = .ok (.iconst 0, 1) := by decide +kernel
theorem dX10_fails_20 : decode cX10_fails 20 = .ok (.ireturn, 1) := by decide +kernel
theorem dX10_isFact_0 : decode cX10_isFact 0 = .ok (.iload_n 0, 1) := by decide +kernel
theorem dX10_isFact_1 : decode cX10_isFact 1 = .ok (.iconst 3, 1) := by decide +kernel
theorem dX10_isFact_2 : decode cX10_isFact 2 = .ok (.bipush 10, 2) := by decide +kernel
theorem dX10_isFact_4 : decode cX10_isFact 4 = .ok (.invokestatic 228, 3) := by decide +kernel
theorem dX10_isFact_7 : decode cX10_isFact 7 = .ok (.ireturn, 1) := by decide +kernel
set_option maxHeartbeats 4000000 in
set_option maxRecDepth 100000 in
theorem t_X10_isFact (l : Launch) (dC : Nat → ClassId) (dI : Nat → Nat → Nat) (dA : Nat → ClassId) (L : List Nat) (h : hx_h) (sz : Nat) (i1 : Int32) (hT : hx_T T_tb L h)   : Met l yX10_isFact (Cond.code yX10_isFact cX10_isFact 1 (some .boolean) :: hx_all) ({ frames := 1, cells := 0, slots := 0, locals := 22 }) (va_Pc [.int i1] (hx_B T_tb (P_ty dA) (dC, dI) vwCl L h sz)) (va_Qi (fun (r : Int32) (u : List Nat × hx_h) => ((r.toInt = 0 ∧ (i1.toInt < 3 ∨ 10 < i1.toInt)) ∨ (r.toInt = 1 ∧ 3 ≤ i1.toInt ∧ i1.toInt ≤ 10)) ∧ hx_T T_tb u.1 u.2 ∧ hx_S T_tb [] L h u.1 u.2) (hx_E T_tb (P_ty dA) (dC, dI) vwCl (hx_A L sz)) (hx_A L sz)) 0 0 (hx_A L sz) := by
  refine hx_met (lv := [(0, .int i1)]) (by decide +kernel) rfl (Nat.le_of_ble_eq_true rfl) rfl ?_
  intro p e s m below meth c hx hb hml hr hlk hts0 hown hin hsz hW ls hl
  have hts : ∀ w ∈ hx_all, w.before _ s = true := fun w hw => hts0 w (List.mem_cons_of_mem _ hw)
  have hown : s.vm.findClass "SmallCourtModel" = some m.cls := hown
  have hM : hx_S T_tb [] L h L h := hx_S.rf
  refine lv_iload_n hx hb dX10_isFact_0 rfl (lv_at hl 0 rfl) ?_
  refine lv_iconst (v := 3) hx hb dX10_isFact_1 ?o0 ?_
  case o0 => decide
  refine lv_bipush (v := 10) hx hb dX10_isFact_2 ?o1 ?_
  case o1 => decide
  have zc_10 : (10 : Int32).toInt = 10 := ?o2
  case o2 => decide
  have zc_3 : (3 : Int32).toInt = 3 := ?o3
  case o3 => decide
  refine hx_goi (hx_runS (As := [.int i1, .int (3 : Int32), .int (10 : Int32)]) (rest := []) ⟨hx, hb, hml, hown, hts⟩ hW (t_X10_in l dC dI dA L h s.heap.size i1 (3 : Int32) (10 : Int32) hT) (va_cwS 3 hts (hx_gS kw_1445 kw_1443 kw_1444 kw_103) rfl rfl rfl (by decide +kernel) ⟨Nat.le_of_ble_eq_true rfl, Nat.le_of_ble_eq_true rfl⟩) rfl hl.1 rfl (Nat.le_of_ble_eq_true rfl) dX10_isFact_4 ⟨Nat.le_of_ble_eq_true rfl, Nat.le_of_ble_eq_true rfl⟩) hW (fun r_3 L_1 h_2 H locs p_4 hW => ?_)
  obtain ⟨hr_5, hT, hs⟩ := p_4
  replace hT : hx_T T_tb L_1 h_2 := hT
  replace hs : hx_S T_tb [] L h L_1 h_2 := hs
  replace hM := hM.tr (hs.mono ?o4)
  case o4 => decide
  exact hx_retz hx hb hr (hx_nar01 (by omega)) hlk hW ⟨(by first | omega | (refine ⟨?_, ?_⟩ <;> omega)), hT, hM⟩ dX10_isFact_7

def wNX10_deep : Nat := 6781431211541985337624627061041248202444897348819881258086100527744872845639328188116400894845602382082128434771999747
theorem wX10_deep_c : hz_cd cX10_deep wNX10_deep 49 := ⟨by decide +kernel, by decide +kernel⟩
theorem dX10_deep_0 : decode cX10_deep 0 = .ok (.iconst 0, 1) := dw_3 wX10_deep_c rfl
theorem dX10_deep_1 : decode cX10_deep 1 = .ok (.istore_n 1, 1) := dw_60 wX10_deep_c rfl
theorem dX10_deep_2 : decode cX10_deep 2 = .ok (.iconst 0, 1) := dw_3 wX10_deep_c rfl
theorem dX10_deep_3 : decode cX10_deep 3 = .ok (.istore_n 2, 1) := dw_61 wX10_deep_c rfl
theorem dX10_deep_4 : decode cX10_deep 4 = .ok (.iload_n 2, 1) := dw_28 wX10_deep_c rfl
theorem dX10_deep_5 : decode cX10_deep 5 = .ok (.aload_n 0, 1) := dw_42 wX10_deep_c rfl
theorem dX10_deep_6 : decode cX10_deep 6 = .ok (.getfield 265, 3) := dw_180 wX10_deep_c 1 9 rfl rfl
theorem dX10_deep_9 : decode cX10_deep 9 = .ok (.if_icmp .ge 38, 3) := dw_162 wX10_deep_c 0 38 rfl rfl rfl
theorem dX10_deep_12 : decode cX10_deep 12 = .ok (.iload_n 1, 1) := dw_27 wX10_deep_c rfl
theorem dX10_deep_13 : decode cX10_deep 13 = .ok (.aload_n 0, 1) := dw_42 wX10_deep_c rfl
theorem dX10_deep_14 : decode cX10_deep 14 = .ok (.getfield 32, 3) := dw_180 wX10_deep_c 0 32 rfl rfl
theorem dX10_deep_17 : decode cX10_deep 17 = .ok (.iload_n 2, 1) := dw_28 wX10_deep_c rfl
theorem dX10_deep_18 : decode cX10_deep 18 = .ok (.iaload, 1) := dw_46 wX10_deep_c rfl
theorem dX10_deep_19 : decode cX10_deep 19 = .ok (.iconst 2, 1) := dw_5 wX10_deep_c rfl
theorem dX10_deep_20 : decode cX10_deep 20 = .ok (.if_icmp .eq 14, 3) := dw_159 wX10_deep_c 0 14 rfl rfl rfl
theorem dX10_deep_23 : decode cX10_deep 23 = .ok (.aload_n 0, 1) := dw_42 wX10_deep_c rfl
theorem dX10_deep_24 : decode cX10_deep 24 = .ok (.getfield 32, 3) := dw_180 wX10_deep_c 0 32 rfl rfl
theorem dX10_deep_27 : decode cX10_deep 27 = .ok (.iload_n 2, 1) := dw_28 wX10_deep_c rfl
theorem dX10_deep_28 : decode cX10_deep 28 = .ok (.iaload, 1) := dw_46 wX10_deep_c rfl
theorem dX10_deep_29 : decode cX10_deep 29 = .ok (.bipush 100, 2) := dw_16 wX10_deep_c 100 rfl rfl rfl
theorem dX10_deep_31 : decode cX10_deep 31 = .ok (.if_icmp .ne 7, 3) := dw_160 wX10_deep_c 0 7 rfl rfl rfl
theorem dX10_deep_34 : decode cX10_deep 34 = .ok (.iconst 1, 1) := dw_4 wX10_deep_c rfl
theorem dX10_deep_35 : decode cX10_deep 35 = .ok (.goto 4, 3) := dw_167 wX10_deep_c 0 4 rfl rfl rfl
theorem dX10_deep_38 : decode cX10_deep 38 = .ok (.iconst 0, 1) := dw_3 wX10_deep_c rfl
theorem dX10_deep_39 : decode cX10_deep 39 = .ok (.iadd, 1) := dw_96 wX10_deep_c rfl
theorem dX10_deep_40 : decode cX10_deep 40 = .ok (.istore_n 1, 1) := dw_60 wX10_deep_c rfl
theorem dX10_deep_41 : decode cX10_deep 41 = .ok (.iinc 2 1, 3) := dw_132 wX10_deep_c 2 1 rfl rfl rfl
theorem dX10_deep_44 : decode cX10_deep 44 = .ok (.goto (-40), 3) := dn_167 wX10_deep_c 255 216 rfl (by decide)
theorem dX10_deep_47 : decode cX10_deep 47 = .ok (.iload_n 1, 1) := dw_27 wX10_deep_c rfl
theorem dX10_deep_48 : decode cX10_deep 48 = .ok (.ireturn, 1) := dw_172 wX10_deep_c rfl
end
section
def wNX10_isNew : Nat := 19918136954360983673052968190982462702272941753005725667357540526264515544855594
theorem wX10_isNew_c : hz_cd cX10_isNew wNX10_isNew 33 := ⟨by decide +kernel, by decide +kernel⟩
theorem dX10_isNew_0 : decode cX10_isNew 0 = .ok (.aload_n 0, 1) := dw_42 wX10_isNew_c rfl
theorem dX10_isNew_1 : decode cX10_isNew 1 = .ok (.getfield 306, 3) := dw_180 wX10_isNew_c 1 50 rfl rfl
theorem dX10_isNew_4 : decode cX10_isNew 4 = .ok (.iload_n 1, 1) := dw_27 wX10_isNew_c rfl
theorem dX10_isNew_5 : decode cX10_isNew 5 = .ok (.ishr, 1) := dw_122 wX10_isNew_c rfl
theorem dX10_isNew_6 : decode cX10_isNew 6 = .ok (.iconst 1, 1) := dw_4 wX10_isNew_c rfl
theorem dX10_isNew_7 : decode cX10_isNew 7 = .ok (.iand, 1) := dw_126 wX10_isNew_c rfl
theorem dX10_isNew_8 : decode cX10_isNew 8 = .ok (.iconst 1, 1) := dw_4 wX10_isNew_c rfl
theorem dX10_isNew_9 : decode cX10_isNew 9 = .ok (.if_icmp .ne 10, 3) := dw_160 wX10_isNew_c 0 10 rfl rfl rfl
theorem dX10_isNew_12 : decode cX10_isNew 12 = .ok (.aload_n 0, 1) := dw_42 wX10_isNew_c rfl
theorem dX10_isNew_13 : decode cX10_isNew 13 = .ok (.iconst 2, 1) := dw_5 wX10_isNew_c rfl
theorem dX10_isNew_14 : decode cX10_isNew 14 = .ok (.iload_n 2, 1) := dw_28 wX10_isNew_c rfl
theorem dX10_isNew_15 : decode cX10_isNew 15 = .ok (.invokevirtual 255, 3) := dw_182 wX10_isNew_c 0 255 rfl rfl
theorem dX10_isNew_18 : decode cX10_isNew 18 = .ok (.ireturn, 1) := dw_172 wX10_isNew_c rfl
theorem dX10_isNew_19 : decode cX10_isNew 19 = .ok (.aload_n 0, 1) := dw_42 wX10_isNew_c rfl
theorem dX10_isNew_20 : decode cX10_isNew 20 = .ok (.dup, 1) := dw_89 wX10_isNew_c rfl
theorem dX10_isNew_21 : decode cX10_isNew 21 = .ok (.getfield 306, 3) := dw_180 wX10_isNew_c 1 50 rfl rfl
theorem dX10_isNew_24 : decode cX10_isNew 24 = .ok (.iconst 1, 1) := dw_4 wX10_isNew_c rfl
theorem dX10_isNew_25 : decode cX10_isNew 25 = .ok (.iload_n 1, 1) := dw_27 wX10_isNew_c rfl
theorem dX10_isNew_26 : decode cX10_isNew 26 = .ok (.ishl, 1) := dw_120 wX10_isNew_c rfl
theorem dX10_isNew_27 : decode cX10_isNew 27 = .ok (.ior, 1) := dw_128 wX10_isNew_c rfl
theorem dX10_isNew_28 : decode cX10_isNew 28 = .ok (.putfield 306, 3) := dw_181 wX10_isNew_c 1 50 rfl rfl
theorem dX10_isNew_31 : decode cX10_isNew 31 = .ok (.iconst 1, 1) := dw_4 wX10_isNew_c rfl
theorem dX10_isNew_32 : decode cX10_isNew 32 = .ok (.ireturn, 1) := dw_172 wX10_isNew_c rfl
def wNX10_inForce : Nat := 444437883989189444458385293749448008361826276192409150602845953366236591750152313684836943948530738930298625786476824378627
theorem wX10_inForce_c : hz_cd cX10_inForce wNX10_inForce 51 := ⟨by decide +kernel, by decide +kernel⟩
theorem dX10_inForce_0 : decode cX10_inForce 0 = .ok (.iconst 0, 1) := dw_3 wX10_inForce_c rfl
theorem dX10_inForce_1 : decode cX10_inForce 1 = .ok (.istore_n 2, 1) := dw_61 wX10_inForce_c rfl
theorem dX10_inForce_2 : decode cX10_inForce 2 = .ok (.iconst 1, 1) := dw_4 wX10_inForce_c rfl
theorem dX10_inForce_3 : decode cX10_inForce 3 = .ok (.istore_n 3, 1) := dw_62 wX10_inForce_c rfl
theorem dX10_inForce_4 : decode cX10_inForce 4 = .ok (.iload_n 3, 1) := dw_29 wX10_inForce_c rfl
theorem dX10_inForce_5 : decode cX10_inForce 5 = .ok (.aload_n 0, 1) := dw_42 wX10_inForce_c rfl
theorem dX10_inForce_6 : decode cX10_inForce 6 = .ok (.getfield 321, 3) := dw_180 wX10_inForce_c 1 65 rfl rfl
theorem dX10_inForce_9 : decode cX10_inForce 9 = .ok (.if_icmp .gt 40, 3) := dw_163 wX10_inForce_c 0 40 rfl rfl rfl
theorem dX10_inForce_12 : decode cX10_inForce 12 = .ok (.aload_n 0, 1) := dw_42 wX10_inForce_c rfl
theorem dX10_inForce_13 : decode cX10_inForce 13 = .ok (.getfield 7, 3) := dw_180 wX10_inForce_c 0 7 rfl rfl
theorem dX10_inForce_16 : decode cX10_inForce 16 = .ok (.iload_n 3, 1) := dw_29 wX10_inForce_c rfl
theorem dX10_inForce_17 : decode cX10_inForce 17 = .ok (.iaload, 1) := dw_46 wX10_inForce_c rfl
theorem dX10_inForce_18 : decode cX10_inForce 18 = .ok (.iload_n 1, 1) := dw_27 wX10_inForce_c rfl
theorem dX10_inForce_19 : decode cX10_inForce 19 = .ok (.if_icmp .gt 24, 3) := dw_163 wX10_inForce_c 0 24 rfl rfl rfl
theorem dX10_inForce_22 : decode cX10_inForce 22 = .ok (.iload_n 2, 1) := dw_28 wX10_inForce_c rfl
theorem dX10_inForce_23 : decode cX10_inForce 23 = .ok (.ifCond .eq 18, 3) := dw_153 wX10_inForce_c 0 18 rfl rfl rfl
theorem dX10_inForce_26 : decode cX10_inForce 26 = .ok (.aload_n 0, 1) := dw_42 wX10_inForce_c rfl
theorem dX10_inForce_27 : decode cX10_inForce 27 = .ok (.getfield 7, 3) := dw_180 wX10_inForce_c 0 7 rfl rfl
theorem dX10_inForce_30 : decode cX10_inForce 30 = .ok (.iload_n 3, 1) := dw_29 wX10_inForce_c rfl
theorem dX10_inForce_31 : decode cX10_inForce 31 = .ok (.iaload, 1) := dw_46 wX10_inForce_c rfl
theorem dX10_inForce_32 : decode cX10_inForce 32 = .ok (.aload_n 0, 1) := dw_42 wX10_inForce_c rfl
theorem dX10_inForce_33 : decode cX10_inForce 33 = .ok (.getfield 7, 3) := dw_180 wX10_inForce_c 0 7 rfl rfl
theorem dX10_inForce_36 : decode cX10_inForce 36 = .ok (.iload_n 2, 1) := dw_28 wX10_inForce_c rfl
theorem dX10_inForce_37 : decode cX10_inForce 37 = .ok (.iaload, 1) := dw_46 wX10_inForce_c rfl
theorem dX10_inForce_38 : decode cX10_inForce 38 = .ok (.if_icmp .lt 5, 3) := dw_161 wX10_inForce_c 0 5 rfl rfl rfl
theorem dX10_inForce_41 : decode cX10_inForce 41 = .ok (.iload_n 3, 1) := dw_29 wX10_inForce_c rfl
theorem dX10_inForce_42 : decode cX10_inForce 42 = .ok (.istore_n 2, 1) := dw_61 wX10_inForce_c rfl
theorem dX10_inForce_43 : decode cX10_inForce 43 = .ok (.iinc 3 1, 3) := dw_132 wX10_inForce_c 3 1 rfl rfl rfl
theorem dX10_inForce_46 : decode cX10_inForce 46 = .ok (.goto (-42), 3) := dn_167 wX10_inForce_c 255 214 rfl (by decide)
theorem dX10_inForce_49 : decode cX10_inForce 49 = .ok (.iload_n 2, 1) := dw_28 wX10_inForce_c rfl
theorem dX10_inForce_50 : decode cX10_inForce 50 = .ok (.ireturn, 1) := dw_172 wX10_inForce_c rfl
set_option maxHeartbeats 4000000 in
set_option maxRecDepth 100000 in
theorem t_X10_inForce (l : Launch) (dC : Nat → ClassId) (dI : Nat → Nat → Nat) (dA : Nat → ClassId) (L : List Nat) (h : hx_h) (sz : Nat) (x : Nat) (i1 : Int32) (hT : hx_T T_tb L h) (gx : hx_g L h x 10) (a0 : Int32) (f_x_1 : h.2.1 x 1 = a0) : Met l yX10_inForce (Cond.code yX10_inForce cX10_inForce 4 (some .int) :: hx_all) ({ frames := 0, cells := 0, slots := 0, locals := 0 }) (va_Pc [.ref x, .int i1] (hx_B T_tb (P_ty dA) (dC, dI) vwCl L h sz)) (va_Qi (fun (r : Int32) (u : List Nat × hx_h) => (0 ≤ r.toInt ∧ r.toInt ≤ a0.toInt) ∧ hx_T T_tb u.1 u.2 ∧ hx_S T_tb [] L h u.1 u.2) (hx_E T_tb (P_ty dA) (dC, dI) vwCl (hx_A L sz)) (hx_A L sz)) 0 0 (hx_A L sz) := by
  refine hx_met (lv := [(0, .ref x), (1, .int i1)]) (by decide +kernel) rfl (Nat.le_of_ble_eq_true rfl) rfl ?_
  intro p e s m below meth c hx hb hml hr hlk hts0 hown hin hsz hW ls hl
  have hts : ∀ w ∈ hx_all, w.before _ s = true := fun w hw => hts0 w (List.mem_cons_of_mem _ hw)
  have hown : s.vm.findClass "SmallCourtModel" = some m.cls := hown
  have hM : hx_S T_tb [] L h L h := hx_S.rf
  have b_a0 := hT.gi gx tt_10 (k := 1) rfl
  rw [f_x_1] at b_a0
  have b_a0 : 0 ≤ a0.toInt ∧ a0.toInt ≤ 8 := b_a0
  refine lv_iconst (v := 0) hx hb dX10_inForce_0 ?o0 ?_
  case o0 => decide
  refine lv_istore_n (lv' := [(2, .int (0 : Int32)), (0, .ref x), (1, .int i1)]) hx hb dX10_inForce_1 rfl hl ?o1 rfl (fun ls hl => ?_)
  case o1 => decide
  refine lv_iconst (v := 1) hx hb dX10_inForce_2 ?o2 ?_
  case o2 => decide
  refine lv_istore_n (lv' := [(3, .int (1 : Int32)), (2, .int (0 : Int32)), (0, .ref x), (1, .int i1)]) hx hb dX10_inForce_3 rfl hl ?o3 rfl (fun ls hl => ?_)
  case o3 => decide
  have loop4 : ∀ (n4 : Nat) (iv4_2 iv4_3 : Int32) (H : Heap) (locs : List Loc) (hL1 : List Nat) (hl1 : hx_h), 0 ≤ iv4_2.toInt → iv4_2.toInt ≤ 8 → 1 ≤ iv4_3.toInt → iv4_3.toInt ≤ 9 → (iv4_2.toInt ≤ a0.toInt) → ∀ (ls : Array Slot), 9 - iv4_3.toInt < (n4 : Int) → hx_W T_tb (P_ty dA) (dC, dI) vwCl (hx_A L sz) s.heap hL1 hl1 s H locs → hx_T T_tb hL1 hl1 → hx_S T_tb [] L h hL1 hl1 → lv_has ls 4 [(3, .int iv4_3), (2, .int iv4_2), (0, .ref x), (1, .int i1)] → W p l e ({ frames := 0, cells := 0, slots := 0, locals := 0 }) s m ([.ref x, .int i1] : List Value).toArray below meth c H locs 0 0 (MQ below (va_Qi (fun (r : Int32) (u : List Nat × hx_h) => (0 ≤ r.toInt ∧ r.toInt ≤ a0.toInt) ∧ hx_T T_tb u.1 u.2 ∧ hx_S T_tb [] L h u.1 u.2) (hx_E T_tb (P_ty dA) (dC, dI) vwCl (hx_A L sz)) (hx_A L sz)) ([.ref x, .int i1] : List Value).toArray s 0 0 (hx_A L sz)) (F0 m 4 ls []) := by
    intro n4
    induction n4 with
    | zero => intro iv4_2 iv4_3 H locs hL1 hl1 bliv4_2 buiv4_2 bliv4_3 buiv4_3 vi4_0 ls hn4; exfalso; omega
    | succ n4 ih4 =>
      intro iv4_2 iv4_3 H locs hL1 hl1 bliv4_2 buiv4_2 bliv4_3 buiv4_3 vi4_0 ls hn4 hW hT hM   hl
      refine lv_iload_n hx hb dX10_inForce_4 rfl (lv_at hl 0 rfl) ?_
      refine lv_aload_n hx hb dX10_inForce_5 rfl (lv_at hl 2 rfl) ?_
      refine hk_geti hx hb hts hC_10 hown hW (gx.S hM) tt_10 1 ?o4 rfl kw_1144 ⟨rfl, rfl, rfl⟩ ((hM.o gx trivial rfl).1.trans f_x_1) dX10_inForce_6 ?_
      case o4 => decide
      refine hb_icmp_gt (zx := iv4_3.toInt) (zy := a0.toInt) (tgt := 49) hx hb rfl rfl dX10_inForce_9 ?o5 (fun c_1 => ?_) (fun c_1 => ?_)
      case o5 => decide
      · skip
        refine lv_iload_n hx hb dX10_inForce_49 rfl (lv_at hl 1 rfl) ?_
        exact hx_reti hx hb hr hlk hW ⟨(by first | omega | (refine ⟨?_, ?_⟩ <;> omega)), hT, hM⟩ dX10_inForce_50
      · skip
        refine lv_aload_n hx hb dX10_inForce_12 rfl (lv_at hl 2 rfl) ?_
        refine hx_getn hx hb hts hC_10 hown hW hT (gx.S hM) tt_10 2 ?o6 rfl kw_1145 ⟨rfl, rfl, rfl⟩ dX10_inForce_13 (fun q_2 fq_2 gq_2 => ?_)
        case o6 => decide
        refine lv_iload_n hx hb dX10_inForce_16 rfl (lv_at hl 0 rfl) ?_
        refine hx_iald hx hb hW hT gq_2 tt_49 rfl ⟨?o7, ?o8⟩ dX10_inForce_17 (fun x_3 ex_3 lx_3 ux_3 => ?_)
        case o7 => omega
        case o8 => omega
        refine lv_iload_n hx hb dX10_inForce_18 rfl (lv_at hl 3 rfl) ?_
        refine hb_icmp_gt (zx := x_3.toInt) (zy := i1.toInt) (tgt := 43) hx hb rfl rfl dX10_inForce_19 ?o9 (fun c_4 => ?_) (fun c_4 => ?_)
        case o9 => decide
        · skip
          obtain ⟨x_5, ex_5⟩ : ∃ y : Int32, y = iv4_3 + Int32.ofInt 1 := ⟨_, rfl⟩
          have rg_6 := i32_r iv4_3
          have zx_5 : x_5.toInt = iv4_3.toInt + (1) := ?o10
          case o10 =>
            rw [ex_5]
            refine i32_add rfl ?o11 ?o12 ?o13
            case o11 => decide
            case o12 => omega
            case o13 => omega
          refine lv_iinc (v := x_5) (lv' := [(3, .int x_5), (2, .int iv4_2), (0, .ref x), (1, .int i1)]) hx hb dX10_inForce_43 hl (k := 0) rfl ex_5.symm ?o14 rfl (fun ls hl => ?_)
          case o14 => decide
          refine lv_goto (tgt := 4) hx hb dX10_inForce_46 ?o15 ?_
          case o15 => decide
          refine ih4 iv4_2 x_5 _ _ hL1 hl1 ?o16 ?o17 ?o18 ?o19 ?o20 ls ?o21 hW hT hM   (lv_sub hl [0, 1, 2, 3] rfl)
          case o16 => omega
          case o17 => omega
          case o18 => omega
          case o19 => omega
          case o20 => omega
          case o21 => omega
        · skip
          refine lv_iload_n hx hb dX10_inForce_22 rfl (lv_at hl 1 rfl) ?_
          refine hb_if_eq (zx := iv4_2.toInt) (tgt := 41) hx hb rfl dX10_inForce_23 ?o22 (fun c_7 => ?_) (fun c_7 => ?_)
          case o22 => decide
          · skip
            refine lv_iload_n hx hb dX10_inForce_41 rfl (lv_at hl 0 rfl) ?_
            refine lv_istore_n (lv' := [(2, .int iv4_3), (3, .int iv4_3), (0, .ref x), (1, .int i1)]) hx hb dX10_inForce_42 rfl hl ?o23 rfl (fun ls hl => ?_)
            case o23 => decide
            obtain ⟨x_8, ex_8⟩ : ∃ y : Int32, y = iv4_3 + Int32.ofInt 1 := ⟨_, rfl⟩
            have rg_9 := i32_r iv4_3
            have zx_8 : x_8.toInt = iv4_3.toInt + (1) := ?o24
            case o24 =>
              rw [ex_8]
              refine i32_add rfl ?o25 ?o26 ?o27
              case o25 => decide
              case o26 => omega
              case o27 => omega
            refine lv_iinc (v := x_8) (lv' := [(3, .int x_8), (2, .int iv4_3), (0, .ref x), (1, .int i1)]) hx hb dX10_inForce_43 hl (k := 1) rfl ex_8.symm ?o28 rfl (fun ls hl => ?_)
            case o28 => decide
            refine lv_goto (tgt := 4) hx hb dX10_inForce_46 ?o29 ?_
            case o29 => decide
            refine ih4 iv4_3 x_8 _ _ hL1 hl1 ?o30 ?o31 ?o32 ?o33 ?o34 ls ?o35 hW hT hM   (lv_sub hl [0, 1, 2, 3] rfl)
            case o30 => omega
            case o31 => omega
            case o32 => omega
            case o33 => omega
            case o34 => omega
            case o35 => omega
          · skip
            refine lv_aload_n hx hb dX10_inForce_26 rfl (lv_at hl 2 rfl) ?_
            refine hk_getr hx hb hts hC_10 hown hW (gx.S hM) tt_10 2 ?o36 rfl kw_1145 ⟨rfl, rfl, rfl⟩ fq_2 dX10_inForce_27 ?_
            case o36 => decide
            refine lv_iload_n hx hb dX10_inForce_30 rfl (lv_at hl 0 rfl) ?_
            refine hx_iald hx hb hW hT gq_2 tt_49 rfl ⟨?o37, ?o38⟩ dX10_inForce_31 (fun x_10 ex_10 lx_10 ux_10 => ?_)
            case o37 => omega
            case o38 => omega
            obtain rfl : x_3 = x_10 := ex_3.trans ex_10.symm
            refine lv_aload_n hx hb dX10_inForce_32 rfl (lv_at hl 2 rfl) ?_
            refine hk_getr hx hb hts hC_10 hown hW (gx.S hM) tt_10 2 ?o39 rfl kw_1145 ⟨rfl, rfl, rfl⟩ fq_2 dX10_inForce_33 ?_
            case o39 => decide
            refine lv_iload_n hx hb dX10_inForce_36 rfl (lv_at hl 1 rfl) ?_
            refine hx_iald hx hb hW hT gq_2 tt_49 rfl ⟨?o40, ?o41⟩ dX10_inForce_37 (fun x_11 ex_11 lx_11 ux_11 => ?_)
            case o40 => omega
            case o41 => omega
            refine hb_icmp_lt (zx := x_3.toInt) (zy := x_11.toInt) (tgt := 43) hx hb rfl rfl dX10_inForce_38 ?o42 (fun c_12 => ?_) (fun c_12 => ?_)
            case o42 => decide
            · skip
              obtain ⟨x_13, ex_13⟩ : ∃ y : Int32, y = iv4_3 + Int32.ofInt 1 := ⟨_, rfl⟩
              have rg_14 := i32_r iv4_3
              have zx_13 : x_13.toInt = iv4_3.toInt + (1) := ?o43
              case o43 =>
                rw [ex_13]
                refine i32_add rfl ?o44 ?o45 ?o46
                case o44 => decide
                case o45 => omega
                case o46 => omega
              refine lv_iinc (v := x_13) (lv' := [(3, .int x_13), (2, .int iv4_2), (0, .ref x), (1, .int i1)]) hx hb dX10_inForce_43 hl (k := 0) rfl ex_13.symm ?o47 rfl (fun ls hl => ?_)
              case o47 => decide
              refine lv_goto (tgt := 4) hx hb dX10_inForce_46 ?o48 ?_
              case o48 => decide
              refine ih4 iv4_2 x_13 _ _ hL1 hl1 ?o49 ?o50 ?o51 ?o52 ?o53 ls ?o54 hW hT hM   (lv_sub hl [0, 1, 2, 3] rfl)
              case o49 => omega
              case o50 => omega
              case o51 => omega
              case o52 => omega
              case o53 => omega
              case o54 => omega
            · skip
              refine lv_iload_n hx hb dX10_inForce_41 rfl (lv_at hl 0 rfl) ?_
              refine lv_istore_n (lv' := [(2, .int iv4_3), (3, .int iv4_3), (0, .ref x), (1, .int i1)]) hx hb dX10_inForce_42 rfl hl ?o55 rfl (fun ls hl => ?_)
              case o55 => decide
              obtain ⟨x_15, ex_15⟩ : ∃ y : Int32, y = iv4_3 + Int32.ofInt 1 := ⟨_, rfl⟩
              have rg_16 := i32_r iv4_3
              have zx_15 : x_15.toInt = iv4_3.toInt + (1) := ?o56
              case o56 =>
                rw [ex_15]
                refine i32_add rfl ?o57 ?o58 ?o59
                case o57 => decide
                case o58 => omega
                case o59 => omega
              refine lv_iinc (v := x_15) (lv' := [(3, .int x_15), (2, .int iv4_3), (0, .ref x), (1, .int i1)]) hx hb dX10_inForce_43 hl (k := 1) rfl ex_15.symm ?o60 rfl (fun ls hl => ?_)
              case o60 => decide
              refine lv_goto (tgt := 4) hx hb dX10_inForce_46 ?o61 ?_
              case o61 => decide
              refine ih4 iv4_3 x_15 _ _ hL1 hl1 ?o62 ?o63 ?o64 ?o65 ?o66 ls ?o67 hW hT hM   (lv_sub hl [0, 1, 2, 3] rfl)
              case o62 => omega
              case o63 => omega
              case o64 => omega
              case o65 => omega
              case o66 => omega
              case o67 => omega
  have zk_0 : (0 : Int32).toInt = 0 := ?o68
  case o68 => decide
  have zk_1 : (1 : Int32).toInt = 1 := ?o69
  case o69 => decide
  refine loop4 9 (0 : Int32) (1 : Int32) _ _ L h ?o70 ?o71 ?o72 ?o73 ?o74 ls ?o75 hW hT hM   hl
  case o70 => decide
  case o71 => decide
  case o72 => decide
  case o73 => decide
  case o74 => omega
  case o75 => omega

theorem dX10_ruleOf_0 : decode cX10_ruleOf 0 = .ok (.aload_n 0, 1) := by decide +kernel
theorem dX10_ruleOf_1 : decode cX10_ruleOf 1 = .ok (.getfield 13, 3) := by decide +kernel
theorem dX10_ruleOf_4 : decode cX10_ruleOf 4 = .ok (.bipush 13, 2) := by decide +kernel
theorem dX10_ruleOf_6 : decode cX10_ruleOf 6 = .ok (.iload_n 1, 1) := by decide +kernel
theorem dX10_ruleOf_7 : decode cX10_ruleOf 7 = .ok (.imul, 1) := by decide +kernel
theorem dX10_ruleOf_8 : decode cX10_ruleOf 8 = .ok (.iload_n 2, 1) := by decide +kernel
theorem dX10_ruleOf_9 : decode cX10_ruleOf 9 = .ok (.iadd, 1) := by decide +kernel
theorem dX10_ruleOf_10 : decode cX10_ruleOf 10 = .ok (.iaload, 1) := by decide +kernel
theorem dX10_ruleOf_11 : decode cX10_ruleOf 11 = .ok (.ireturn, 1) := by decide +kernel
set_option maxHeartbeats 4000000 in
set_option maxRecDepth 100000 in
theorem t_X10_ruleOf (l : Launch) (dC : Nat → ClassId) (dI : Nat → Nat → Nat) (dA : Nat → ClassId) (L : List Nat) (h : hx_h) (sz : Nat) (x : Nat) (i1 : Int32) (i2 : Int32) (hT : hx_T T_tb L h) (gx : hx_g L h x 10) (hi1 : 0 ≤ i1.toInt ∧ i1.toInt ≤ 8) (hi2 : 0 ≤ i2.toInt ∧ i2.toInt ≤ 12) : Met l yX10_ruleOf (Cond.code yX10_ruleOf cX10_ruleOf 3 (some .int) :: hx_all) ({ frames := 0, cells := 0, slots := 0, locals := 0 }) (va_Pc [.ref x, .int i1, .int i2] (hx_B T_tb (P_ty dA) (dC, dI) vwCl L h sz)) (va_Qi (fun (r : Int32) (u : List Nat × hx_h) => (0 ≤ r.toInt ∧ r.toInt ≤ 9999) ∧ hx_T T_tb u.1 u.2 ∧ hx_S T_tb [] L h u.1 u.2) (hx_E T_tb (P_ty dA) (dC, dI) vwCl (hx_A L sz)) (hx_A L sz)) 0 0 (hx_A L sz) := by
  refine hx_met (lv := [(0, .ref x), (1, .int i1), (2, .int i2)]) (by decide +kernel) rfl (Nat.le_of_ble_eq_true rfl) rfl ?_
  intro p e s m below meth c hx hb hml hr hlk hts0 hown hin hsz hW ls hl
  have hts : ∀ w ∈ hx_all, w.before _ s = true := fun w hw => hts0 w (List.mem_cons_of_mem _ hw)
  have hown : s.vm.findClass "SmallCourtModel" = some m.cls := hown
  have hM : hx_S T_tb [] L h L h := hx_S.rf
  refine lv_aload_n hx hb dX10_ruleOf_0 rfl (lv_at hl 0 rfl) ?_
  refine hx_getn hx hb hts hC_10 hown hW hT (gx.S hM) tt_10 3 ?o0 rfl kw_1146 ⟨rfl, rfl, rfl⟩ dX10_ruleOf_1 (fun q_1 fq_1 gq_1 => ?_)
  case o0 => decide
  refine lv_bipush (v := 13) hx hb dX10_ruleOf_4 ?o1 ?_
  case o1 => decide
  refine lv_iload_n hx hb dX10_ruleOf_6 rfl (lv_at hl 1 rfl) ?_
  refine lv_imul hx hb dX10_ruleOf_7 ?_
  refine lv_topi (fun x_2 ex_2 => ?_)
  have zx_2 : x_2.toInt = 13 * i1.toInt := ?o2
  case o2 =>
    rw [ex_2]
    refine i32_mul ?o3 rfl rfl ?o4 ?o5
    case o3 => decide
    case o4 => omega
    case o5 => omega
  refine lv_iload_n hx hb dX10_ruleOf_8 rfl (lv_at hl 2 rfl) ?_
  refine lv_iadd hx hb dX10_ruleOf_9 ?_
  have rg_3 := i32_r x_2
  have rg_4 := i32_r i2
  refine lv_topi (fun x_5 ex_5 => ?_)
  have zx_5 : x_5.toInt = x_2.toInt + i2.toInt := ?o6
  case o6 =>
    rw [ex_5]
    refine i32_add rfl rfl ?o7 ?o8
    case o7 => omega
    case o8 => omega
  refine hx_iald hx hb hW hT gq_1 tt_50 rfl ⟨?o9, ?o10⟩ dX10_ruleOf_10 (fun x_6 ex_6 lx_6 ux_6 => ?_)
  case o9 => omega
  case o10 => omega
  exact hx_reti hx hb hr hlk hW ⟨(by first | omega | (refine ⟨?_, ?_⟩ <;> omega)), hT, hM⟩ dX10_ruleOf_11

def wNX10_force : Nat := 6174557238441873489102103872308602621072005264036177522641565003666873077842528534119733300891130815166491
theorem wX10_force_c : hz_cd cX10_force wNX10_force 44 := ⟨by decide +kernel, by decide +kernel⟩
theorem dX10_force_0 : decode cX10_force 0 = .ok (.iload_n 1, 1) := dw_27 wX10_force_c rfl
theorem dX10_force_1 : decode cX10_force 1 = .ok (.invokestatic 324, 3) := dw_184 wX10_force_c 1 68 rfl rfl
theorem dX10_force_4 : decode cX10_force 4 = .ok (.ifCond .eq 13, 3) := dw_153 wX10_force_c 0 13 rfl rfl rfl
theorem dX10_force_7 : decode cX10_force 7 = .ok (.iload_n 2, 1) := dw_28 wX10_force_c rfl
theorem dX10_force_8 : decode cX10_force 8 = .ok (.iconst 0, 1) := dw_3 wX10_force_c rfl
theorem dX10_force_9 : decode cX10_force 9 = .ok (.bipush 13, 2) := dw_16 wX10_force_c 13 rfl rfl rfl
theorem dX10_force_11 : decode cX10_force 11 = .ok (.invokestatic 228, 3) := dw_184 wX10_force_c 0 228 rfl rfl
theorem dX10_force_14 : decode cX10_force 14 = .ok (.ifCond .ne 5, 3) := dw_154 wX10_force_c 0 5 rfl rfl rfl
theorem dX10_force_17 : decode cX10_force 17 = .ok (.iconst (-1), 1) := dw_2 wX10_force_c rfl
theorem dX10_force_18 : decode cX10_force 18 = .ok (.ireturn, 1) := dw_172 wX10_force_c rfl
theorem dX10_force_19 : decode cX10_force 19 = .ok (.aload_n 0, 1) := dw_42 wX10_force_c rfl
theorem dX10_force_20 : decode cX10_force 20 = .ok (.iload_n 1, 1) := dw_27 wX10_force_c rfl
theorem dX10_force_21 : decode cX10_force 21 = .ok (.invokevirtual 330, 3) := dw_182 wX10_force_c 1 74 rfl rfl
theorem dX10_force_24 : decode cX10_force 24 = .ok (.istore_n 3, 1) := dw_62 wX10_force_c rfl
theorem dX10_force_25 : decode cX10_force 25 = .ok (.iload_n 2, 1) := dw_28 wX10_force_c rfl
theorem dX10_force_26 : decode cX10_force 26 = .ok (.ifCond .ne 9, 3) := dw_154 wX10_force_c 0 9 rfl rfl rfl
theorem dX10_force_29 : decode cX10_force 29 = .ok (.iload_n 3, 1) := dw_29 wX10_force_c rfl
theorem dX10_force_30 : decode cX10_force 30 = .ok (.iconst 1, 1) := dw_4 wX10_force_c rfl
theorem dX10_force_31 : decode cX10_force 31 = .ok (.isub, 1) := dw_100 wX10_force_c rfl
theorem dX10_force_32 : decode cX10_force 32 = .ok (.goto 11, 3) := dw_167 wX10_force_c 0 11 rfl rfl rfl
theorem dX10_force_35 : decode cX10_force 35 = .ok (.aload_n 0, 1) := dw_42 wX10_force_c rfl
theorem dX10_force_36 : decode cX10_force 36 = .ok (.iload_n 3, 1) := dw_29 wX10_force_c rfl
theorem dX10_force_37 : decode cX10_force 37 = .ok (.iload_n 2, 1) := dw_28 wX10_force_c rfl
theorem dX10_force_38 : decode cX10_force 38 = .ok (.iconst 1, 1) := dw_4 wX10_force_c rfl
theorem dX10_force_39 : decode cX10_force 39 = .ok (.isub, 1) := dw_100 wX10_force_c rfl
theorem dX10_force_40 : decode cX10_force 40 = .ok (.invokevirtual 333, 3) := dw_182 wX10_force_c 1 77 rfl rfl
theorem dX10_force_43 : decode cX10_force 43 = .ok (.ireturn, 1) := dw_172 wX10_force_c rfl
end
section
theorem dX10_isPerson_0 : decode cX10_isPerson 0 = .ok (.iload_n 1, 1) := by decide +kernel
theorem dX10_isPerson_1 : decode cX10_isPerson 1 = .ok (.iconst 0, 1) := by decide +kernel
theorem dX10_isPerson_2 : decode cX10_isPerson 2 = .ok (.aload_n 0, 1) := by decide +kernel
theorem dX10_isPerson_3 : decode cX10_isPerson 3 = .ok (.getfield 337, 3) := by decide +kernel
theorem dX10_isPerson_6 : decode cX10_isPerson 6 = .ok (.iconst 1, 1) := by decide +kernel
theorem dX10_isPerson_7 : decode cX10_isPerson 7 = .ok (.isub, 1) := by decide +kernel
theorem dX10_isPerson_8 : decode cX10_isPerson 8 = .ok (.invokestatic 228, 3) := by decide +kernel
theorem dX10_isPerson_11 : decode cX10_isPerson 11 = .ok (.ireturn, 1) := by decide +kernel
set_option maxHeartbeats 4000000 in
set_option maxRecDepth 100000 in
theorem t_X10_isPerson (l : Launch) (dC : Nat → ClassId) (dI : Nat → Nat → Nat) (dA : Nat → ClassId) (L : List Nat) (h : hx_h) (sz : Nat) (x : Nat) (i1 : Int32) (hT : hx_T T_tb L h) (gx : hx_g L h x 10) (p0 : Int32) (f_x_20 : h.2.1 x 20 = p0) : Met l yX10_isPerson (Cond.code yX10_isPerson cX10_isPerson 2 (some .boolean) :: hx_all) ({ frames := 1, cells := 0, slots := 0, locals := 22 }) (va_Pc [.ref x, .int i1] (hx_B T_tb (P_ty dA) (dC, dI) vwCl L h sz)) (va_Qi (fun (r : Int32) (u : List Nat × hx_h) => ((r.toInt = 0 ∧ (i1.toInt < 0 ∨ p0.toInt ≤ i1.toInt)) ∨ (r.toInt = 1 ∧ 0 ≤ i1.toInt ∧ i1.toInt < p0.toInt)) ∧ hx_T T_tb u.1 u.2 ∧ hx_S T_tb [] L h u.1 u.2) (hx_E T_tb (P_ty dA) (dC, dI) vwCl (hx_A L sz)) (hx_A L sz)) 0 0 (hx_A L sz) := by
  refine hx_met (lv := [(0, .ref x), (1, .int i1)]) (by decide +kernel) rfl (Nat.le_of_ble_eq_true rfl) rfl ?_
  intro p e s m below meth c hx hb hml hr hlk hts0 hown hin hsz hW ls hl
  have hts : ∀ w ∈ hx_all, w.before _ s = true := fun w hw => hts0 w (List.mem_cons_of_mem _ hw)
  have hown : s.vm.findClass "SmallCourtModel" = some m.cls := hown
  have hM : hx_S T_tb [] L h L h := hx_S.rf
  have b_p0 := hT.gi gx tt_10 (k := 20) rfl
  rw [f_x_20] at b_p0
  have b_p0 : 0 ≤ p0.toInt ∧ p0.toInt ≤ 40 := b_p0
  refine lv_iload_n hx hb dX10_isPerson_0 rfl (lv_at hl 1 rfl) ?_
  refine lv_iconst (v := 0) hx hb dX10_isPerson_1 ?o0 ?_
  case o0 => decide
  refine lv_aload_n hx hb dX10_isPerson_2 rfl (lv_at hl 0 rfl) ?_
  refine hk_geti hx hb hts hC_10 hown hW (gx.S hM) tt_10 20 ?o1 rfl kw_1163 ⟨rfl, rfl, rfl⟩ ((hM.o gx trivial rfl).1.trans f_x_20) dX10_isPerson_3 ?_
  case o1 => decide
  refine lv_iconst (v := 1) hx hb dX10_isPerson_6 ?o2 ?_
  case o2 => decide
  refine lv_isub hx hb dX10_isPerson_7 ?_
  have rg_1 := i32_r p0
  refine lv_topi (fun x_2 ex_2 => ?_)
  have zx_2 : x_2.toInt = p0.toInt - 1 := ?o3
  case o3 =>
    rw [ex_2]
    refine i32_sub rfl ?o4 ?o5 ?o6
    case o4 => decide
    case o5 => omega
    case o6 => omega
  have zc_0 : (0 : Int32).toInt = 0 := ?o7
  case o7 => decide
  refine hx_goi (hx_runS (As := [.int i1, .int (0 : Int32), .int x_2]) (rest := []) ⟨hx, hb, hml, hown, hts⟩ hW (t_X10_in l dC dI dA L h s.heap.size i1 (0 : Int32) x_2 hT) (va_cwS 3 hts (hx_gS kw_1445 kw_1443 kw_1444 kw_103) rfl rfl rfl (by decide +kernel) ⟨Nat.le_of_ble_eq_true rfl, Nat.le_of_ble_eq_true rfl⟩) rfl hl.1 rfl (Nat.le_of_ble_eq_true rfl) dX10_isPerson_8 ⟨Nat.le_of_ble_eq_true rfl, Nat.le_of_ble_eq_true rfl⟩) hW (fun r_5 L_3 h_4 H locs p_6 hW => ?_)
  obtain ⟨hr_7, hT, hs⟩ := p_6
  replace hT : hx_T T_tb L_3 h_4 := hT
  replace hs : hx_S T_tb [] L h L_3 h_4 := hs
  replace hM := hM.tr (hs.mono ?o8)
  case o8 => decide
  exact hx_retz hx hb hr (hx_nar01 (by omega)) hlk hW ⟨(by first | omega | (refine ⟨?_, ?_⟩ <;> omega)), hT, hM⟩ dX10_isPerson_11

def wNX10_areLives : Nat := 103418109351803139985388021949673439570726376773938478243500233179367988011603618597106822359945447882285334463258
theorem wX10_areLives_c : hz_cd cX10_areLives wNX10_areLives 47 := ⟨by decide +kernel, by decide +kernel⟩
theorem dX10_areLives_0 : decode cX10_areLives 0 = .ok (.iload_n 0, 1) := dw_26 wX10_areLives_c rfl
theorem dX10_areLives_1 : decode cX10_areLives 1 = .ok (.iconst 0, 1) := dw_3 wX10_areLives_c rfl
theorem dX10_areLives_2 : decode cX10_areLives 2 = .ok (.sipush 9999, 3) := dw_17 wX10_areLives_c 39 15 rfl rfl rfl
theorem dX10_areLives_5 : decode cX10_areLives 5 = .ok (.invokestatic 228, 3) := dw_184 wX10_areLives_c 0 228 rfl rfl
theorem dX10_areLives_8 : decode cX10_areLives 8 = .ok (.ifCond .eq 37, 3) := dw_153 wX10_areLives_c 0 37 rfl rfl rfl
theorem dX10_areLives_11 : decode cX10_areLives 11 = .ok (.iload_n 1, 1) := dw_27 wX10_areLives_c rfl
theorem dX10_areLives_12 : decode cX10_areLives 12 = .ok (.iconst 1, 1) := dw_4 wX10_areLives_c rfl
theorem dX10_areLives_13 : decode cX10_areLives 13 = .ok (.bipush 20, 2) := dw_16 wX10_areLives_c 20 rfl rfl rfl
theorem dX10_areLives_15 : decode cX10_areLives 15 = .ok (.invokestatic 228, 3) := dw_184 wX10_areLives_c 0 228 rfl rfl
theorem dX10_areLives_18 : decode cX10_areLives 18 = .ok (.ifCond .eq 27, 3) := dw_153 wX10_areLives_c 0 27 rfl rfl rfl
theorem dX10_areLives_21 : decode cX10_areLives 21 = .ok (.iload_n 2, 1) := dw_28 wX10_areLives_c rfl
theorem dX10_areLives_22 : decode cX10_areLives 22 = .ok (.iconst 0, 1) := dw_3 wX10_areLives_c rfl
theorem dX10_areLives_23 : decode cX10_areLives 23 = .ok (.bipush 99, 2) := dw_16 wX10_areLives_c 99 rfl rfl rfl
theorem dX10_areLives_25 : decode cX10_areLives 25 = .ok (.invokestatic 228, 3) := dw_184 wX10_areLives_c 0 228 rfl rfl
theorem dX10_areLives_28 : decode cX10_areLives 28 = .ok (.ifCond .eq 17, 3) := dw_153 wX10_areLives_c 0 17 rfl rfl rfl
theorem dX10_areLives_31 : decode cX10_areLives 31 = .ok (.iload_n 3, 1) := dw_29 wX10_areLives_c rfl
theorem dX10_areLives_32 : decode cX10_areLives 32 = .ok (.iconst 0, 1) := dw_3 wX10_areLives_c rfl
theorem dX10_areLives_33 : decode cX10_areLives 33 = .ok (.bipush 99, 2) := dw_16 wX10_areLives_c 99 rfl rfl rfl
theorem dX10_areLives_35 : decode cX10_areLives 35 = .ok (.invokestatic 228, 3) := dw_184 wX10_areLives_c 0 228 rfl rfl
theorem dX10_areLives_38 : decode cX10_areLives 38 = .ok (.ifCond .eq 7, 3) := dw_153 wX10_areLives_c 0 7 rfl rfl rfl
theorem dX10_areLives_41 : decode cX10_areLives 41 = .ok (.iconst 1, 1) := dw_4 wX10_areLives_c rfl
theorem dX10_areLives_42 : decode cX10_areLives 42 = .ok (.goto 4, 3) := dw_167 wX10_areLives_c 0 4 rfl rfl rfl
theorem dX10_areLives_45 : decode cX10_areLives 45 = .ok (.iconst 0, 1) := dw_3 wX10_areLives_c rfl
theorem dX10_areLives_46 : decode cX10_areLives 46 = .ok (.ireturn, 1) := dw_172 wX10_areLives_c rfl
theorem dX10_lives_0 : decode cX10_lives 0 = .ok (.aload_n 0, 1) := by decide +kernel
theorem dX10_lives_1 : decode cX10_lives 1 = .ok (.getfield 41, 3) := by decide +kernel
theorem dX10_lives_4 : decode cX10_lives 4 = .ok (.iload_n 1, 1) := by decide +kernel
theorem dX10_lives_5 : decode cX10_lives 5 = .ok (.iload_n 2, 1) := by decide +kernel
theorem dX10_lives_6 : decode cX10_lives 6 = .ok (.iastore, 1) := by decide +kernel
theorem dX10_lives_7 : decode cX10_lives 7 = .ok (.aload_n 0, 1) := by decide +kernel
theorem dX10_lives_8 : decode cX10_lives 8 = .ok (.getfield 44, 3) := by decide +kernel
theorem dX10_lives_11 : decode cX10_lives 11 = .ok (.iload_n 1, 1) := by decide +kernel
theorem dX10_lives_12 : decode cX10_lives 12 = .ok (.iload_n 3, 1) := by decide +kernel
theorem dX10_lives_13 : decode cX10_lives 13 = .ok (.iastore, 1) := by decide +kernel
theorem dX10_lives_14 : decode cX10_lives 14 = .ok (.aload_n 0, 1) := by decide +kernel
theorem dX10_lives_15 : decode cX10_lives 15 = .ok (.getfield 47, 3) := by decide +kernel
theorem dX10_lives_18 : decode cX10_lives 18 = .ok (.iload_n 1, 1) := by decide +kernel
theorem dX10_lives_19 : decode cX10_lives 19 = .ok (.iload 4, 2) := by decide +kernel
theorem dX10_lives_21 : decode cX10_lives 21 = .ok (.iastore, 1) := by decide +kernel
theorem dX10_lives_22 : decode cX10_lives 22 = .ok (.aload_n 0, 1) := by decide +kernel
theorem dX10_lives_23 : decode cX10_lives 23 = .ok (.getfield 50, 3) := by decide +kernel
theorem dX10_lives_26 : decode cX10_lives 26 = .ok (.iload_n 1, 1) := by decide +kernel
theorem dX10_lives_27 : decode cX10_lives 27 = .ok (.iload 5, 2) := by decide +kernel
theorem dX10_lives_29 : decode cX10_lives 29 = .ok (.iastore, 1) := by decide +kernel
theorem dX10_lives_30 : decode cX10_lives 30 = .ok (.return_, 1) := by decide +kernel
def wNX10_person : Nat := 1149503614772141713722875741673758979167775741058603354391312982969752539978492568504757700889228334824030942078945370959037706038466158335471830399522625777614679705815194908084147769876626597510366412947502005386420332565711770948992520795178
theorem wX10_person_c : hz_cd cX10_person wNX10_person 101 := ⟨by decide +kernel, by decide +kernel⟩
theorem dX10_person_0 : decode cX10_person 0 = .ok (.aload_n 0, 1) := dw_42 wX10_person_c rfl
theorem dX10_person_1 : decode cX10_person 1 = .ok (.getfield 337, 3) := dw_180 wX10_person_c 1 81 rfl rfl
theorem dX10_person_4 : decode cX10_person 4 = .ok (.bipush 40, 2) := dw_16 wX10_person_c 40 rfl rfl rfl
theorem dX10_person_6 : decode cX10_person 6 = .ok (.if_icmp .eq 39, 3) := dw_159 wX10_person_c 0 39 rfl rfl rfl
theorem dX10_person_9 : decode cX10_person 9 = .ok (.iload_n 1, 1) := dw_27 wX10_person_c rfl
theorem dX10_person_10 : decode cX10_person 10 = .ok (.sipush (-30000), 3) := dn_17 wX10_person_c 138 208 rfl (by decide)
theorem dX10_person_13 : decode cX10_person 13 = .ok (.sipush 7999, 3) := dw_17 wX10_person_c 31 63 rfl rfl rfl
theorem dX10_person_16 : decode cX10_person 16 = .ok (.invokestatic 228, 3) := dw_184 wX10_person_c 0 228 rfl rfl
theorem dX10_person_19 : decode cX10_person 19 = .ok (.ifCond .eq 26, 3) := dw_153 wX10_person_c 0 26 rfl rfl rfl
theorem dX10_person_22 : decode cX10_person 22 = .ok (.iload_n 2, 1) := dw_28 wX10_person_c rfl
theorem dX10_person_23 : decode cX10_person 23 = .ok (.iload_n 3, 1) := dw_29 wX10_person_c rfl
theorem dX10_person_24 : decode cX10_person 24 = .ok (.iload 4, 2) := dw_21 wX10_person_c 4 rfl
theorem dX10_person_26 : decode cX10_person 26 = .ok (.iload 5, 2) := dw_21 wX10_person_c 5 rfl
theorem dX10_person_28 : decode cX10_person 28 = .ok (.invokestatic 340, 3) := dw_184 wX10_person_c 1 84 rfl rfl
theorem dX10_person_31 : decode cX10_person 31 = .ok (.ifCond .eq 14, 3) := dw_153 wX10_person_c 0 14 rfl rfl rfl
theorem dX10_person_34 : decode cX10_person 34 = .ok (.iload 6, 2) := dw_21 wX10_person_c 6 rfl
theorem dX10_person_36 : decode cX10_person 36 = .ok (.iconst (-1), 1) := dw_2 wX10_person_c rfl
theorem dX10_person_37 : decode cX10_person 37 = .ok (.bipush 19, 2) := dw_16 wX10_person_c 19 rfl rfl rfl
theorem dX10_person_39 : decode cX10_person 39 = .ok (.invokestatic 228, 3) := dw_184 wX10_person_c 0 228 rfl rfl
theorem dX10_person_42 : decode cX10_person 42 = .ok (.ifCond .ne 5, 3) := dw_154 wX10_person_c 0 5 rfl rfl rfl
theorem dX10_person_45 : decode cX10_person 45 = .ok (.iconst (-1), 1) := dw_2 wX10_person_c rfl
theorem dX10_person_46 : decode cX10_person 46 = .ok (.ireturn, 1) := dw_172 wX10_person_c rfl
theorem dX10_person_47 : decode cX10_person 47 = .ok (.aload_n 0, 1) := dw_42 wX10_person_c rfl
theorem dX10_person_48 : decode cX10_person 48 = .ok (.getfield 38, 3) := dw_180 wX10_person_c 0 38 rfl rfl
theorem dX10_person_51 : decode cX10_person 51 = .ok (.aload_n 0, 1) := dw_42 wX10_person_c rfl
theorem dX10_person_52 : decode cX10_person 52 = .ok (.getfield 337, 3) := dw_180 wX10_person_c 1 81 rfl rfl
theorem dX10_person_55 : decode cX10_person 55 = .ok (.iload_n 1, 1) := dw_27 wX10_person_c rfl
theorem dX10_person_56 : decode cX10_person 56 = .ok (.iastore, 1) := dw_79 wX10_person_c rfl
theorem dX10_person_57 : decode cX10_person 57 = .ok (.aload_n 0, 1) := dw_42 wX10_person_c rfl
theorem dX10_person_58 : decode cX10_person 58 = .ok (.getfield 53, 3) := dw_180 wX10_person_c 0 53 rfl rfl
theorem dX10_person_61 : decode cX10_person 61 = .ok (.aload_n 0, 1) := dw_42 wX10_person_c rfl
theorem dX10_person_62 : decode cX10_person 62 = .ok (.getfield 337, 3) := dw_180 wX10_person_c 1 81 rfl rfl
theorem dX10_person_65 : decode cX10_person 65 = .ok (.iload 6, 2) := dw_21 wX10_person_c 6 rfl
theorem dX10_person_67 : decode cX10_person 67 = .ok (.iastore, 1) := dw_79 wX10_person_c rfl
theorem dX10_person_68 : decode cX10_person 68 = .ok (.aload_n 0, 1) := dw_42 wX10_person_c rfl
theorem dX10_person_69 : decode cX10_person 69 = .ok (.dup, 1) := dw_89 wX10_person_c rfl
theorem dX10_person_70 : decode cX10_person 70 = .ok (.getfield 337, 3) := dw_180 wX10_person_c 1 81 rfl rfl
theorem dX10_person_73 : decode cX10_person 73 = .ok (.iconst 1, 1) := dw_4 wX10_person_c rfl
theorem dX10_person_74 : decode cX10_person 74 = .ok (.iadd, 1) := dw_96 wX10_person_c rfl
theorem dX10_person_75 : decode cX10_person 75 = .ok (.putfield 337, 3) := dw_181 wX10_person_c 1 81 rfl rfl
theorem dX10_person_78 : decode cX10_person 78 = .ok (.aload_n 0, 1) := dw_42 wX10_person_c rfl
theorem dX10_person_79 : decode cX10_person 79 = .ok (.aload_n 0, 1) := dw_42 wX10_person_c rfl
theorem dX10_person_80 : decode cX10_person 80 = .ok (.getfield 337, 3) := dw_180 wX10_person_c 1 81 rfl rfl
theorem dX10_person_83 : decode cX10_person 83 = .ok (.iconst 1, 1) := dw_4 wX10_person_c rfl
theorem dX10_person_84 : decode cX10_person 84 = .ok (.isub, 1) := dw_100 wX10_person_c rfl
theorem dX10_person_85 : decode cX10_person 85 = .ok (.iload_n 2, 1) := dw_28 wX10_person_c rfl
theorem dX10_person_86 : decode cX10_person 86 = .ok (.iload_n 3, 1) := dw_29 wX10_person_c rfl
theorem dX10_person_87 : decode cX10_person 87 = .ok (.iload 4, 2) := dw_21 wX10_person_c 4 rfl
theorem dX10_person_89 : decode cX10_person 89 = .ok (.iload 5, 2) := dw_21 wX10_person_c 5 rfl
theorem dX10_person_91 : decode cX10_person 91 = .ok (.invokevirtual 344, 3) := dw_182 wX10_person_c 1 88 rfl rfl
theorem dX10_person_94 : decode cX10_person 94 = .ok (.aload_n 0, 1) := dw_42 wX10_person_c rfl
theorem dX10_person_95 : decode cX10_person 95 = .ok (.getfield 337, 3) := dw_180 wX10_person_c 1 81 rfl rfl
theorem dX10_person_98 : decode cX10_person 98 = .ok (.iconst 1, 1) := dw_4 wX10_person_c rfl
theorem dX10_person_99 : decode cX10_person 99 = .ok (.isub, 1) := dw_100 wX10_person_c rfl
theorem dX10_person_100 : decode cX10_person 100 = .ok (.ireturn, 1) := dw_172 wX10_person_c rfl
def wNX10_anew : Nat := 6164385589829512822558124397220836951167763639692130188786473307277179352362289065970866167434850149473066
theorem wX10_anew_c : hz_cd cX10_anew wNX10_anew 44 := ⟨by decide +kernel, by decide +kernel⟩
theorem dX10_anew_0 : decode cX10_anew 0 = .ok (.aload_n 0, 1) := dw_42 wX10_anew_c rfl
theorem dX10_anew_1 : decode cX10_anew 1 = .ok (.iload_n 1, 1) := dw_27 wX10_anew_c rfl
theorem dX10_anew_2 : decode cX10_anew 2 = .ok (.invokevirtual 348, 3) := dw_182 wX10_anew_c 1 92 rfl rfl
theorem dX10_anew_5 : decode cX10_anew 5 = .ok (.ifCond .eq 24, 3) := dw_153 wX10_anew_c 0 24 rfl rfl rfl
theorem dX10_anew_8 : decode cX10_anew 8 = .ok (.aload_n 0, 1) := dw_42 wX10_anew_c rfl
theorem dX10_anew_9 : decode cX10_anew 9 = .ok (.getfield 56, 3) := dw_180 wX10_anew_c 0 56 rfl rfl
theorem dX10_anew_12 : decode cX10_anew 12 = .ok (.iload_n 1, 1) := dw_27 wX10_anew_c rfl
theorem dX10_anew_13 : decode cX10_anew 13 = .ok (.baload, 1) := dw_51 wX10_anew_c rfl
theorem dX10_anew_14 : decode cX10_anew 14 = .ok (.ifCond .ne 15, 3) := dw_154 wX10_anew_c 0 15 rfl rfl rfl
theorem dX10_anew_17 : decode cX10_anew 17 = .ok (.iload_n 2, 1) := dw_28 wX10_anew_c rfl
theorem dX10_anew_18 : decode cX10_anew 18 = .ok (.iload_n 3, 1) := dw_29 wX10_anew_c rfl
theorem dX10_anew_19 : decode cX10_anew 19 = .ok (.iload 4, 2) := dw_21 wX10_anew_c 4 rfl
theorem dX10_anew_21 : decode cX10_anew 21 = .ok (.iload 5, 2) := dw_21 wX10_anew_c 5 rfl
theorem dX10_anew_23 : decode cX10_anew 23 = .ok (.invokestatic 340, 3) := dw_184 wX10_anew_c 1 84 rfl rfl
theorem dX10_anew_26 : decode cX10_anew 26 = .ok (.ifCond .ne 5, 3) := dw_154 wX10_anew_c 0 5 rfl rfl rfl
theorem dX10_anew_29 : decode cX10_anew 29 = .ok (.iconst 0, 1) := dw_3 wX10_anew_c rfl
theorem dX10_anew_30 : decode cX10_anew 30 = .ok (.ireturn, 1) := dw_172 wX10_anew_c rfl
theorem dX10_anew_31 : decode cX10_anew 31 = .ok (.aload_n 0, 1) := dw_42 wX10_anew_c rfl
theorem dX10_anew_32 : decode cX10_anew 32 = .ok (.iload_n 1, 1) := dw_27 wX10_anew_c rfl
theorem dX10_anew_33 : decode cX10_anew 33 = .ok (.iload_n 2, 1) := dw_28 wX10_anew_c rfl
theorem dX10_anew_34 : decode cX10_anew 34 = .ok (.iload_n 3, 1) := dw_29 wX10_anew_c rfl
theorem dX10_anew_35 : decode cX10_anew 35 = .ok (.iload 4, 2) := dw_21 wX10_anew_c 4 rfl
theorem dX10_anew_37 : decode cX10_anew 37 = .ok (.iload 5, 2) := dw_21 wX10_anew_c 5 rfl
theorem dX10_anew_39 : decode cX10_anew 39 = .ok (.invokevirtual 344, 3) := dw_182 wX10_anew_c 1 88 rfl rfl
theorem dX10_anew_42 : decode cX10_anew 42 = .ok (.iconst 1, 1) := dw_4 wX10_anew_c rfl
theorem dX10_anew_43 : decode cX10_anew 43 = .ok (.ireturn, 1) := dw_172 wX10_anew_c rfl
theorem dX10_dies_0 : decode cX10_dies 0 = .ok (.aload_n 0, 1) := by decide +kernel
theorem dX10_dies_1 : decode cX10_dies 1 = .ok (.iload_n 1, 1) := by decide +kernel
theorem dX10_dies_2 : decode cX10_dies 2 = .ok (.invokevirtual 348, 3) := by decide +kernel
theorem dX10_dies_5 : decode cX10_dies 5 = .ok (.ifCond .eq 12, 3) := by decide +kernel
theorem dX10_dies_8 : decode cX10_dies 8 = .ok (.aload_n 0, 1) := by decide +kernel
theorem dX10_dies_9 : decode cX10_dies 9 = .ok (.getfield 56, 3) := by decide +kernel
theorem dX10_dies_12 : decode cX10_dies 12 = .ok (.iload_n 1, 1) := by decide +kernel
theorem dX10_dies_13 : decode cX10_dies 13 = .ok (.baload, 1) := by decide +kernel
theorem dX10_dies_14 : decode cX10_dies 14 = .ok (.ifCond .eq 5, 3) := by decide +kernel
theorem dX10_dies_17 : decode cX10_dies 17 = .ok (.iconst 0, 1) := by decide +kernel
theorem dX10_dies_18 : decode cX10_dies 18 = .ok (.ireturn, 1) := by decide +kernel
theorem dX10_dies_19 : decode cX10_dies 19 = .ok (.aload_n 0, 1) := by decide +kernel
theorem dX10_dies_20 : decode cX10_dies 20 = .ok (.getfield 56, 3) := by decide +kernel
theorem dX10_dies_23 : decode cX10_dies 23 = .ok (.iload_n 1, 1) := by decide +kernel
theorem dX10_dies_24 : decode cX10_dies 24 = .ok (.iconst 1, 1) := by decide +kernel
theorem dX10_dies_25 : decode cX10_dies 25 = .ok (.bastore, 1) := by decide +kernel
theorem dX10_dies_26 : decode cX10_dies 26 = .ok (.iconst 1, 1) := by decide +kernel
theorem dX10_dies_27 : decode cX10_dies 27 = .ok (.ireturn, 1) := by decide +kernel
theorem dX10_judge_0 : decode cX10_judge 0 = .ok (.aload_n 0, 1) := by decide +kernel
theorem dX10_judge_1 : decode cX10_judge 1 = .ok (.iload_n 1, 1) := by decide +kernel
theorem dX10_judge_2 : decode cX10_judge 2 = .ok (.invokevirtual 348, 3) := by decide +kernel
theorem dX10_judge_5 : decode cX10_judge 5 = .ok (.ifCond .eq 13, 3) := by decide +kernel
theorem dX10_judge_8 : decode cX10_judge 8 = .ok (.aload_n 0, 1) := by decide +kernel
theorem dX10_judge_9 : decode cX10_judge 9 = .ok (.getfield 60, 3) := by decide +kernel
theorem dX10_judge_12 : decode cX10_judge 12 = .ok (.iload_n 1, 1) := by decide +kernel
theorem dX10_judge_13 : decode cX10_judge 13 = .ok (.baload, 1) := by decide +kernel
theorem dX10_judge_14 : decode cX10_judge 14 = .ok (.iload_n 2, 1) := by decide +kernel
theorem dX10_judge_15 : decode cX10_judge 15 = .ok (.if_icmp .ne 5, 3) := by decide +kernel
theorem dX10_judge_18 : decode cX10_judge 18 = .ok (.iconst 0, 1) := by decide +kernel
theorem dX10_judge_19 : decode cX10_judge 19 = .ok (.ireturn, 1) := by decide +kernel
theorem dX10_judge_20 : decode cX10_judge 20 = .ok (.aload_n 0, 1) := by decide +kernel
theorem dX10_judge_21 : decode cX10_judge 21 = .ok (.getfield 60, 3) := by decide +kernel
theorem dX10_judge_24 : decode cX10_judge 24 = .ok (.iload_n 1, 1) := by decide +kernel
theorem dX10_judge_25 : decode cX10_judge 25 = .ok (.iload_n 2, 1) := by decide +kernel
theorem dX10_judge_26 : decode cX10_judge 26 = .ok (.bastore, 1) := by decide +kernel
theorem dX10_judge_27 : decode cX10_judge 27 = .ok (.iconst 1, 1) := by decide +kernel
theorem dX10_judge_28 : decode cX10_judge 28 = .ok (.ireturn, 1) := by decide +kernel
def wNX10_line : Nat := 34070608439449538014531377661929491716560614847277675171907444259400306433274418471996239279707099514078483166049542252838516753509963513813720641596426906349132669139191951279090591217941730814386849182080964508494969920955874882786901495426520167323009494904736018873614196580790467210530859872867726013848057945293698090
theorem wX10_line_c : hz_cd cX10_line wNX10_line 134 := ⟨by decide +kernel, by decide +kernel⟩
theorem dX10_line_0 : decode cX10_line 0 = .ok (.aload_n 0, 1) := dw_42 wX10_line_c rfl
theorem dX10_line_1 : decode cX10_line 1 = .ok (.getfield 351, 3) := dw_180 wX10_line_c 1 95 rfl rfl
theorem dX10_line_4 : decode cX10_line 4 = .ok (.sipush 400, 3) := dw_17 wX10_line_c 1 144 rfl rfl rfl
theorem dX10_line_7 : decode cX10_line 7 = .ok (.if_icmp .eq 58, 3) := dw_159 wX10_line_c 0 58 rfl rfl rfl
theorem dX10_line_10 : decode cX10_line 10 = .ok (.aload_n 0, 1) := dw_42 wX10_line_c rfl
theorem dX10_line_11 : decode cX10_line 11 = .ok (.iload_n 1, 1) := dw_27 wX10_line_c rfl
theorem dX10_line_12 : decode cX10_line 12 = .ok (.invokevirtual 348, 3) := dw_182 wX10_line_c 1 92 rfl rfl
theorem dX10_line_15 : decode cX10_line 15 = .ok (.ifCond .eq 50, 3) := dw_153 wX10_line_c 0 50 rfl rfl rfl
theorem dX10_line_18 : decode cX10_line 18 = .ok (.aload_n 0, 1) := dw_42 wX10_line_c rfl
theorem dX10_line_19 : decode cX10_line 19 = .ok (.iload_n 2, 1) := dw_28 wX10_line_c rfl
theorem dX10_line_20 : decode cX10_line 20 = .ok (.invokevirtual 348, 3) := dw_182 wX10_line_c 1 92 rfl rfl
theorem dX10_line_23 : decode cX10_line 23 = .ok (.ifCond .eq 42, 3) := dw_153 wX10_line_c 0 42 rfl rfl rfl
theorem dX10_line_26 : decode cX10_line 26 = .ok (.iload_n 1, 1) := dw_27 wX10_line_c rfl
theorem dX10_line_27 : decode cX10_line 27 = .ok (.iload_n 2, 1) := dw_28 wX10_line_c rfl
theorem dX10_line_28 : decode cX10_line 28 = .ok (.if_icmp .eq 37, 3) := dw_159 wX10_line_c 0 37 rfl rfl rfl
theorem dX10_line_31 : decode cX10_line 31 = .ok (.iload_n 3, 1) := dw_29 wX10_line_c rfl
theorem dX10_line_32 : decode cX10_line 32 = .ok (.iconst 0, 1) := dw_3 wX10_line_c rfl
theorem dX10_line_33 : decode cX10_line 33 = .ok (.aload_n 0, 1) := dw_42 wX10_line_c rfl
theorem dX10_line_34 : decode cX10_line 34 = .ok (.getfield 232, 3) := dw_180 wX10_line_c 0 232 rfl rfl
theorem dX10_line_37 : decode cX10_line 37 = .ok (.invokestatic 228, 3) := dw_184 wX10_line_c 0 228 rfl rfl
theorem dX10_line_40 : decode cX10_line 40 = .ok (.ifCond .eq 25, 3) := dw_153 wX10_line_c 0 25 rfl rfl rfl
theorem dX10_line_43 : decode cX10_line 43 = .ok (.iload 4, 2) := dw_21 wX10_line_c 4 rfl
theorem dX10_line_45 : decode cX10_line 45 = .ok (.iconst 0, 1) := dw_3 wX10_line_c rfl
theorem dX10_line_46 : decode cX10_line 46 = .ok (.iconst 3, 1) := dw_6 wX10_line_c rfl
theorem dX10_line_47 : decode cX10_line 47 = .ok (.invokestatic 228, 3) := dw_184 wX10_line_c 0 228 rfl rfl
theorem dX10_line_50 : decode cX10_line 50 = .ok (.ifCond .eq 15, 3) := dw_153 wX10_line_c 0 15 rfl rfl rfl
theorem dX10_line_53 : decode cX10_line 53 = .ok (.iload 5, 2) := dw_21 wX10_line_c 5 rfl
theorem dX10_line_55 : decode cX10_line 55 = .ok (.iconst 1, 1) := dw_4 wX10_line_c rfl
theorem dX10_line_56 : decode cX10_line 56 = .ok (.sipush 9999, 3) := dw_17 wX10_line_c 39 15 rfl rfl rfl
theorem dX10_line_59 : decode cX10_line 59 = .ok (.invokestatic 228, 3) := dw_184 wX10_line_c 0 228 rfl rfl
theorem dX10_line_62 : decode cX10_line 62 = .ok (.ifCond .ne 5, 3) := dw_154 wX10_line_c 0 5 rfl rfl rfl
theorem dX10_line_65 : decode cX10_line 65 = .ok (.iconst (-1), 1) := dw_2 wX10_line_c rfl
theorem dX10_line_66 : decode cX10_line 66 = .ok (.ireturn, 1) := dw_172 wX10_line_c rfl
theorem dX10_line_67 : decode cX10_line 67 = .ok (.aload_n 0, 1) := dw_42 wX10_line_c rfl
theorem dX10_line_68 : decode cX10_line 68 = .ok (.getfield 63, 3) := dw_180 wX10_line_c 0 63 rfl rfl
theorem dX10_line_71 : decode cX10_line 71 = .ok (.aload_n 0, 1) := dw_42 wX10_line_c rfl
theorem dX10_line_72 : decode cX10_line 72 = .ok (.getfield 351, 3) := dw_180 wX10_line_c 1 95 rfl rfl
theorem dX10_line_75 : decode cX10_line 75 = .ok (.iload_n 1, 1) := dw_27 wX10_line_c rfl
theorem dX10_line_76 : decode cX10_line 76 = .ok (.iastore, 1) := dw_79 wX10_line_c rfl
theorem dX10_line_77 : decode cX10_line 77 = .ok (.aload_n 0, 1) := dw_42 wX10_line_c rfl
theorem dX10_line_78 : decode cX10_line 78 = .ok (.getfield 66, 3) := dw_180 wX10_line_c 0 66 rfl rfl
theorem dX10_line_81 : decode cX10_line 81 = .ok (.aload_n 0, 1) := dw_42 wX10_line_c rfl
theorem dX10_line_82 : decode cX10_line 82 = .ok (.getfield 351, 3) := dw_180 wX10_line_c 1 95 rfl rfl
theorem dX10_line_85 : decode cX10_line 85 = .ok (.iload_n 2, 1) := dw_28 wX10_line_c rfl
theorem dX10_line_86 : decode cX10_line 86 = .ok (.iastore, 1) := dw_79 wX10_line_c rfl
theorem dX10_line_87 : decode cX10_line 87 = .ok (.aload_n 0, 1) := dw_42 wX10_line_c rfl
theorem dX10_line_88 : decode cX10_line 88 = .ok (.getfield 69, 3) := dw_180 wX10_line_c 0 69 rfl rfl
theorem dX10_line_91 : decode cX10_line 91 = .ok (.aload_n 0, 1) := dw_42 wX10_line_c rfl
theorem dX10_line_92 : decode cX10_line 92 = .ok (.getfield 351, 3) := dw_180 wX10_line_c 1 95 rfl rfl
theorem dX10_line_95 : decode cX10_line 95 = .ok (.iload_n 3, 1) := dw_29 wX10_line_c rfl
theorem dX10_line_96 : decode cX10_line 96 = .ok (.iastore, 1) := dw_79 wX10_line_c rfl
theorem dX10_line_97 : decode cX10_line 97 = .ok (.aload_n 0, 1) := dw_42 wX10_line_c rfl
theorem dX10_line_98 : decode cX10_line 98 = .ok (.getfield 72, 3) := dw_180 wX10_line_c 0 72 rfl rfl
theorem dX10_line_101 : decode cX10_line 101 = .ok (.aload_n 0, 1) := dw_42 wX10_line_c rfl
theorem dX10_line_102 : decode cX10_line 102 = .ok (.getfield 351, 3) := dw_180 wX10_line_c 1 95 rfl rfl
theorem dX10_line_105 : decode cX10_line 105 = .ok (.iload 4, 2) := dw_21 wX10_line_c 4 rfl
theorem dX10_line_107 : decode cX10_line 107 = .ok (.iastore, 1) := dw_79 wX10_line_c rfl
theorem dX10_line_108 : decode cX10_line 108 = .ok (.aload_n 0, 1) := dw_42 wX10_line_c rfl
theorem dX10_line_109 : decode cX10_line 109 = .ok (.getfield 75, 3) := dw_180 wX10_line_c 0 75 rfl rfl
theorem dX10_line_112 : decode cX10_line 112 = .ok (.aload_n 0, 1) := dw_42 wX10_line_c rfl
theorem dX10_line_113 : decode cX10_line 113 = .ok (.getfield 351, 3) := dw_180 wX10_line_c 1 95 rfl rfl
theorem dX10_line_116 : decode cX10_line 116 = .ok (.iload 5, 2) := dw_21 wX10_line_c 5 rfl
theorem dX10_line_118 : decode cX10_line 118 = .ok (.iastore, 1) := dw_79 wX10_line_c rfl
theorem dX10_line_119 : decode cX10_line 119 = .ok (.aload_n 0, 1) := dw_42 wX10_line_c rfl
theorem dX10_line_120 : decode cX10_line 120 = .ok (.dup, 1) := dw_89 wX10_line_c rfl
theorem dX10_line_121 : decode cX10_line 121 = .ok (.getfield 351, 3) := dw_180 wX10_line_c 1 95 rfl rfl
theorem dX10_line_124 : decode cX10_line 124 = .ok (.iconst 1, 1) := dw_4 wX10_line_c rfl
theorem dX10_line_125 : decode cX10_line 125 = .ok (.iadd, 1) := dw_96 wX10_line_c rfl
theorem dX10_line_126 : decode cX10_line 126 = .ok (.putfield 351, 3) := dw_181 wX10_line_c 1 95 rfl rfl
theorem dX10_line_129 : decode cX10_line 129 = .ok (.aload_n 0, 1) := dw_42 wX10_line_c rfl
theorem dX10_line_130 : decode cX10_line 130 = .ok (.getfield 351, 3) := dw_180 wX10_line_c 1 95 rfl rfl
theorem dX10_line_133 : decode cX10_line 133 = .ok (.ireturn, 1) := dw_172 wX10_line_c rfl
end
section
def wNX10_bookSum : Nat := 1147004873613346715520059743552574209040207410701160026833466676757154806677558174871672481166136087164534565994692261485685310588356766062449871061357791815691479726224761119563435662442051153988624369015321629825376905879628622847545073481219
theorem wX10_bookSum_c : hz_cd cX10_bookSum wNX10_bookSum 101 := ⟨by decide +kernel, by decide +kernel⟩
theorem dX10_bookSum_0 : decode cX10_bookSum 0 = .ok (.iconst 0, 1) := dw_3 wX10_bookSum_c rfl
theorem dX10_bookSum_1 : decode cX10_bookSum 1 = .ok (.istore 4, 2) := dw_54 wX10_bookSum_c 4 rfl
theorem dX10_bookSum_3 : decode cX10_bookSum 3 = .ok (.iconst 0, 1) := dw_3 wX10_bookSum_c rfl
theorem dX10_bookSum_4 : decode cX10_bookSum 4 = .ok (.istore 5, 2) := dw_54 wX10_bookSum_c 5 rfl
theorem dX10_bookSum_6 : decode cX10_bookSum 6 = .ok (.iload 5, 2) := dw_21 wX10_bookSum_c 5 rfl
theorem dX10_bookSum_8 : decode cX10_bookSum 8 = .ok (.aload_n 0, 1) := dw_42 wX10_bookSum_c rfl
theorem dX10_bookSum_9 : decode cX10_bookSum 9 = .ok (.getfield 351, 3) := dw_180 wX10_bookSum_c 1 95 rfl rfl
theorem dX10_bookSum_12 : decode cX10_bookSum 12 = .ok (.if_icmp .ge 86, 3) := dw_162 wX10_bookSum_c 0 86 rfl rfl rfl
theorem dX10_bookSum_15 : decode cX10_bookSum 15 = .ok (.aload_n 0, 1) := dw_42 wX10_bookSum_c rfl
theorem dX10_bookSum_16 : decode cX10_bookSum 16 = .ok (.getfield 63, 3) := dw_180 wX10_bookSum_c 0 63 rfl rfl
theorem dX10_bookSum_19 : decode cX10_bookSum 19 = .ok (.iload 5, 2) := dw_21 wX10_bookSum_c 5 rfl
theorem dX10_bookSum_21 : decode cX10_bookSum 21 = .ok (.iaload, 1) := dw_46 wX10_bookSum_c rfl
theorem dX10_bookSum_22 : decode cX10_bookSum 22 = .ok (.iload_n 1, 1) := dw_27 wX10_bookSum_c rfl
theorem dX10_bookSum_23 : decode cX10_bookSum 23 = .ok (.if_icmp .ne 69, 3) := dw_160 wX10_bookSum_c 0 69 rfl rfl rfl
theorem dX10_bookSum_26 : decode cX10_bookSum 26 = .ok (.aload_n 0, 1) := dw_42 wX10_bookSum_c rfl
theorem dX10_bookSum_27 : decode cX10_bookSum 27 = .ok (.getfield 66, 3) := dw_180 wX10_bookSum_c 0 66 rfl rfl
theorem dX10_bookSum_30 : decode cX10_bookSum 30 = .ok (.iload 5, 2) := dw_21 wX10_bookSum_c 5 rfl
theorem dX10_bookSum_32 : decode cX10_bookSum 32 = .ok (.iaload, 1) := dw_46 wX10_bookSum_c rfl
theorem dX10_bookSum_33 : decode cX10_bookSum 33 = .ok (.iload_n 2, 1) := dw_28 wX10_bookSum_c rfl
theorem dX10_bookSum_34 : decode cX10_bookSum 34 = .ok (.if_icmp .ne 58, 3) := dw_160 wX10_bookSum_c 0 58 rfl rfl rfl
theorem dX10_bookSum_37 : decode cX10_bookSum 37 = .ok (.aload_n 0, 1) := dw_42 wX10_bookSum_c rfl
theorem dX10_bookSum_38 : decode cX10_bookSum 38 = .ok (.getfield 69, 3) := dw_180 wX10_bookSum_c 0 69 rfl rfl
theorem dX10_bookSum_41 : decode cX10_bookSum 41 = .ok (.iload 5, 2) := dw_21 wX10_bookSum_c 5 rfl
theorem dX10_bookSum_43 : decode cX10_bookSum 43 = .ok (.iaload, 1) := dw_46 wX10_bookSum_c rfl
theorem dX10_bookSum_44 : decode cX10_bookSum 44 = .ok (.iload_n 3, 1) := dw_29 wX10_bookSum_c rfl
theorem dX10_bookSum_45 : decode cX10_bookSum 45 = .ok (.if_icmp .gt 47, 3) := dw_163 wX10_bookSum_c 0 47 rfl rfl rfl
theorem dX10_bookSum_48 : decode cX10_bookSum 48 = .ok (.iload 4, 2) := dw_21 wX10_bookSum_c 4 rfl
theorem dX10_bookSum_50 : decode cX10_bookSum 50 = .ok (.aload_n 0, 1) := dw_42 wX10_bookSum_c rfl
theorem dX10_bookSum_51 : decode cX10_bookSum 51 = .ok (.getfield 72, 3) := dw_180 wX10_bookSum_c 0 72 rfl rfl
theorem dX10_bookSum_54 : decode cX10_bookSum 54 = .ok (.iload 5, 2) := dw_21 wX10_bookSum_c 5 rfl
theorem dX10_bookSum_56 : decode cX10_bookSum 56 = .ok (.iaload, 1) := dw_46 wX10_bookSum_c rfl
theorem dX10_bookSum_57 : decode cX10_bookSum 57 = .ok (.ifCond .eq 14, 3) := dw_153 wX10_bookSum_c 0 14 rfl rfl rfl
theorem dX10_bookSum_60 : decode cX10_bookSum 60 = .ok (.aload_n 0, 1) := dw_42 wX10_bookSum_c rfl
theorem dX10_bookSum_61 : decode cX10_bookSum 61 = .ok (.getfield 72, 3) := dw_180 wX10_bookSum_c 0 72 rfl rfl
theorem dX10_bookSum_64 : decode cX10_bookSum 64 = .ok (.iload 5, 2) := dw_21 wX10_bookSum_c 5 rfl
theorem dX10_bookSum_66 : decode cX10_bookSum 66 = .ok (.iaload, 1) := dw_46 wX10_bookSum_c rfl
theorem dX10_bookSum_67 : decode cX10_bookSum 67 = .ok (.iconst 3, 1) := dw_6 wX10_bookSum_c rfl
theorem dX10_bookSum_68 : decode cX10_bookSum 68 = .ok (.if_icmp .ne 13, 3) := dw_160 wX10_bookSum_c 0 13 rfl rfl rfl
theorem dX10_bookSum_71 : decode cX10_bookSum 71 = .ok (.aload_n 0, 1) := dw_42 wX10_bookSum_c rfl
theorem dX10_bookSum_72 : decode cX10_bookSum 72 = .ok (.getfield 75, 3) := dw_180 wX10_bookSum_c 0 75 rfl rfl
theorem dX10_bookSum_75 : decode cX10_bookSum 75 = .ok (.iload 5, 2) := dw_21 wX10_bookSum_c 5 rfl
theorem dX10_bookSum_77 : decode cX10_bookSum 77 = .ok (.iaload, 1) := dw_46 wX10_bookSum_c rfl
theorem dX10_bookSum_78 : decode cX10_bookSum 78 = .ok (.goto 11, 3) := dw_167 wX10_bookSum_c 0 11 rfl rfl rfl
theorem dX10_bookSum_81 : decode cX10_bookSum 81 = .ok (.aload_n 0, 1) := dw_42 wX10_bookSum_c rfl
theorem dX10_bookSum_82 : decode cX10_bookSum 82 = .ok (.getfield 75, 3) := dw_180 wX10_bookSum_c 0 75 rfl rfl
theorem dX10_bookSum_85 : decode cX10_bookSum 85 = .ok (.iload 5, 2) := dw_21 wX10_bookSum_c 5 rfl
theorem dX10_bookSum_87 : decode cX10_bookSum 87 = .ok (.iaload, 1) := dw_46 wX10_bookSum_c rfl
theorem dX10_bookSum_88 : decode cX10_bookSum 88 = .ok (.ineg, 1) := dw_116 wX10_bookSum_c rfl
theorem dX10_bookSum_89 : decode cX10_bookSum 89 = .ok (.iadd, 1) := dw_96 wX10_bookSum_c rfl
theorem dX10_bookSum_90 : decode cX10_bookSum 90 = .ok (.istore 4, 2) := dw_54 wX10_bookSum_c 4 rfl
theorem dX10_bookSum_92 : decode cX10_bookSum 92 = .ok (.iinc 5 1, 3) := dw_132 wX10_bookSum_c 5 1 rfl rfl rfl
theorem dX10_bookSum_95 : decode cX10_bookSum 95 = .ok (.goto (-89), 3) := dn_167 wX10_bookSum_c 255 167 rfl (by decide)
theorem dX10_bookSum_98 : decode cX10_bookSum 98 = .ok (.iload 4, 2) := dw_21 wX10_bookSum_c 4 rfl
theorem dX10_bookSum_100 : decode cX10_bookSum 100 = .ok (.ireturn, 1) := dw_172 wX10_bookSum_c rfl
def wNX10_disorder : Nat := 2307651178394891636988431603264405494010503692680403515501445364664177706105086940362881578634420253895720360195988134929551524261954423638186642793365126403
theorem wX10_disorder_c : hz_cd cX10_disorder wNX10_disorder 65 := ⟨by decide +kernel, by decide +kernel⟩
theorem dX10_disorder_0 : decode cX10_disorder 0 = .ok (.iconst 0, 1) := dw_3 wX10_disorder_c rfl
theorem dX10_disorder_1 : decode cX10_disorder 1 = .ok (.istore_n 2, 1) := dw_61 wX10_disorder_c rfl
theorem dX10_disorder_2 : decode cX10_disorder 2 = .ok (.iconst (-1), 1) := dw_2 wX10_disorder_c rfl
theorem dX10_disorder_3 : decode cX10_disorder 3 = .ok (.istore_n 3, 1) := dw_62 wX10_disorder_c rfl
theorem dX10_disorder_4 : decode cX10_disorder 4 = .ok (.iconst 0, 1) := dw_3 wX10_disorder_c rfl
theorem dX10_disorder_5 : decode cX10_disorder 5 = .ok (.istore 4, 2) := dw_54 wX10_disorder_c 4 rfl
theorem dX10_disorder_7 : decode cX10_disorder 7 = .ok (.iload 4, 2) := dw_21 wX10_disorder_c 4 rfl
theorem dX10_disorder_9 : decode cX10_disorder 9 = .ok (.aload_n 0, 1) := dw_42 wX10_disorder_c rfl
theorem dX10_disorder_10 : decode cX10_disorder 10 = .ok (.getfield 351, 3) := dw_180 wX10_disorder_c 1 95 rfl rfl
theorem dX10_disorder_13 : decode cX10_disorder 13 = .ok (.if_icmp .ge 50, 3) := dw_162 wX10_disorder_c 0 50 rfl rfl rfl
theorem dX10_disorder_16 : decode cX10_disorder 16 = .ok (.aload_n 0, 1) := dw_42 wX10_disorder_c rfl
theorem dX10_disorder_17 : decode cX10_disorder 17 = .ok (.getfield 63, 3) := dw_180 wX10_disorder_c 0 63 rfl rfl
theorem dX10_disorder_20 : decode cX10_disorder 20 = .ok (.iload 4, 2) := dw_21 wX10_disorder_c 4 rfl
theorem dX10_disorder_22 : decode cX10_disorder 22 = .ok (.iaload, 1) := dw_46 wX10_disorder_c rfl
theorem dX10_disorder_23 : decode cX10_disorder 23 = .ok (.iload_n 1, 1) := dw_27 wX10_disorder_c rfl
theorem dX10_disorder_24 : decode cX10_disorder 24 = .ok (.if_icmp .eq 6, 3) := dw_159 wX10_disorder_c 0 6 rfl rfl rfl
theorem dX10_disorder_27 : decode cX10_disorder 27 = .ok (.goto 30, 3) := dw_167 wX10_disorder_c 0 30 rfl rfl rfl
theorem dX10_disorder_30 : decode cX10_disorder 30 = .ok (.iload_n 2, 1) := dw_28 wX10_disorder_c rfl
theorem dX10_disorder_31 : decode cX10_disorder 31 = .ok (.aload_n 0, 1) := dw_42 wX10_disorder_c rfl
theorem dX10_disorder_32 : decode cX10_disorder 32 = .ok (.getfield 69, 3) := dw_180 wX10_disorder_c 0 69 rfl rfl
theorem dX10_disorder_35 : decode cX10_disorder 35 = .ok (.iload 4, 2) := dw_21 wX10_disorder_c 4 rfl
theorem dX10_disorder_37 : decode cX10_disorder 37 = .ok (.iaload, 1) := dw_46 wX10_disorder_c rfl
theorem dX10_disorder_38 : decode cX10_disorder 38 = .ok (.iload_n 3, 1) := dw_29 wX10_disorder_c rfl
theorem dX10_disorder_39 : decode cX10_disorder 39 = .ok (.if_icmp .ge 7, 3) := dw_162 wX10_disorder_c 0 7 rfl rfl rfl
theorem dX10_disorder_42 : decode cX10_disorder 42 = .ok (.iconst 1, 1) := dw_4 wX10_disorder_c rfl
theorem dX10_disorder_43 : decode cX10_disorder 43 = .ok (.goto 4, 3) := dw_167 wX10_disorder_c 0 4 rfl rfl rfl
theorem dX10_disorder_46 : decode cX10_disorder 46 = .ok (.iconst 0, 1) := dw_3 wX10_disorder_c rfl
theorem dX10_disorder_47 : decode cX10_disorder 47 = .ok (.iadd, 1) := dw_96 wX10_disorder_c rfl
theorem dX10_disorder_48 : decode cX10_disorder 48 = .ok (.istore_n 2, 1) := dw_61 wX10_disorder_c rfl
theorem dX10_disorder_49 : decode cX10_disorder 49 = .ok (.aload_n 0, 1) := dw_42 wX10_disorder_c rfl
theorem dX10_disorder_50 : decode cX10_disorder 50 = .ok (.getfield 69, 3) := dw_180 wX10_disorder_c 0 69 rfl rfl
theorem dX10_disorder_53 : decode cX10_disorder 53 = .ok (.iload 4, 2) := dw_21 wX10_disorder_c 4 rfl
theorem dX10_disorder_55 : decode cX10_disorder 55 = .ok (.iaload, 1) := dw_46 wX10_disorder_c rfl
theorem dX10_disorder_56 : decode cX10_disorder 56 = .ok (.istore_n 3, 1) := dw_62 wX10_disorder_c rfl
theorem dX10_disorder_57 : decode cX10_disorder 57 = .ok (.iinc 4 1, 3) := dw_132 wX10_disorder_c 4 1 rfl rfl rfl
theorem dX10_disorder_60 : decode cX10_disorder 60 = .ok (.goto (-53), 3) := dn_167 wX10_disorder_c 255 203 rfl (by decide)
theorem dX10_disorder_63 : decode cX10_disorder 63 = .ok (.iload_n 2, 1) := dw_28 wX10_disorder_c rfl
theorem dX10_disorder_64 : decode cX10_disorder 64 = .ok (.ireturn, 1) := dw_172 wX10_disorder_c rfl
def wNX10_areTwins : Nat := 137466246221562552973413583499224988471076140737488792013137721105286355269497346830371297603754048755279818728219367569931293054746808657478800159786
theorem wX10_areTwins_c : hz_cd cX10_areTwins wNX10_areTwins 62 := ⟨by decide +kernel, by decide +kernel⟩
theorem dX10_areTwins_0 : decode cX10_areTwins 0 = .ok (.aload_n 0, 1) := dw_42 wX10_areTwins_c rfl
theorem dX10_areTwins_1 : decode cX10_areTwins 1 = .ok (.getfield 69, 3) := dw_180 wX10_areTwins_c 0 69 rfl rfl
theorem dX10_areTwins_4 : decode cX10_areTwins 4 = .ok (.iload_n 1, 1) := dw_27 wX10_areTwins_c rfl
theorem dX10_areTwins_5 : decode cX10_areTwins 5 = .ok (.iaload, 1) := dw_46 wX10_areTwins_c rfl
theorem dX10_areTwins_6 : decode cX10_areTwins 6 = .ok (.aload_n 0, 1) := dw_42 wX10_areTwins_c rfl
theorem dX10_areTwins_7 : decode cX10_areTwins 7 = .ok (.getfield 69, 3) := dw_180 wX10_areTwins_c 0 69 rfl rfl
theorem dX10_areTwins_10 : decode cX10_areTwins 10 = .ok (.iload_n 2, 1) := dw_28 wX10_areTwins_c rfl
theorem dX10_areTwins_11 : decode cX10_areTwins 11 = .ok (.iaload, 1) := dw_46 wX10_areTwins_c rfl
theorem dX10_areTwins_12 : decode cX10_areTwins 12 = .ok (.isub, 1) := dw_100 wX10_areTwins_c rfl
theorem dX10_areTwins_13 : decode cX10_areTwins 13 = .ok (.istore_n 3, 1) := dw_62 wX10_areTwins_c rfl
theorem dX10_areTwins_14 : decode cX10_areTwins 14 = .ok (.aload_n 0, 1) := dw_42 wX10_areTwins_c rfl
theorem dX10_areTwins_15 : decode cX10_areTwins 15 = .ok (.getfield 72, 3) := dw_180 wX10_areTwins_c 0 72 rfl rfl
theorem dX10_areTwins_18 : decode cX10_areTwins 18 = .ok (.iload_n 1, 1) := dw_27 wX10_areTwins_c rfl
theorem dX10_areTwins_19 : decode cX10_areTwins 19 = .ok (.iaload, 1) := dw_46 wX10_areTwins_c rfl
theorem dX10_areTwins_20 : decode cX10_areTwins 20 = .ok (.iconst 1, 1) := dw_4 wX10_areTwins_c rfl
theorem dX10_areTwins_21 : decode cX10_areTwins 21 = .ok (.ixor, 1) := dw_130 wX10_areTwins_c rfl
theorem dX10_areTwins_22 : decode cX10_areTwins 22 = .ok (.aload_n 0, 1) := dw_42 wX10_areTwins_c rfl
theorem dX10_areTwins_23 : decode cX10_areTwins 23 = .ok (.getfield 72, 3) := dw_180 wX10_areTwins_c 0 72 rfl rfl
theorem dX10_areTwins_26 : decode cX10_areTwins 26 = .ok (.iload_n 2, 1) := dw_28 wX10_areTwins_c rfl
theorem dX10_areTwins_27 : decode cX10_areTwins 27 = .ok (.iaload, 1) := dw_46 wX10_areTwins_c rfl
theorem dX10_areTwins_28 : decode cX10_areTwins 28 = .ok (.if_icmp .ne 32, 3) := dw_160 wX10_areTwins_c 0 32 rfl rfl rfl
theorem dX10_areTwins_31 : decode cX10_areTwins 31 = .ok (.aload_n 0, 1) := dw_42 wX10_areTwins_c rfl
theorem dX10_areTwins_32 : decode cX10_areTwins 32 = .ok (.getfield 75, 3) := dw_180 wX10_areTwins_c 0 75 rfl rfl
theorem dX10_areTwins_35 : decode cX10_areTwins 35 = .ok (.iload_n 1, 1) := dw_27 wX10_areTwins_c rfl
theorem dX10_areTwins_36 : decode cX10_areTwins 36 = .ok (.iaload, 1) := dw_46 wX10_areTwins_c rfl
theorem dX10_areTwins_37 : decode cX10_areTwins 37 = .ok (.aload_n 0, 1) := dw_42 wX10_areTwins_c rfl
theorem dX10_areTwins_38 : decode cX10_areTwins 38 = .ok (.getfield 75, 3) := dw_180 wX10_areTwins_c 0 75 rfl rfl
theorem dX10_areTwins_41 : decode cX10_areTwins 41 = .ok (.iload_n 2, 1) := dw_28 wX10_areTwins_c rfl
theorem dX10_areTwins_42 : decode cX10_areTwins 42 = .ok (.iaload, 1) := dw_46 wX10_areTwins_c rfl
theorem dX10_areTwins_43 : decode cX10_areTwins 43 = .ok (.if_icmp .ne 17, 3) := dw_160 wX10_areTwins_c 0 17 rfl rfl rfl
theorem dX10_areTwins_46 : decode cX10_areTwins 46 = .ok (.iload_n 3, 1) := dw_29 wX10_areTwins_c rfl
theorem dX10_areTwins_47 : decode cX10_areTwins 47 = .ok (.bipush (-3), 2) := dn_16 wX10_areTwins_c 253 rfl (by decide)
theorem dX10_areTwins_49 : decode cX10_areTwins 49 = .ok (.iconst 3, 1) := dw_6 wX10_areTwins_c rfl
theorem dX10_areTwins_50 : decode cX10_areTwins 50 = .ok (.invokestatic 228, 3) := dw_184 wX10_areTwins_c 0 228 rfl rfl
theorem dX10_areTwins_53 : decode cX10_areTwins 53 = .ok (.ifCond .eq 7, 3) := dw_153 wX10_areTwins_c 0 7 rfl rfl rfl
theorem dX10_areTwins_56 : decode cX10_areTwins 56 = .ok (.iconst 1, 1) := dw_4 wX10_areTwins_c rfl
theorem dX10_areTwins_57 : decode cX10_areTwins 57 = .ok (.goto 4, 3) := dw_167 wX10_areTwins_c 0 4 rfl rfl rfl
theorem dX10_areTwins_60 : decode cX10_areTwins 60 = .ok (.iconst 0, 1) := dw_3 wX10_areTwins_c rfl
theorem dX10_areTwins_61 : decode cX10_areTwins 61 = .ok (.ireturn, 1) := dw_172 wX10_areTwins_c rfl
def wNX10_alike : Nat := 48008810657284923475615064606622224958988110984948978618549410822394929765731030763136474001897948439052685335246435376443303694025090527307135787450370244317969337426185227606199753082156566986904357697363981296111141234836902015847722562357819017761333224672730849290195169883905128375646405960662921064015986830289120000816125760890939440888498858844583535317547708984071524537817255543037109984676930197473805895471561676863709744556890416950805125927189739618163265939726412412850104677614634611367587703024726560130805155935442906134019
theorem wX10_alike_c : hz_cd cX10_alike wNX10_alike 225 := ⟨by decide +kernel, by decide +kernel⟩
theorem dX10_alike_0 : decode cX10_alike 0 = .ok (.iconst 0, 1) := dw_3 wX10_alike_c rfl
theorem dX10_alike_1 : decode cX10_alike 1 = .ok (.istore 4, 2) := dw_54 wX10_alike_c 4 rfl
theorem dX10_alike_3 : decode cX10_alike 3 = .ok (.iload 4, 2) := dw_21 wX10_alike_c 4 rfl
theorem dX10_alike_5 : decode cX10_alike 5 = .ok (.aload_n 0, 1) := dw_42 wX10_alike_c rfl
theorem dX10_alike_6 : decode cX10_alike 6 = .ok (.getfield 351, 3) := dw_180 wX10_alike_c 1 95 rfl rfl
theorem dX10_alike_9 : decode cX10_alike 9 = .ok (.if_icmp .ge 17, 3) := dw_162 wX10_alike_c 0 17 rfl rfl rfl
theorem dX10_alike_12 : decode cX10_alike 12 = .ok (.aload_n 0, 1) := dw_42 wX10_alike_c rfl
theorem dX10_alike_13 : decode cX10_alike 13 = .ok (.getfield 78, 3) := dw_180 wX10_alike_c 0 78 rfl rfl
theorem dX10_alike_16 : decode cX10_alike 16 = .ok (.iload 4, 2) := dw_21 wX10_alike_c 4 rfl
theorem dX10_alike_18 : decode cX10_alike 18 = .ok (.iconst 0, 1) := dw_3 wX10_alike_c rfl
theorem dX10_alike_19 : decode cX10_alike 19 = .ok (.bastore, 1) := dw_84 wX10_alike_c rfl
theorem dX10_alike_20 : decode cX10_alike 20 = .ok (.iinc 4 1, 3) := dw_132 wX10_alike_c 4 1 rfl rfl rfl
theorem dX10_alike_23 : decode cX10_alike 23 = .ok (.goto (-20), 3) := dn_167 wX10_alike_c 255 236 rfl (by decide)
theorem dX10_alike_26 : decode cX10_alike 26 = .ok (.iconst 0, 1) := dw_3 wX10_alike_c rfl
theorem dX10_alike_27 : decode cX10_alike 27 = .ok (.istore 4, 2) := dw_54 wX10_alike_c 4 rfl
theorem dX10_alike_29 : decode cX10_alike 29 = .ok (.iconst 0, 1) := dw_3 wX10_alike_c rfl
theorem dX10_alike_30 : decode cX10_alike 30 = .ok (.istore 5, 2) := dw_54 wX10_alike_c 5 rfl
theorem dX10_alike_32 : decode cX10_alike 32 = .ok (.iload 5, 2) := dw_21 wX10_alike_c 5 rfl
theorem dX10_alike_34 : decode cX10_alike 34 = .ok (.iload_n 3, 1) := dw_29 wX10_alike_c rfl
theorem dX10_alike_35 : decode cX10_alike 35 = .ok (.if_icmp .gt 187, 3) := dw_163 wX10_alike_c 0 187 rfl rfl rfl
theorem dX10_alike_38 : decode cX10_alike 38 = .ok (.iconst 0, 1) := dw_3 wX10_alike_c rfl
theorem dX10_alike_39 : decode cX10_alike 39 = .ok (.istore 6, 2) := dw_54 wX10_alike_c 6 rfl
theorem dX10_alike_41 : decode cX10_alike 41 = .ok (.iload 6, 2) := dw_21 wX10_alike_c 6 rfl
theorem dX10_alike_43 : decode cX10_alike 43 = .ok (.aload_n 0, 1) := dw_42 wX10_alike_c rfl
theorem dX10_alike_44 : decode cX10_alike 44 = .ok (.getfield 351, 3) := dw_180 wX10_alike_c 1 95 rfl rfl
theorem dX10_alike_47 : decode cX10_alike 47 = .ok (.if_icmp .ge 169, 3) := dw_162 wX10_alike_c 0 169 rfl rfl rfl
theorem dX10_alike_50 : decode cX10_alike 50 = .ok (.aload_n 0, 1) := dw_42 wX10_alike_c rfl
theorem dX10_alike_51 : decode cX10_alike 51 = .ok (.getfield 69, 3) := dw_180 wX10_alike_c 0 69 rfl rfl
theorem dX10_alike_54 : decode cX10_alike 54 = .ok (.iload 6, 2) := dw_21 wX10_alike_c 6 rfl
theorem dX10_alike_56 : decode cX10_alike 56 = .ok (.iaload, 1) := dw_46 wX10_alike_c rfl
theorem dX10_alike_57 : decode cX10_alike 57 = .ok (.iload 5, 2) := dw_21 wX10_alike_c 5 rfl
theorem dX10_alike_59 : decode cX10_alike 59 = .ok (.if_icmp .ne 151, 3) := dw_160 wX10_alike_c 0 151 rfl rfl rfl
theorem dX10_alike_62 : decode cX10_alike 62 = .ok (.aload_n 0, 1) := dw_42 wX10_alike_c rfl
theorem dX10_alike_63 : decode cX10_alike 63 = .ok (.getfield 63, 3) := dw_180 wX10_alike_c 0 63 rfl rfl
theorem dX10_alike_66 : decode cX10_alike 66 = .ok (.iload 6, 2) := dw_21 wX10_alike_c 6 rfl
theorem dX10_alike_68 : decode cX10_alike 68 = .ok (.iaload, 1) := dw_46 wX10_alike_c rfl
theorem dX10_alike_69 : decode cX10_alike 69 = .ok (.iload_n 1, 1) := dw_27 wX10_alike_c rfl
theorem dX10_alike_70 : decode cX10_alike 70 = .ok (.if_icmp .ne 140, 3) := dw_160 wX10_alike_c 0 140 rfl rfl rfl
theorem dX10_alike_73 : decode cX10_alike 73 = .ok (.aload_n 0, 1) := dw_42 wX10_alike_c rfl
theorem dX10_alike_74 : decode cX10_alike 74 = .ok (.getfield 66, 3) := dw_180 wX10_alike_c 0 66 rfl rfl
theorem dX10_alike_77 : decode cX10_alike 77 = .ok (.iload 6, 2) := dw_21 wX10_alike_c 6 rfl
theorem dX10_alike_79 : decode cX10_alike 79 = .ok (.iaload, 1) := dw_46 wX10_alike_c rfl
theorem dX10_alike_80 : decode cX10_alike 80 = .ok (.iload_n 2, 1) := dw_28 wX10_alike_c rfl
theorem dX10_alike_81 : decode cX10_alike 81 = .ok (.if_icmp .eq 6, 3) := dw_159 wX10_alike_c 0 6 rfl rfl rfl
theorem dX10_alike_84 : decode cX10_alike 84 = .ok (.goto 126, 3) := dw_167 wX10_alike_c 0 126 rfl rfl rfl
theorem dX10_alike_87 : decode cX10_alike 87 = .ok (.iconst (-1), 1) := dw_2 wX10_alike_c rfl
theorem dX10_alike_88 : decode cX10_alike 88 = .ok (.istore 7, 2) := dw_54 wX10_alike_c 7 rfl
theorem dX10_alike_90 : decode cX10_alike 90 = .ok (.iconst 0, 1) := dw_3 wX10_alike_c rfl
theorem dX10_alike_91 : decode cX10_alike 91 = .ok (.istore 8, 2) := dw_54 wX10_alike_c 8 rfl
theorem dX10_alike_93 : decode cX10_alike 93 = .ok (.iload 8, 2) := dw_21 wX10_alike_c 8 rfl
theorem dX10_alike_95 : decode cX10_alike 95 = .ok (.aload_n 0, 1) := dw_42 wX10_alike_c rfl
theorem dX10_alike_96 : decode cX10_alike 96 = .ok (.getfield 351, 3) := dw_180 wX10_alike_c 1 95 rfl rfl
theorem dX10_alike_99 : decode cX10_alike 99 = .ok (.if_icmp .ge 92, 3) := dw_162 wX10_alike_c 0 92 rfl rfl rfl
theorem dX10_alike_102 : decode cX10_alike 102 = .ok (.aload_n 0, 1) := dw_42 wX10_alike_c rfl
theorem dX10_alike_103 : decode cX10_alike 103 = .ok (.getfield 78, 3) := dw_180 wX10_alike_c 0 78 rfl rfl
theorem dX10_alike_106 : decode cX10_alike 106 = .ok (.iload 8, 2) := dw_21 wX10_alike_c 8 rfl
theorem dX10_alike_108 : decode cX10_alike 108 = .ok (.baload, 1) := dw_51 wX10_alike_c rfl
theorem dX10_alike_109 : decode cX10_alike 109 = .ok (.ifCond .ne 76, 3) := dw_154 wX10_alike_c 0 76 rfl rfl rfl
theorem dX10_alike_112 : decode cX10_alike 112 = .ok (.aload_n 0, 1) := dw_42 wX10_alike_c rfl
theorem dX10_alike_113 : decode cX10_alike 113 = .ok (.getfield 63, 3) := dw_180 wX10_alike_c 0 63 rfl rfl
theorem dX10_alike_116 : decode cX10_alike 116 = .ok (.iload 8, 2) := dw_21 wX10_alike_c 8 rfl
theorem dX10_alike_118 : decode cX10_alike 118 = .ok (.iaload, 1) := dw_46 wX10_alike_c rfl
theorem dX10_alike_119 : decode cX10_alike 119 = .ok (.iload_n 2, 1) := dw_28 wX10_alike_c rfl
theorem dX10_alike_120 : decode cX10_alike 120 = .ok (.if_icmp .ne 65, 3) := dw_160 wX10_alike_c 0 65 rfl rfl rfl
theorem dX10_alike_123 : decode cX10_alike 123 = .ok (.aload_n 0, 1) := dw_42 wX10_alike_c rfl
theorem dX10_alike_124 : decode cX10_alike 124 = .ok (.getfield 66, 3) := dw_180 wX10_alike_c 0 66 rfl rfl
theorem dX10_alike_127 : decode cX10_alike 127 = .ok (.iload 8, 2) := dw_21 wX10_alike_c 8 rfl
theorem dX10_alike_129 : decode cX10_alike 129 = .ok (.iaload, 1) := dw_46 wX10_alike_c rfl
theorem dX10_alike_130 : decode cX10_alike 130 = .ok (.iload_n 1, 1) := dw_27 wX10_alike_c rfl
theorem dX10_alike_131 : decode cX10_alike 131 = .ok (.if_icmp .ne 54, 3) := dw_160 wX10_alike_c 0 54 rfl rfl rfl
theorem dX10_alike_134 : decode cX10_alike 134 = .ok (.aload_n 0, 1) := dw_42 wX10_alike_c rfl
theorem dX10_alike_135 : decode cX10_alike 135 = .ok (.getfield 69, 3) := dw_180 wX10_alike_c 0 69 rfl rfl
theorem dX10_alike_138 : decode cX10_alike 138 = .ok (.iload 8, 2) := dw_21 wX10_alike_c 8 rfl
theorem dX10_alike_140 : decode cX10_alike 140 = .ok (.iaload, 1) := dw_46 wX10_alike_c rfl
theorem dX10_alike_141 : decode cX10_alike 141 = .ok (.iload_n 3, 1) := dw_29 wX10_alike_c rfl
theorem dX10_alike_142 : decode cX10_alike 142 = .ok (.if_icmp .gt 43, 3) := dw_163 wX10_alike_c 0 43 rfl rfl rfl
theorem dX10_alike_145 : decode cX10_alike 145 = .ok (.aload_n 0, 1) := dw_42 wX10_alike_c rfl
theorem dX10_alike_146 : decode cX10_alike 146 = .ok (.iload 6, 2) := dw_21 wX10_alike_c 6 rfl
theorem dX10_alike_148 : decode cX10_alike 148 = .ok (.iload 8, 2) := dw_21 wX10_alike_c 8 rfl
theorem dX10_alike_150 : decode cX10_alike 150 = .ok (.invokevirtual 354, 3) := dw_182 wX10_alike_c 1 98 rfl rfl
theorem dX10_alike_153 : decode cX10_alike 153 = .ok (.ifCond .ne 6, 3) := dw_154 wX10_alike_c 0 6 rfl rfl rfl
theorem dX10_alike_156 : decode cX10_alike 156 = .ok (.goto 29, 3) := dw_167 wX10_alike_c 0 29 rfl rfl rfl
theorem dX10_alike_159 : decode cX10_alike 159 = .ok (.iload 7, 2) := dw_21 wX10_alike_c 7 rfl
theorem dX10_alike_161 : decode cX10_alike 161 = .ok (.ifCond .lt 20, 3) := dw_155 wX10_alike_c 0 20 rfl rfl rfl
theorem dX10_alike_164 : decode cX10_alike 164 = .ok (.aload_n 0, 1) := dw_42 wX10_alike_c rfl
theorem dX10_alike_165 : decode cX10_alike 165 = .ok (.getfield 69, 3) := dw_180 wX10_alike_c 0 69 rfl rfl
theorem dX10_alike_168 : decode cX10_alike 168 = .ok (.iload 8, 2) := dw_21 wX10_alike_c 8 rfl
theorem dX10_alike_170 : decode cX10_alike 170 = .ok (.iaload, 1) := dw_46 wX10_alike_c rfl
theorem dX10_alike_171 : decode cX10_alike 171 = .ok (.aload_n 0, 1) := dw_42 wX10_alike_c rfl
theorem dX10_alike_172 : decode cX10_alike 172 = .ok (.getfield 69, 3) := dw_180 wX10_alike_c 0 69 rfl rfl
theorem dX10_alike_175 : decode cX10_alike 175 = .ok (.iload 7, 2) := dw_21 wX10_alike_c 7 rfl
theorem dX10_alike_177 : decode cX10_alike 177 = .ok (.iaload, 1) := dw_46 wX10_alike_c rfl
theorem dX10_alike_178 : decode cX10_alike 178 = .ok (.if_icmp .ge 7, 3) := dw_162 wX10_alike_c 0 7 rfl rfl rfl
theorem dX10_alike_181 : decode cX10_alike 181 = .ok (.iload 8, 2) := dw_21 wX10_alike_c 8 rfl
theorem dX10_alike_183 : decode cX10_alike 183 = .ok (.istore 7, 2) := dw_54 wX10_alike_c 7 rfl
theorem dX10_alike_185 : decode cX10_alike 185 = .ok (.iinc 8 1, 3) := dw_132 wX10_alike_c 8 1 rfl rfl rfl
theorem dX10_alike_188 : decode cX10_alike 188 = .ok (.goto (-95), 3) := dn_167 wX10_alike_c 255 161 rfl (by decide)
theorem dX10_alike_191 : decode cX10_alike 191 = .ok (.iload 7, 2) := dw_21 wX10_alike_c 7 rfl
theorem dX10_alike_193 : decode cX10_alike 193 = .ok (.ifCond .ge 6, 3) := dw_156 wX10_alike_c 0 6 rfl rfl rfl
theorem dX10_alike_196 : decode cX10_alike 196 = .ok (.goto 14, 3) := dw_167 wX10_alike_c 0 14 rfl rfl rfl
theorem dX10_alike_199 : decode cX10_alike 199 = .ok (.aload_n 0, 1) := dw_42 wX10_alike_c rfl
theorem dX10_alike_200 : decode cX10_alike 200 = .ok (.getfield 78, 3) := dw_180 wX10_alike_c 0 78 rfl rfl
theorem dX10_alike_203 : decode cX10_alike 203 = .ok (.iload 7, 2) := dw_21 wX10_alike_c 7 rfl
theorem dX10_alike_205 : decode cX10_alike 205 = .ok (.iconst 1, 1) := dw_4 wX10_alike_c rfl
theorem dX10_alike_206 : decode cX10_alike 206 = .ok (.bastore, 1) := dw_84 wX10_alike_c rfl
theorem dX10_alike_207 : decode cX10_alike 207 = .ok (.iinc 4 1, 3) := dw_132 wX10_alike_c 4 1 rfl rfl rfl
theorem dX10_alike_210 : decode cX10_alike 210 = .ok (.iinc 6 1, 3) := dw_132 wX10_alike_c 6 1 rfl rfl rfl
theorem dX10_alike_213 : decode cX10_alike 213 = .ok (.goto (-172), 3) := dn_167 wX10_alike_c 255 84 rfl (by decide)
theorem dX10_alike_216 : decode cX10_alike 216 = .ok (.iinc 5 1, 3) := dw_132 wX10_alike_c 5 1 rfl rfl rfl
theorem dX10_alike_219 : decode cX10_alike 219 = .ok (.goto (-187), 3) := dn_167 wX10_alike_c 255 69 rfl (by decide)
theorem dX10_alike_222 : decode cX10_alike 222 = .ok (.iload 4, 2) := dw_21 wX10_alike_c 4 rfl
theorem dX10_alike_224 : decode cX10_alike 224 = .ok (.ireturn, 1) := dw_172 wX10_alike_c rfl
def wNX10_book : Nat := 786539886421544592577405838108005687256152237788330320251194614579906218155876976943321961339088800823344452883763839513439937719898067838806736147378352312565569081600507649553529490303498984234
theorem wX10_book_c : hz_cd cX10_book wNX10_book 81 := ⟨by decide +kernel, by decide +kernel⟩
theorem dX10_book_0 : decode cX10_book 0 = .ok (.aload_n 0, 1) := dw_42 wX10_book_c rfl
theorem dX10_book_1 : decode cX10_book 1 = .ok (.iload_n 1, 1) := dw_27 wX10_book_c rfl
theorem dX10_book_2 : decode cX10_book 2 = .ok (.invokevirtual 348, 3) := dw_182 wX10_book_c 1 92 rfl rfl
theorem dX10_book_5 : decode cX10_book 5 = .ok (.ifCond .eq 23, 3) := dw_153 wX10_book_c 0 23 rfl rfl rfl
theorem dX10_book_8 : decode cX10_book 8 = .ok (.aload_n 0, 1) := dw_42 wX10_book_c rfl
theorem dX10_book_9 : decode cX10_book 9 = .ok (.iload_n 2, 1) := dw_28 wX10_book_c rfl
theorem dX10_book_10 : decode cX10_book 10 = .ok (.invokevirtual 348, 3) := dw_182 wX10_book_c 1 92 rfl rfl
theorem dX10_book_13 : decode cX10_book 13 = .ok (.ifCond .eq 15, 3) := dw_153 wX10_book_c 0 15 rfl rfl rfl
theorem dX10_book_16 : decode cX10_book 16 = .ok (.iload_n 1, 1) := dw_27 wX10_book_c rfl
theorem dX10_book_17 : decode cX10_book 17 = .ok (.iload_n 2, 1) := dw_28 wX10_book_c rfl
theorem dX10_book_18 : decode cX10_book 18 = .ok (.if_icmp .eq 10, 3) := dw_159 wX10_book_c 0 10 rfl rfl rfl
theorem dX10_book_21 : decode cX10_book 21 = .ok (.iload_n 3, 1) := dw_29 wX10_book_c rfl
theorem dX10_book_22 : decode cX10_book 22 = .ok (.invokestatic 324, 3) := dw_184 wX10_book_c 1 68 rfl rfl
theorem dX10_book_25 : decode cX10_book 25 = .ok (.ifCond .ne 7, 3) := dw_154 wX10_book_c 0 7 rfl rfl rfl
theorem dX10_book_28 : decode cX10_book 28 = .ok (.ldc_w 357, 3) := dw_19 wX10_book_c 1 101 rfl rfl
theorem dX10_book_31 : decode cX10_book 31 = .ok (.ireturn, 1) := dw_172 wX10_book_c rfl
theorem dX10_book_32 : decode cX10_book 32 = .ok (.iload 4, 2) := dw_21 wX10_book_c 4 rfl
theorem dX10_book_34 : decode cX10_book 34 = .ok (.ifCond .ne 13, 3) := dw_154 wX10_book_c 0 13 rfl rfl rfl
theorem dX10_book_37 : decode cX10_book 37 = .ok (.aload_n 0, 1) := dw_42 wX10_book_c rfl
theorem dX10_book_38 : decode cX10_book 38 = .ok (.iload_n 1, 1) := dw_27 wX10_book_c rfl
theorem dX10_book_39 : decode cX10_book 39 = .ok (.iload_n 2, 1) := dw_28 wX10_book_c rfl
theorem dX10_book_40 : decode cX10_book 40 = .ok (.iload_n 3, 1) := dw_29 wX10_book_c rfl
theorem dX10_book_41 : decode cX10_book 41 = .ok (.invokevirtual 358, 3) := dw_182 wX10_book_c 1 102 rfl rfl
theorem dX10_book_44 : decode cX10_book 44 = .ok (.goto 36, 3) := dw_167 wX10_book_c 0 36 rfl rfl rfl
theorem dX10_book_47 : decode cX10_book 47 = .ok (.iload 4, 2) := dw_21 wX10_book_c 4 rfl
theorem dX10_book_49 : decode cX10_book 49 = .ok (.iconst 1, 1) := dw_4 wX10_book_c rfl
theorem dX10_book_50 : decode cX10_book 50 = .ok (.if_icmp .ne 13, 3) := dw_160 wX10_book_c 0 13 rfl rfl rfl
theorem dX10_book_53 : decode cX10_book 53 = .ok (.aload_n 0, 1) := dw_42 wX10_book_c rfl
theorem dX10_book_54 : decode cX10_book 54 = .ok (.iload_n 1, 1) := dw_27 wX10_book_c rfl
theorem dX10_book_55 : decode cX10_book 55 = .ok (.iload_n 2, 1) := dw_28 wX10_book_c rfl
theorem dX10_book_56 : decode cX10_book 56 = .ok (.iload_n 3, 1) := dw_29 wX10_book_c rfl
theorem dX10_book_57 : decode cX10_book 57 = .ok (.invokevirtual 361, 3) := dw_182 wX10_book_c 1 105 rfl rfl
theorem dX10_book_60 : decode cX10_book 60 = .ok (.goto 20, 3) := dw_167 wX10_book_c 0 20 rfl rfl rfl
theorem dX10_book_63 : decode cX10_book 63 = .ok (.iload 4, 2) := dw_21 wX10_book_c 4 rfl
theorem dX10_book_65 : decode cX10_book 65 = .ok (.iconst 2, 1) := dw_5 wX10_book_c rfl
theorem dX10_book_66 : decode cX10_book 66 = .ok (.if_icmp .ne 11, 3) := dw_160 wX10_book_c 0 11 rfl rfl rfl
theorem dX10_book_69 : decode cX10_book 69 = .ok (.aload_n 0, 1) := dw_42 wX10_book_c rfl
theorem dX10_book_70 : decode cX10_book 70 = .ok (.iload_n 1, 1) := dw_27 wX10_book_c rfl
theorem dX10_book_71 : decode cX10_book 71 = .ok (.invokevirtual 364, 3) := dw_182 wX10_book_c 1 108 rfl rfl
theorem dX10_book_74 : decode cX10_book 74 = .ok (.goto 6, 3) := dw_167 wX10_book_c 0 6 rfl rfl rfl
theorem dX10_book_77 : decode cX10_book 77 = .ok (.ldc_w 357, 3) := dw_19 wX10_book_c 1 101 rfl rfl
theorem dX10_book_80 : decode cX10_book 80 = .ok (.ireturn, 1) := dw_172 wX10_book_c rfl
end
section
theorem dX10_isClaim_0 : decode cX10_isClaim 0 = .ok (.iload_n 1, 1) := by decide +kernel
theorem dX10_isClaim_1 : decode cX10_isClaim 1 = .ok (.iconst 0, 1) := by decide +kernel
theorem dX10_isClaim_2 : decode cX10_isClaim 2 = .ok (.aload_n 0, 1) := by decide +kernel
theorem dX10_isClaim_3 : decode cX10_isClaim 3 = .ok (.getfield 367, 3) := by decide +kernel
theorem dX10_isClaim_6 : decode cX10_isClaim 6 = .ok (.iconst 1, 1) := by decide +kernel
theorem dX10_isClaim_7 : decode cX10_isClaim 7 = .ok (.isub, 1) := by decide +kernel
theorem dX10_isClaim_8 : decode cX10_isClaim 8 = .ok (.invokestatic 228, 3) := by decide +kernel
theorem dX10_isClaim_11 : decode cX10_isClaim 11 = .ok (.ireturn, 1) := by decide +kernel
set_option maxHeartbeats 4000000 in
set_option maxRecDepth 100000 in
theorem t_X10_isClaim (l : Launch) (dC : Nat → ClassId) (dI : Nat → Nat → Nat) (dA : Nat → ClassId) (L : List Nat) (h : hx_h) (sz : Nat) (x : Nat) (i1 : Int32) (hT : hx_T T_tb L h) (gx : hx_g L h x 10) (c0 : Int32) (f_x_36 : h.2.1 x 36 = c0) : Met l yX10_isClaim (Cond.code yX10_isClaim cX10_isClaim 2 (some .boolean) :: hx_all) ({ frames := 1, cells := 0, slots := 0, locals := 22 }) (va_Pc [.ref x, .int i1] (hx_B T_tb (P_ty dA) (dC, dI) vwCl L h sz)) (va_Qi (fun (r : Int32) (u : List Nat × hx_h) => ((r.toInt = 0 ∧ (i1.toInt < 0 ∨ c0.toInt ≤ i1.toInt)) ∨ (r.toInt = 1 ∧ 0 ≤ i1.toInt ∧ i1.toInt < c0.toInt)) ∧ hx_T T_tb u.1 u.2 ∧ hx_S T_tb [] L h u.1 u.2) (hx_E T_tb (P_ty dA) (dC, dI) vwCl (hx_A L sz)) (hx_A L sz)) 0 0 (hx_A L sz) := by
  refine hx_met (lv := [(0, .ref x), (1, .int i1)]) (by decide +kernel) rfl (Nat.le_of_ble_eq_true rfl) rfl ?_
  intro p e s m below meth c hx hb hml hr hlk hts0 hown hin hsz hW ls hl
  have hts : ∀ w ∈ hx_all, w.before _ s = true := fun w hw => hts0 w (List.mem_cons_of_mem _ hw)
  have hown : s.vm.findClass "SmallCourtModel" = some m.cls := hown
  have hM : hx_S T_tb [] L h L h := hx_S.rf
  have b_c0 := hT.gi gx tt_10 (k := 36) rfl
  rw [f_x_36] at b_c0
  have b_c0 : 0 ≤ c0.toInt ∧ c0.toInt ≤ 100 := b_c0
  refine lv_iload_n hx hb dX10_isClaim_0 rfl (lv_at hl 1 rfl) ?_
  refine lv_iconst (v := 0) hx hb dX10_isClaim_1 ?o0 ?_
  case o0 => decide
  refine lv_aload_n hx hb dX10_isClaim_2 rfl (lv_at hl 0 rfl) ?_
  refine hk_geti hx hb hts hC_10 hown hW (gx.S hM) tt_10 36 ?o1 rfl kw_1179 ⟨rfl, rfl, rfl⟩ ((hM.o gx trivial rfl).1.trans f_x_36) dX10_isClaim_3 ?_
  case o1 => decide
  refine lv_iconst (v := 1) hx hb dX10_isClaim_6 ?o2 ?_
  case o2 => decide
  refine lv_isub hx hb dX10_isClaim_7 ?_
  have rg_1 := i32_r c0
  refine lv_topi (fun x_2 ex_2 => ?_)
  have zx_2 : x_2.toInt = c0.toInt - 1 := ?o3
  case o3 =>
    rw [ex_2]
    refine i32_sub rfl ?o4 ?o5 ?o6
    case o4 => decide
    case o5 => omega
    case o6 => omega
  have zc_0 : (0 : Int32).toInt = 0 := ?o7
  case o7 => decide
  refine hx_goi (hx_runS (As := [.int i1, .int (0 : Int32), .int x_2]) (rest := []) ⟨hx, hb, hml, hown, hts⟩ hW (t_X10_in l dC dI dA L h s.heap.size i1 (0 : Int32) x_2 hT) (va_cwS 3 hts (hx_gS kw_1445 kw_1443 kw_1444 kw_103) rfl rfl rfl (by decide +kernel) ⟨Nat.le_of_ble_eq_true rfl, Nat.le_of_ble_eq_true rfl⟩) rfl hl.1 rfl (Nat.le_of_ble_eq_true rfl) dX10_isClaim_8 ⟨Nat.le_of_ble_eq_true rfl, Nat.le_of_ble_eq_true rfl⟩) hW (fun r_5 L_3 h_4 H locs p_6 hW => ?_)
  obtain ⟨hr_7, hT, hs⟩ := p_6
  replace hT : hx_T T_tb L_3 h_4 := hT
  replace hs : hx_S T_tb [] L h L_3 h_4 := hs
  replace hM := hM.tr (hs.mono ?o8)
  case o8 => decide
  exact hx_retz hx hb hr (hx_nar01 (by omega)) hlk hW ⟨(by first | omega | (refine ⟨?_, ?_⟩ <;> omega)), hT, hM⟩ dX10_isClaim_11

def wNX10_isKinOf : Nat := 1305320053752144183215778759298873829143798054320540569102628633978058740920815131675
theorem wX10_isKinOf_c : hz_cd cX10_isKinOf wNX10_isKinOf 35 := ⟨by decide +kernel, by decide +kernel⟩
theorem dX10_isKinOf_0 : decode cX10_isKinOf 0 = .ok (.iload_n 1, 1) := dw_27 wX10_isKinOf_c rfl
theorem dX10_isKinOf_1 : decode cX10_isKinOf 1 = .ok (.iload_n 2, 1) := dw_28 wX10_isKinOf_c rfl
theorem dX10_isKinOf_2 : decode cX10_isKinOf 2 = .ok (.if_icmp .eq 27, 3) := dw_159 wX10_isKinOf_c 0 27 rfl rfl rfl
theorem dX10_isKinOf_5 : decode cX10_isKinOf 5 = .ok (.aload_n 0, 1) := dw_42 wX10_isKinOf_c rfl
theorem dX10_isKinOf_6 : decode cX10_isKinOf 6 = .ok (.getfield 53, 3) := dw_180 wX10_isKinOf_c 0 53 rfl rfl
theorem dX10_isKinOf_9 : decode cX10_isKinOf 9 = .ok (.iload_n 1, 1) := dw_27 wX10_isKinOf_c rfl
theorem dX10_isKinOf_10 : decode cX10_isKinOf 10 = .ok (.iaload, 1) := dw_46 wX10_isKinOf_c rfl
theorem dX10_isKinOf_11 : decode cX10_isKinOf 11 = .ok (.ifCond .lt 22, 3) := dw_155 wX10_isKinOf_c 0 22 rfl rfl rfl
theorem dX10_isKinOf_14 : decode cX10_isKinOf 14 = .ok (.aload_n 0, 1) := dw_42 wX10_isKinOf_c rfl
theorem dX10_isKinOf_15 : decode cX10_isKinOf 15 = .ok (.getfield 53, 3) := dw_180 wX10_isKinOf_c 0 53 rfl rfl
theorem dX10_isKinOf_18 : decode cX10_isKinOf 18 = .ok (.iload_n 1, 1) := dw_27 wX10_isKinOf_c rfl
theorem dX10_isKinOf_19 : decode cX10_isKinOf 19 = .ok (.iaload, 1) := dw_46 wX10_isKinOf_c rfl
theorem dX10_isKinOf_20 : decode cX10_isKinOf 20 = .ok (.aload_n 0, 1) := dw_42 wX10_isKinOf_c rfl
theorem dX10_isKinOf_21 : decode cX10_isKinOf 21 = .ok (.getfield 53, 3) := dw_180 wX10_isKinOf_c 0 53 rfl rfl
theorem dX10_isKinOf_24 : decode cX10_isKinOf 24 = .ok (.iload_n 2, 1) := dw_28 wX10_isKinOf_c rfl
theorem dX10_isKinOf_25 : decode cX10_isKinOf 25 = .ok (.iaload, 1) := dw_46 wX10_isKinOf_c rfl
theorem dX10_isKinOf_26 : decode cX10_isKinOf 26 = .ok (.if_icmp .ne 7, 3) := dw_160 wX10_isKinOf_c 0 7 rfl rfl rfl
theorem dX10_isKinOf_29 : decode cX10_isKinOf 29 = .ok (.iconst 1, 1) := dw_4 wX10_isKinOf_c rfl
theorem dX10_isKinOf_30 : decode cX10_isKinOf 30 = .ok (.goto 4, 3) := dw_167 wX10_isKinOf_c 0 4 rfl rfl rfl
theorem dX10_isKinOf_33 : decode cX10_isKinOf 33 = .ok (.iconst 0, 1) := dw_3 wX10_isKinOf_c rfl
theorem dX10_isKinOf_34 : decode cX10_isKinOf 34 = .ok (.ireturn, 1) := dw_172 wX10_isKinOf_c rfl
def wNX10_isSplit : Nat := 99915791037386316890749977896974985855570775436963467155989288221190845587372908536238915571130098976388212785517895150392715329417623155609764772395702878708571776297951075489367333666592427984782326057348536171967409693659910167458890094746909489782315667558414100650726555025358339
theorem wX10_isSplit_c : hz_cd cX10_isSplit wNX10_isSplit 118 := ⟨by decide +kernel, by decide +kernel⟩
theorem dX10_isSplit_0 : decode cX10_isSplit 0 = .ok (.iconst 0, 1) := dw_3 wX10_isSplit_c rfl
theorem dX10_isSplit_1 : decode cX10_isSplit 1 = .ok (.istore_n 3, 1) := dw_62 wX10_isSplit_c rfl
theorem dX10_isSplit_2 : decode cX10_isSplit 2 = .ok (.iconst 0, 1) := dw_3 wX10_isSplit_c rfl
theorem dX10_isSplit_3 : decode cX10_isSplit 3 = .ok (.istore 4, 2) := dw_54 wX10_isSplit_c 4 rfl
theorem dX10_isSplit_5 : decode cX10_isSplit 5 = .ok (.iconst 0, 1) := dw_3 wX10_isSplit_c rfl
theorem dX10_isSplit_6 : decode cX10_isSplit 6 = .ok (.istore 5, 2) := dw_54 wX10_isSplit_c 5 rfl
theorem dX10_isSplit_8 : decode cX10_isSplit 8 = .ok (.iload 5, 2) := dw_21 wX10_isSplit_c 5 rfl
theorem dX10_isSplit_10 : decode cX10_isSplit 10 = .ok (.aload_n 0, 1) := dw_42 wX10_isSplit_c rfl
theorem dX10_isSplit_11 : decode cX10_isSplit 11 = .ok (.getfield 367, 3) := dw_180 wX10_isSplit_c 1 111 rfl rfl
theorem dX10_isSplit_14 : decode cX10_isSplit 14 = .ok (.if_icmp .ge 82, 3) := dw_162 wX10_isSplit_c 0 82 rfl rfl rfl
theorem dX10_isSplit_17 : decode cX10_isSplit 17 = .ok (.aload_n 0, 1) := dw_42 wX10_isSplit_c rfl
theorem dX10_isSplit_18 : decode cX10_isSplit 18 = .ok (.getfield 81, 3) := dw_180 wX10_isSplit_c 0 81 rfl rfl
theorem dX10_isSplit_21 : decode cX10_isSplit 21 = .ok (.iload 5, 2) := dw_21 wX10_isSplit_c 5 rfl
theorem dX10_isSplit_23 : decode cX10_isSplit 23 = .ok (.iaload, 1) := dw_46 wX10_isSplit_c rfl
theorem dX10_isSplit_24 : decode cX10_isSplit 24 = .ok (.aload_n 0, 1) := dw_42 wX10_isSplit_c rfl
theorem dX10_isSplit_25 : decode cX10_isSplit 25 = .ok (.getfield 81, 3) := dw_180 wX10_isSplit_c 0 81 rfl rfl
theorem dX10_isSplit_28 : decode cX10_isSplit 28 = .ok (.iload_n 1, 1) := dw_27 wX10_isSplit_c rfl
theorem dX10_isSplit_29 : decode cX10_isSplit 29 = .ok (.iaload, 1) := dw_46 wX10_isSplit_c rfl
theorem dX10_isSplit_30 : decode cX10_isSplit 30 = .ok (.if_icmp .ne 60, 3) := dw_160 wX10_isSplit_c 0 60 rfl rfl rfl
theorem dX10_isSplit_33 : decode cX10_isSplit 33 = .ok (.aload_n 0, 1) := dw_42 wX10_isSplit_c rfl
theorem dX10_isSplit_34 : decode cX10_isSplit 34 = .ok (.getfield 84, 3) := dw_180 wX10_isSplit_c 0 84 rfl rfl
theorem dX10_isSplit_37 : decode cX10_isSplit 37 = .ok (.iload 5, 2) := dw_21 wX10_isSplit_c 5 rfl
theorem dX10_isSplit_39 : decode cX10_isSplit 39 = .ok (.iaload, 1) := dw_46 wX10_isSplit_c rfl
theorem dX10_isSplit_40 : decode cX10_isSplit 40 = .ok (.aload_n 0, 1) := dw_42 wX10_isSplit_c rfl
theorem dX10_isSplit_41 : decode cX10_isSplit 41 = .ok (.getfield 84, 3) := dw_180 wX10_isSplit_c 0 84 rfl rfl
theorem dX10_isSplit_44 : decode cX10_isSplit 44 = .ok (.iload_n 1, 1) := dw_27 wX10_isSplit_c rfl
theorem dX10_isSplit_45 : decode cX10_isSplit 45 = .ok (.iaload, 1) := dw_46 wX10_isSplit_c rfl
theorem dX10_isSplit_46 : decode cX10_isSplit 46 = .ok (.if_icmp .ne 44, 3) := dw_160 wX10_isSplit_c 0 44 rfl rfl rfl
theorem dX10_isSplit_49 : decode cX10_isSplit 49 = .ok (.aload_n 0, 1) := dw_42 wX10_isSplit_c rfl
theorem dX10_isSplit_50 : decode cX10_isSplit 50 = .ok (.getfield 99, 3) := dw_180 wX10_isSplit_c 0 99 rfl rfl
theorem dX10_isSplit_53 : decode cX10_isSplit 53 = .ok (.iload 5, 2) := dw_21 wX10_isSplit_c 5 rfl
theorem dX10_isSplit_55 : decode cX10_isSplit 55 = .ok (.iaload, 1) := dw_46 wX10_isSplit_c rfl
theorem dX10_isSplit_56 : decode cX10_isSplit 56 = .ok (.aload_n 0, 1) := dw_42 wX10_isSplit_c rfl
theorem dX10_isSplit_57 : decode cX10_isSplit 57 = .ok (.getfield 99, 3) := dw_180 wX10_isSplit_c 0 99 rfl rfl
theorem dX10_isSplit_60 : decode cX10_isSplit 60 = .ok (.iload_n 1, 1) := dw_27 wX10_isSplit_c rfl
theorem dX10_isSplit_61 : decode cX10_isSplit 61 = .ok (.iaload, 1) := dw_46 wX10_isSplit_c rfl
theorem dX10_isSplit_62 : decode cX10_isSplit 62 = .ok (.aload_n 0, 1) := dw_42 wX10_isSplit_c rfl
theorem dX10_isSplit_63 : decode cX10_isSplit 63 = .ok (.iload_n 2, 1) := dw_28 wX10_isSplit_c rfl
theorem dX10_isSplit_64 : decode cX10_isSplit 64 = .ok (.iconst 1, 1) := dw_4 wX10_isSplit_c rfl
theorem dX10_isSplit_65 : decode cX10_isSplit 65 = .ok (.invokevirtual 333, 3) := dw_182 wX10_isSplit_c 1 77 rfl rfl
theorem dX10_isSplit_68 : decode cX10_isSplit 68 = .ok (.isub, 1) := dw_100 wX10_isSplit_c rfl
theorem dX10_isSplit_69 : decode cX10_isSplit 69 = .ok (.if_icmp .ge 6, 3) := dw_162 wX10_isSplit_c 0 6 rfl rfl rfl
theorem dX10_isSplit_72 : decode cX10_isSplit 72 = .ok (.goto 18, 3) := dw_167 wX10_isSplit_c 0 18 rfl rfl rfl
theorem dX10_isSplit_75 : decode cX10_isSplit 75 = .ok (.iinc 3 1, 3) := dw_132 wX10_isSplit_c 3 1 rfl rfl rfl
theorem dX10_isSplit_78 : decode cX10_isSplit 78 = .ok (.iload 4, 2) := dw_21 wX10_isSplit_c 4 rfl
theorem dX10_isSplit_80 : decode cX10_isSplit 80 = .ok (.aload_n 0, 1) := dw_42 wX10_isSplit_c rfl
theorem dX10_isSplit_81 : decode cX10_isSplit 81 = .ok (.getfield 87, 3) := dw_180 wX10_isSplit_c 0 87 rfl rfl
theorem dX10_isSplit_84 : decode cX10_isSplit 84 = .ok (.iload 5, 2) := dw_21 wX10_isSplit_c 5 rfl
theorem dX10_isSplit_86 : decode cX10_isSplit 86 = .ok (.iaload, 1) := dw_46 wX10_isSplit_c rfl
theorem dX10_isSplit_87 : decode cX10_isSplit 87 = .ok (.iadd, 1) := dw_96 wX10_isSplit_c rfl
theorem dX10_isSplit_88 : decode cX10_isSplit 88 = .ok (.istore 4, 2) := dw_54 wX10_isSplit_c 4 rfl
theorem dX10_isSplit_90 : decode cX10_isSplit 90 = .ok (.iinc 5 1, 3) := dw_132 wX10_isSplit_c 5 1 rfl rfl rfl
theorem dX10_isSplit_93 : decode cX10_isSplit 93 = .ok (.goto (-85), 3) := dn_167 wX10_isSplit_c 255 171 rfl (by decide)
theorem dX10_isSplit_96 : decode cX10_isSplit 96 = .ok (.iload_n 3, 1) := dw_29 wX10_isSplit_c rfl
theorem dX10_isSplit_97 : decode cX10_isSplit 97 = .ok (.iconst 1, 1) := dw_4 wX10_isSplit_c rfl
theorem dX10_isSplit_98 : decode cX10_isSplit 98 = .ok (.if_icmp .le 18, 3) := dw_164 wX10_isSplit_c 0 18 rfl rfl rfl
theorem dX10_isSplit_101 : decode cX10_isSplit 101 = .ok (.iload 4, 2) := dw_21 wX10_isSplit_c 4 rfl
theorem dX10_isSplit_103 : decode cX10_isSplit 103 = .ok (.aload_n 0, 1) := dw_42 wX10_isSplit_c rfl
theorem dX10_isSplit_104 : decode cX10_isSplit 104 = .ok (.iload_n 2, 1) := dw_28 wX10_isSplit_c rfl
theorem dX10_isSplit_105 : decode cX10_isSplit 105 = .ok (.iconst 0, 1) := dw_3 wX10_isSplit_c rfl
theorem dX10_isSplit_106 : decode cX10_isSplit 106 = .ok (.invokevirtual 333, 3) := dw_182 wX10_isSplit_c 1 77 rfl rfl
theorem dX10_isSplit_109 : decode cX10_isSplit 109 = .ok (.if_icmp .le 7, 3) := dw_164 wX10_isSplit_c 0 7 rfl rfl rfl
theorem dX10_isSplit_112 : decode cX10_isSplit 112 = .ok (.iconst 1, 1) := dw_4 wX10_isSplit_c rfl
theorem dX10_isSplit_113 : decode cX10_isSplit 113 = .ok (.goto 4, 3) := dw_167 wX10_isSplit_c 0 4 rfl rfl rfl
theorem dX10_isSplit_116 : decode cX10_isSplit 116 = .ok (.iconst 0, 1) := dw_3 wX10_isSplit_c rfl
theorem dX10_isSplit_117 : decode cX10_isSplit 117 = .ok (.ireturn, 1) := dw_172 wX10_isSplit_c rfl
def wNX10_sits : Nat := 11981991905482232919559445323986876020951693183182845282590796628569826894746280418222640263231272486336242897277297197658526317213617985361819840695364271994915158007344727494510767912467715
theorem wX10_sits_c : hz_cd cX10_sits wNX10_sits 79 := ⟨by decide +kernel, by decide +kernel⟩
theorem dX10_sits_0 : decode cX10_sits 0 = .ok (.iconst 0, 1) := dw_3 wX10_sits_c rfl
theorem dX10_sits_1 : decode cX10_sits 1 = .ok (.istore_n 2, 1) := dw_61 wX10_sits_c rfl
theorem dX10_sits_2 : decode cX10_sits 2 = .ok (.iconst 0, 1) := dw_3 wX10_sits_c rfl
theorem dX10_sits_3 : decode cX10_sits 3 = .ok (.istore_n 3, 1) := dw_62 wX10_sits_c rfl
theorem dX10_sits_4 : decode cX10_sits 4 = .ok (.iload_n 3, 1) := dw_29 wX10_sits_c rfl
theorem dX10_sits_5 : decode cX10_sits 5 = .ok (.aload_n 0, 1) := dw_42 wX10_sits_c rfl
theorem dX10_sits_6 : decode cX10_sits 6 = .ok (.getfield 337, 3) := dw_180 wX10_sits_c 1 81 rfl rfl
theorem dX10_sits_9 : decode cX10_sits 9 = .ok (.if_icmp .ge 68, 3) := dw_162 wX10_sits_c 0 68 rfl rfl rfl
theorem dX10_sits_12 : decode cX10_sits 12 = .ok (.aload_n 0, 1) := dw_42 wX10_sits_c rfl
theorem dX10_sits_13 : decode cX10_sits 13 = .ok (.getfield 60, 3) := dw_180 wX10_sits_c 0 60 rfl rfl
theorem dX10_sits_16 : decode cX10_sits 16 = .ok (.iload_n 3, 1) := dw_29 wX10_sits_c rfl
theorem dX10_sits_17 : decode cX10_sits 17 = .ok (.baload, 1) := dw_51 wX10_sits_c rfl
theorem dX10_sits_18 : decode cX10_sits 18 = .ok (.ifCond .eq 53, 3) := dw_153 wX10_sits_c 0 53 rfl rfl rfl
theorem dX10_sits_21 : decode cX10_sits 21 = .ok (.aload_n 0, 1) := dw_42 wX10_sits_c rfl
theorem dX10_sits_22 : decode cX10_sits 22 = .ok (.getfield 56, 3) := dw_180 wX10_sits_c 0 56 rfl rfl
theorem dX10_sits_25 : decode cX10_sits 25 = .ok (.iload_n 3, 1) := dw_29 wX10_sits_c rfl
theorem dX10_sits_26 : decode cX10_sits 26 = .ok (.baload, 1) := dw_51 wX10_sits_c rfl
theorem dX10_sits_27 : decode cX10_sits 27 = .ok (.ifCond .ne 44, 3) := dw_154 wX10_sits_c 0 44 rfl rfl rfl
theorem dX10_sits_30 : decode cX10_sits 30 = .ok (.aload_n 0, 1) := dw_42 wX10_sits_c rfl
theorem dX10_sits_31 : decode cX10_sits 31 = .ok (.iload_n 3, 1) := dw_29 wX10_sits_c rfl
theorem dX10_sits_32 : decode cX10_sits 32 = .ok (.aload_n 0, 1) := dw_42 wX10_sits_c rfl
theorem dX10_sits_33 : decode cX10_sits 33 = .ok (.getfield 81, 3) := dw_180 wX10_sits_c 0 81 rfl rfl
theorem dX10_sits_36 : decode cX10_sits 36 = .ok (.iload_n 1, 1) := dw_27 wX10_sits_c rfl
theorem dX10_sits_37 : decode cX10_sits 37 = .ok (.iaload, 1) := dw_46 wX10_sits_c rfl
theorem dX10_sits_38 : decode cX10_sits 38 = .ok (.invokevirtual 382, 3) := dw_182 wX10_sits_c 1 126 rfl rfl
theorem dX10_sits_41 : decode cX10_sits 41 = .ok (.ifCond .ne 30, 3) := dw_154 wX10_sits_c 0 30 rfl rfl rfl
theorem dX10_sits_44 : decode cX10_sits 44 = .ok (.aload_n 0, 1) := dw_42 wX10_sits_c rfl
theorem dX10_sits_45 : decode cX10_sits 45 = .ok (.iload_n 3, 1) := dw_29 wX10_sits_c rfl
theorem dX10_sits_46 : decode cX10_sits 46 = .ok (.aload_n 0, 1) := dw_42 wX10_sits_c rfl
theorem dX10_sits_47 : decode cX10_sits 47 = .ok (.getfield 84, 3) := dw_180 wX10_sits_c 0 84 rfl rfl
theorem dX10_sits_50 : decode cX10_sits 50 = .ok (.iload_n 1, 1) := dw_27 wX10_sits_c rfl
theorem dX10_sits_51 : decode cX10_sits 51 = .ok (.iaload, 1) := dw_46 wX10_sits_c rfl
theorem dX10_sits_52 : decode cX10_sits 52 = .ok (.invokevirtual 382, 3) := dw_182 wX10_sits_c 1 126 rfl rfl
theorem dX10_sits_55 : decode cX10_sits 55 = .ok (.ifCond .eq 6, 3) := dw_153 wX10_sits_c 0 6 rfl rfl rfl
theorem dX10_sits_58 : decode cX10_sits 58 = .ok (.goto 13, 3) := dw_167 wX10_sits_c 0 13 rfl rfl rfl
theorem dX10_sits_61 : decode cX10_sits 61 = .ok (.aload_n 0, 1) := dw_42 wX10_sits_c rfl
theorem dX10_sits_62 : decode cX10_sits 62 = .ok (.getfield 159, 3) := dw_180 wX10_sits_c 0 159 rfl rfl
theorem dX10_sits_65 : decode cX10_sits 65 = .ok (.iload_n 2, 1) := dw_28 wX10_sits_c rfl
theorem dX10_sits_66 : decode cX10_sits 66 = .ok (.iload_n 3, 1) := dw_29 wX10_sits_c rfl
theorem dX10_sits_67 : decode cX10_sits 67 = .ok (.iastore, 1) := dw_79 wX10_sits_c rfl
theorem dX10_sits_68 : decode cX10_sits 68 = .ok (.iinc 2 1, 3) := dw_132 wX10_sits_c 2 1 rfl rfl rfl
theorem dX10_sits_71 : decode cX10_sits 71 = .ok (.iinc 3 1, 3) := dw_132 wX10_sits_c 3 1 rfl rfl rfl
theorem dX10_sits_74 : decode cX10_sits 74 = .ok (.goto (-70), 3) := dn_167 wX10_sits_c 255 186 rfl (by decide)
theorem dX10_sits_77 : decode cX10_sits 77 = .ok (.iload_n 2, 1) := dw_28 wX10_sits_c rfl
theorem dX10_sits_78 : decode cX10_sits 78 = .ok (.ireturn, 1) := dw_172 wX10_sits_c rfl
def wNX10_draws : Nat := 366515605617316603527615953565960086547144010021707173356879970736017115385082472276400058475455967218494850042361927650807824377911548831543606178743556983114085088649563503034035068007726416552333000235838132099108291469015356473129966338389312285322855423582763496989
theorem wX10_draws_c : hz_cd cX10_draws wNX10_draws 112 := ⟨by decide +kernel, by decide +kernel⟩
theorem dX10_draws_0 : decode cX10_draws 0 = .ok (.iload_n 3, 1) := dw_29 wX10_draws_c rfl
theorem dX10_draws_1 : decode cX10_draws 1 = .ok (.istore 4, 2) := dw_54 wX10_draws_c 4 rfl
theorem dX10_draws_3 : decode cX10_draws 3 = .ok (.iconst 0, 1) := dw_3 wX10_draws_c rfl
theorem dX10_draws_4 : decode cX10_draws 4 = .ok (.istore 5, 2) := dw_54 wX10_draws_c 5 rfl
theorem dX10_draws_6 : decode cX10_draws 6 = .ok (.iload 5, 2) := dw_21 wX10_draws_c 5 rfl
theorem dX10_draws_8 : decode cX10_draws 8 = .ok (.iload_n 2, 1) := dw_28 wX10_draws_c rfl
theorem dX10_draws_9 : decode cX10_draws 9 = .ok (.if_icmp .ge 102, 3) := dw_162 wX10_draws_c 0 102 rfl rfl rfl
theorem dX10_draws_12 : decode cX10_draws 12 = .ok (.iload 5, 2) := dw_21 wX10_draws_c 5 rfl
theorem dX10_draws_14 : decode cX10_draws 14 = .ok (.iconst 1, 1) := dw_4 wX10_draws_c rfl
theorem dX10_draws_15 : decode cX10_draws 15 = .ok (.iadd, 1) := dw_96 wX10_draws_c rfl
theorem dX10_draws_16 : decode cX10_draws 16 = .ok (.istore 6, 2) := dw_54 wX10_draws_c 6 rfl
theorem dX10_draws_18 : decode cX10_draws 18 = .ok (.iload 6, 2) := dw_21 wX10_draws_c 6 rfl
theorem dX10_draws_20 : decode cX10_draws 20 = .ok (.iload_n 2, 1) := dw_28 wX10_draws_c rfl
theorem dX10_draws_21 : decode cX10_draws 21 = .ok (.if_icmp .ge 84, 3) := dw_162 wX10_draws_c 0 84 rfl rfl rfl
theorem dX10_draws_24 : decode cX10_draws 24 = .ok (.iload 6, 2) := dw_21 wX10_draws_c 6 rfl
theorem dX10_draws_26 : decode cX10_draws 26 = .ok (.iconst 1, 1) := dw_4 wX10_draws_c rfl
theorem dX10_draws_27 : decode cX10_draws 27 = .ok (.iadd, 1) := dw_96 wX10_draws_c rfl
theorem dX10_draws_28 : decode cX10_draws 28 = .ok (.istore 7, 2) := dw_54 wX10_draws_c 7 rfl
theorem dX10_draws_30 : decode cX10_draws 30 = .ok (.iload 7, 2) := dw_21 wX10_draws_c 7 rfl
theorem dX10_draws_32 : decode cX10_draws 32 = .ok (.iload_n 2, 1) := dw_28 wX10_draws_c rfl
theorem dX10_draws_33 : decode cX10_draws 33 = .ok (.if_icmp .ge 66, 3) := dw_162 wX10_draws_c 0 66 rfl rfl rfl
theorem dX10_draws_36 : decode cX10_draws 36 = .ok (.iload 4, 2) := dw_21 wX10_draws_c 4 rfl
theorem dX10_draws_38 : decode cX10_draws 38 = .ok (.ifCond .ne 52, 3) := dw_154 wX10_draws_c 0 52 rfl rfl rfl
theorem dX10_draws_41 : decode cX10_draws 41 = .ok (.aload_n 0, 1) := dw_42 wX10_draws_c rfl
theorem dX10_draws_42 : decode cX10_draws 42 = .ok (.getfield 126, 3) := dw_180 wX10_draws_c 0 126 rfl rfl
theorem dX10_draws_45 : decode cX10_draws 45 = .ok (.iconst 3, 1) := dw_6 wX10_draws_c rfl
theorem dX10_draws_46 : decode cX10_draws 46 = .ok (.iload_n 1, 1) := dw_27 wX10_draws_c rfl
theorem dX10_draws_47 : decode cX10_draws 47 = .ok (.imul, 1) := dw_104 wX10_draws_c rfl
theorem dX10_draws_48 : decode cX10_draws 48 = .ok (.aload_n 0, 1) := dw_42 wX10_draws_c rfl
theorem dX10_draws_49 : decode cX10_draws 49 = .ok (.getfield 159, 3) := dw_180 wX10_draws_c 0 159 rfl rfl
theorem dX10_draws_52 : decode cX10_draws 52 = .ok (.iload 5, 2) := dw_21 wX10_draws_c 5 rfl
theorem dX10_draws_54 : decode cX10_draws 54 = .ok (.iaload, 1) := dw_46 wX10_draws_c rfl
theorem dX10_draws_55 : decode cX10_draws 55 = .ok (.iastore, 1) := dw_79 wX10_draws_c rfl
theorem dX10_draws_56 : decode cX10_draws 56 = .ok (.aload_n 0, 1) := dw_42 wX10_draws_c rfl
theorem dX10_draws_57 : decode cX10_draws 57 = .ok (.getfield 126, 3) := dw_180 wX10_draws_c 0 126 rfl rfl
theorem dX10_draws_60 : decode cX10_draws 60 = .ok (.iconst 3, 1) := dw_6 wX10_draws_c rfl
theorem dX10_draws_61 : decode cX10_draws 61 = .ok (.iload_n 1, 1) := dw_27 wX10_draws_c rfl
theorem dX10_draws_62 : decode cX10_draws 62 = .ok (.imul, 1) := dw_104 wX10_draws_c rfl
theorem dX10_draws_63 : decode cX10_draws 63 = .ok (.iconst 1, 1) := dw_4 wX10_draws_c rfl
theorem dX10_draws_64 : decode cX10_draws 64 = .ok (.iadd, 1) := dw_96 wX10_draws_c rfl
theorem dX10_draws_65 : decode cX10_draws 65 = .ok (.aload_n 0, 1) := dw_42 wX10_draws_c rfl
theorem dX10_draws_66 : decode cX10_draws 66 = .ok (.getfield 159, 3) := dw_180 wX10_draws_c 0 159 rfl rfl
theorem dX10_draws_69 : decode cX10_draws 69 = .ok (.iload 6, 2) := dw_21 wX10_draws_c 6 rfl
theorem dX10_draws_71 : decode cX10_draws 71 = .ok (.iaload, 1) := dw_46 wX10_draws_c rfl
theorem dX10_draws_72 : decode cX10_draws 72 = .ok (.iastore, 1) := dw_79 wX10_draws_c rfl
theorem dX10_draws_73 : decode cX10_draws 73 = .ok (.aload_n 0, 1) := dw_42 wX10_draws_c rfl
theorem dX10_draws_74 : decode cX10_draws 74 = .ok (.getfield 126, 3) := dw_180 wX10_draws_c 0 126 rfl rfl
theorem dX10_draws_77 : decode cX10_draws 77 = .ok (.iconst 3, 1) := dw_6 wX10_draws_c rfl
theorem dX10_draws_78 : decode cX10_draws 78 = .ok (.iload_n 1, 1) := dw_27 wX10_draws_c rfl
theorem dX10_draws_79 : decode cX10_draws 79 = .ok (.imul, 1) := dw_104 wX10_draws_c rfl
theorem dX10_draws_80 : decode cX10_draws 80 = .ok (.iconst 2, 1) := dw_5 wX10_draws_c rfl
theorem dX10_draws_81 : decode cX10_draws 81 = .ok (.iadd, 1) := dw_96 wX10_draws_c rfl
theorem dX10_draws_82 : decode cX10_draws 82 = .ok (.aload_n 0, 1) := dw_42 wX10_draws_c rfl
theorem dX10_draws_83 : decode cX10_draws 83 = .ok (.getfield 159, 3) := dw_180 wX10_draws_c 0 159 rfl rfl
theorem dX10_draws_86 : decode cX10_draws 86 = .ok (.iload 7, 2) := dw_21 wX10_draws_c 7 rfl
theorem dX10_draws_88 : decode cX10_draws 88 = .ok (.iaload, 1) := dw_46 wX10_draws_c rfl
theorem dX10_draws_89 : decode cX10_draws 89 = .ok (.iastore, 1) := dw_79 wX10_draws_c rfl
theorem dX10_draws_90 : decode cX10_draws 90 = .ok (.iinc 4 (-1), 3) := dn_132 wX10_draws_c 4 255 rfl (by decide)
theorem dX10_draws_93 : decode cX10_draws 93 = .ok (.iinc 7 1, 3) := dw_132 wX10_draws_c 7 1 rfl rfl rfl
theorem dX10_draws_96 : decode cX10_draws 96 = .ok (.goto (-66), 3) := dn_167 wX10_draws_c 255 190 rfl (by decide)
theorem dX10_draws_99 : decode cX10_draws 99 = .ok (.iinc 6 1, 3) := dw_132 wX10_draws_c 6 1 rfl rfl rfl
theorem dX10_draws_102 : decode cX10_draws 102 = .ok (.goto (-84), 3) := dn_167 wX10_draws_c 255 172 rfl (by decide)
theorem dX10_draws_105 : decode cX10_draws 105 = .ok (.iinc 5 1, 3) := dw_132 wX10_draws_c 5 1 rfl rfl rfl
theorem dX10_draws_108 : decode cX10_draws 108 = .ok (.goto (-102), 3) := dn_167 wX10_draws_c 255 154 rfl (by decide)
theorem dX10_draws_111 : decode cX10_draws 111 = .ok (.return_, 1) := dw_177 wX10_draws_c rfl
end
