/-! PURE FACTS for the reference's reader of texts and its small stack -/
def hx_up (f : Nat → Int32) (k : Nat) (v : Int32) : Nat → Int32 := fun j => if j = k then v else f j
theorem hx_up_at {f : Nat → Int32} {k : Nat} {v : Int32} : hx_up f k v k = v := by simp [hx_up]
theorem hx_up_ne {f : Nat → Int32} {k j : Nat} {v : Int32} (h : j ≠ k) : hx_up f k v j = f j := by simp [hx_up, h]
theorem hx_pi_fun (h : hx_h) (a k : Nat) (x : Int32) : (hx_pi h a k x).2.1 a = hx_up (h.2.1 a) k x := by
  funext j
  simp [hx_pi, hx_up]
/-- a comparison as the stack's steps have it -/
def hx_okc (s : Int) : Bool := decide (1000000 ≤ s) && decide (s < 9000000) && decide (s % 100000 < 10008)
/-- how high the stack stands behind n steps; none: they can't be gone through -/
def hx_rp (f : Nat → Int32) : Nat → Option Nat
  | 0 => some 0
  | n + 1 => match hx_rp f n with
    | none => none
    | some d => if hx_okc (f n).toInt = true then some (d + 1) else if (f n).toInt = 2 then (if 1 ≤ d then some d else none) else if (f n).toInt = 0 ∨ (f n).toInt = 1 then (if 2 ≤ d then some (d - 1) else none) else none
theorem hx_rp_s {f : Nat → Int32} {n : Nat} : hx_rp f (n + 1) = (match hx_rp f n with
    | none => none
    | some d => if hx_okc (f n).toInt = true then some (d + 1) else if (f n).toInt = 2 then (if 1 ≤ d then some d else none) else if (f n).toInt = 0 ∨ (f n).toInt = 1 then (if 2 ≤ d then some (d - 1) else none) else none) := rfl
theorem hx_rp_congr {f g : Nat → Int32} : ∀ n, (∀ j, j < n → f j = g j) → hx_rp f n = hx_rp g n := by
  intro n
  induction n with
  | zero => intro _; rfl
  | succ n ih =>
    intro h
    rw [hx_rp_s, hx_rp_s, ih (fun j hj => h j (by omega)), h n (by omega)]
theorem hx_rp_up {f : Nat → Int32} {n : Nat} {v : Int32} : hx_rp (hx_up f n v) n = hx_rp f n := hx_rp_congr n (fun j hj => hx_up_ne (by omega))
theorem hx_rp_c {f : Nat → Int32} {n d : Nat} {v : Int32} (h : hx_rp f n = some d) (hv : hx_okc v.toInt = true) : hx_rp (hx_up f n v) (n + 1) = some (d + 1) := by
  rw [hx_rp_s, hx_rp_up, h, hx_up_at]
  simp [hv]
theorem hx_rp_n {f : Nat → Int32} {n d : Nat} {v : Int32} (h : hx_rp f n = some d) (hv : v.toInt = 2) (hd : 1 ≤ d) : hx_rp (hx_up f n v) (n + 1) = some d := by
  rw [hx_rp_s, hx_rp_up, h, hx_up_at, hv]
  simp [hx_okc, hd]
theorem hx_rp_j {f : Nat → Int32} {n d : Nat} {v : Int32} (h : hx_rp f n = some d) (hv : v.toInt = 0 ∨ v.toInt = 1) (hd : 2 ≤ d) : hx_rp (hx_up f n v) (n + 1) = some (d - 1) := by
  rw [hx_rp_s, hx_rp_up, h, hx_up_at]
  rcases hv with hv | hv <;> rw [hv] <;> simp [hx_okc, hd]
/-- joints that wait, openings and nots that wait -/
def hx_ao (f : Nat → Int32) : Nat → Nat
  | 0 => 0
  | n + 1 => hx_ao f n + (if (f n).toInt = 0 ∨ (f n).toInt = 1 then 1 else 0)
def hx_dp (f : Nat → Int32) : Nat → Nat
  | 0 => 0
  | n + 1 => hx_dp f n + (if (f n).toInt = 2 ∨ (f n).toInt = 100 then 1 else 0)
def hx_nn (f : Nat → Int32) : Nat → Nat
  | 0 => 0
  | n + 1 => hx_nn f n + (if (f n).toInt = 2 then 1 else 0)
def hx_oe (f : Nat → Int32) (n : Nat) : Prop := ∀ k, k < n → (f k).toInt = 0 ∨ (f k).toInt = 1 ∨ (f k).toInt = 2 ∨ (f k).toInt = 100
theorem hx_cnt_congr {f g : Nat → Int32} : ∀ n, (∀ j, j < n → f j = g j) → hx_ao f n = hx_ao g n ∧ hx_dp f n = hx_dp g n ∧ hx_nn f n = hx_nn g n := by
  intro n
  induction n with
  | zero => intro _; exact ⟨rfl, rfl, rfl⟩
  | succ n ih =>
    intro h
    obtain ⟨a, b, c⟩ := ih (fun j hj => h j (by omega))
    simp only [hx_ao, hx_dp, hx_nn, a, b, c, h n (by omega)]
    exact ⟨trivial, trivial, trivial⟩
theorem hx_cnt_up {f : Nat → Int32} {n : Nat} {v : Int32} : hx_ao (hx_up f n v) n = hx_ao f n ∧ hx_dp (hx_up f n v) n = hx_dp f n ∧ hx_nn (hx_up f n v) n = hx_nn f n := hx_cnt_congr n (fun j hj => hx_up_ne (by omega))
theorem hx_cnt_sum {f : Nat → Int32} : ∀ n, hx_oe f n → hx_ao f n + hx_dp f n = n ∧ hx_nn f n ≤ hx_dp f n := by
  intro n
  induction n with
  | zero => intro _; exact ⟨rfl, Nat.le_refl _⟩
  | succ n ih =>
    intro h
    obtain ⟨a, b⟩ := ih (fun k hk => h k (by omega))
    have := h n (by omega)
    simp only [hx_ao, hx_dp, hx_nn]
    rcases this with z | z | z | z <;> simp [z] <;> omega
/-- the reader's state in what an ACT proves: b is 1 where a whole comparison stands -/
def hx_Q (b : Nat) (C nx st op : Int) (sf of : Nat → Int32) : Prop := 0 ≤ st ∧ 0 ≤ op ∧ 0 ≤ C ∧ C ≤ 20 ∧ nx ≤ 400 ∧ hx_oe of op.toNat ∧ hx_dp of op.toNat ≤ 8 ∧ ∃ N J : Int, 0 ≤ N ∧ 0 ≤ J ∧ st + hx_ao of op.toNat + hx_nn of op.toNat = N + C + J ∧ 3 * N + 5 * C + 2 * J + 5 ≤ nx ∧ N ≤ 8 * C + (if b = 0 then (hx_dp of op.toNat : Int) else 0) ∧ J + b ≤ C ∧ (hx_ao of op.toNat : Int) ≤ J ∧ hx_rp sf st.toNat = some (hx_ao of op.toNat + b)
theorem hx_Q_start {nx : Int} {sf of : Nat → Int32} (h : 5 ≤ nx) (h4 : nx ≤ 400) : hx_Q 0 0 nx 0 0 sf of := by
  refine ⟨by omega, by omega, by omega, by omega, h4, fun k hk => absurd hk (by simp), by simp [hx_dp], 0, 0, by omega, by omega, ?_, by omega, ?_, by omega, by simp [hx_ao], rfl⟩
  · simp [hx_ao, hx_nn]
  · simp [hx_dp]
/-- room for a comparison's step -/
theorem hx_Q_room {C nx st op : Int} {sf of : Nat → Int32} (q : hx_Q 0 C nx st op sf of) (h : nx + 5 ≤ 400) : st ≤ 126 := by
  obtain ⟨h1, h2, h3, h3b, h4, h5, h6, N, J, n1, n2, n3, n4, n5, n6, n7, n8⟩ := q
  simp only [if_true] at n5
  omega
theorem hx_Q_op {b : Nat} {C nx st op : Int} {sf of : Nat → Int32} (q : hx_Q b C nx st op sf of) : op ≤ 28 := by
  obtain ⟨h1, h2, h3, h3b, h4, h5, h6, N, J, n1, n2, n3, n4, n5, n6, n7, n8⟩ := q
  obtain ⟨a, -⟩ := hx_cnt_sum op.toNat h5
  omega
/-- a comparison is written -/
theorem hx_Q_cmp {C nx nx1 st op : Int} {sf of : Nat → Int32} {v : Int32} {k : Nat} (q : hx_Q 0 C nx st op sf of) (hC : C < 20) (h : nx + 5 ≤ nx1) (h4 : nx1 ≤ 400) (hv : hx_okc v.toInt = true) (hk : (k : Int) = st) : hx_Q 1 (C + 1) nx1 (st + 1) op (hx_up sf k v) of := by
  obtain ⟨h1, h2, h3, h3b, -, h5, h6, N, J, n1, n2, n3, n4, n5, n6, n7, n8⟩ := q
  simp only [if_true] at n5
  have e : (st + 1).toNat = k + 1 := by omega
  have e0 : st.toNat = k := by omega
  refine ⟨by omega, h2, by omega, by omega, h4, h5, h6, N, J, n1, n2, by omega, by omega, ?_, by omega, n7, ?_⟩
  · simp; omega
  · rw [e]
    rw [e0] at n8
    exact hx_rp_c n8 hv
theorem hx_oe_up {of : Nat → Int32} {k : Nat} {v : Int32} (h : hx_oe of k) (hv : v.toInt = 0 ∨ v.toInt = 1 ∨ v.toInt = 2 ∨ v.toInt = 100) : hx_oe (hx_up of k v) (k + 1) := by
  intro j hj
  by_cases z : j = k
  · subst z; rw [hx_up_at]; exact hv
  · rw [hx_up_ne z]; exact h j (by omega)
/-- a not or an opening is laid on the pile -/
theorem hx_Q_open {C nx nx1 st op : Int} {sf of : Nat → Int32} {v : Int32} {k : Nat} (q : hx_Q 0 C nx st op sf of) (hd : (hx_dp of op.toNat : Int) < 8) (hv : (v.toInt = 2 ∧ nx + 3 ≤ nx1) ∨ (v.toInt = 100 ∧ nx ≤ nx1)) (h4 : nx1 ≤ 400) (hk : (k : Int) = op) : hx_Q 0 C nx1 st (op + 1) sf (hx_up of k v) := by
  obtain ⟨h1, h2, h3, h3b, -, h5, h6, N, J, n1, n2, n3, n4, n5, n6, n7, n8⟩ := q
  simp only [if_true] at n5
  have e : (op + 1).toNat = k + 1 := by omega
  have e0 : op.toNat = k := by omega
  rw [e0] at h5 h6 hd n3 n5 n7 n8
  obtain ⟨c1, c2, c3⟩ := hx_cnt_up (f := of) (n := k) (v := v)
  refine ⟨h1, by omega, h3, h3b, h4, by rw [e]; exact hx_oe_up h5 (by omega), ?_, ?_⟩
  · rw [e]; simp only [hx_dp, hx_up_at, c2]; split <;> omega
  · rw [e]
    simp only [hx_ao, hx_dp, hx_nn, hx_up_at, c1, c2, c3]
    rcases hv with ⟨hv, hn⟩ | ⟨hv, hn⟩
    · refine ⟨N + 1, J, by omega, n2, ?_, by omega, ?_, n6, ?_, ?_⟩ <;> simp only [hv] <;> simp <;> first | omega | exact n8
    · refine ⟨N, J, n1, n2, ?_, by omega, ?_, n6, ?_, ?_⟩ <;> simp only [hv] <;> simp <;> first | omega | exact n8
/-- a joint is laid on the pile -/
theorem hx_Q_join {C nx nx1 st op : Int} {sf of : Nat → Int32} {v : Int32} {k : Nat} (q : hx_Q 1 C nx st op sf of) (hv : v.toInt = 0 ∨ v.toInt = 1) (hn : nx + 2 ≤ nx1) (h4 : nx1 ≤ 400) (hk : (k : Int) = op) : hx_Q 0 C nx1 st (op + 1) sf (hx_up of k v) := by
  obtain ⟨h1, h2, h3, h3b, -, h5, h6, N, J, n1, n2, n3, n4, n5, n6, n7, n8⟩ := q
  have n5' : N ≤ 8 * C := by simpa using n5
  have e : (op + 1).toNat = k + 1 := by omega
  have e0 : op.toNat = k := by omega
  rw [e0] at h5 h6 n3 n7 n8
  obtain ⟨c1, c2, c3⟩ := hx_cnt_up (f := of) (n := k) (v := v)
  refine ⟨h1, by omega, h3, h3b, h4, by rw [e]; exact hx_oe_up h5 (by omega), ?_, N, J + 1, n1, by omega, ?_, by omega, ?_, by omega, ?_, ?_⟩
  · rw [e]; simp only [hx_dp, hx_up_at, c2]; split <;> omega
  · rw [e]; simp only [hx_ao, hx_nn, hx_up_at, c1, c3]; rcases hv with hv | hv <;> simp [hv] <;> omega
  · rw [e]; simp only [hx_dp, hx_up_at, c2, if_true]; split <;> omega
  · rw [e]; simp only [hx_ao, hx_up_at, c1]; rcases hv with hv | hv <;> simp [hv] <;> omega
  · rw [e]; simp only [hx_ao, hx_up_at, c1]; rcases hv with hv | hv <;> simp [hv] <;> exact n8
/-- the uppermost of the pile is written as a step -/
theorem hx_Q_pop {C nx st op : Int} {sf of : Nat → Int32} {v : Int32} {k : Nat} (q : hx_Q 1 C nx st op sf of) (hop : 0 < op) (hv : v = of (op.toNat - 1)) (h2 : v.toInt = 0 ∨ v.toInt = 1 ∨ v.toInt = 2) (hk : (k : Int) = st) : hx_Q 1 C nx (st + 1) (op - 1) (hx_up sf k v) of ∧ st ≤ 126 := by
  have e1 : ∃ o : Nat, op.toNat = o + 1 := ⟨op.toNat - 1, by omega⟩
  obtain ⟨o, ho⟩ := e1
  have hv' : v = of o := by rw [hv, ho]; rfl
  have q0 := q
  obtain ⟨h1, h2a, h3, h3b, h4, h5, h6, N, J, n1, n2, n3, n4, n5, n6, n7, n8⟩ := q
  have n5' : N ≤ 8 * C := by simpa using n5
  have e : (st + 1).toNat = k + 1 := by omega
  have e0 : st.toNat = k := by omega
  have eo : (op - 1).toNat = o := by omega
  rw [ho] at h5 h6 n3 n7 n8
  rw [e0] at n8
  simp only [hx_ao, hx_dp, hx_nn, ← hv'] at h6 n3 n7 n8
  refine ⟨⟨by omega, by omega, h3, h3b, h4, by rw [eo]; exact fun j hj => h5 j (by omega), ?_, N, J, n1, n2, ?_, n4, by simp; omega, n6, ?_, ?_⟩, ?_⟩
  · rw [eo]; omega
  · rw [eo]; rcases h2 with h2 | h2 | h2 <;> simp [h2] at n3 <;> omega
  · rw [eo]; omega
  · rw [eo, e]
    rcases h2 with h2 | h2 | h2
    · simp [h2] at n8; exact (hx_rp_j n8 (Or.inl h2) (by omega)).trans (by simp)
    · simp [h2] at n8; exact (hx_rp_j n8 (Or.inr h2) (by omega)).trans (by simp)
    · simp [h2] at n8; exact hx_rp_n n8 h2 (by omega)
  · rcases h2 with h2 | h2 | h2 <;> simp [h2] at n3 <;> omega
/-- an opening is taken off the pile -/
theorem hx_Q_shut {C nx nx1 st op : Int} {sf of : Nat → Int32} (q : hx_Q 1 C nx st op sf of) (hop : 0 < op) (hv : (of (op.toNat - 1)).toInt = 100) (hn : nx ≤ nx1) (h4 : nx1 ≤ 400) : hx_Q 1 C nx1 st (op - 1) sf of := by
  have e1 : ∃ o : Nat, op.toNat = o + 1 := ⟨op.toNat - 1, by omega⟩
  obtain ⟨o, ho⟩ := e1
  have hv' : (of o).toInt = 100 := by rw [ho] at hv; exact hv
  obtain ⟨h1, h2a, h3, h3b, -, h5, h6, N, J, n1, n2, n3, n4, n5, n6, n7, n8⟩ := q
  have n5' : N ≤ 8 * C := by simpa using n5
  have eo : (op - 1).toNat = o := by omega
  rw [ho] at h5 h6 n3 n7 n8
  simp [hx_ao, hx_dp, hx_nn, hv'] at h6 n3 n7 n8
  refine ⟨h1, by omega, h3, h3b, h4, by rw [eo]; exact fun j hj => h5 j (by omega), by rw [eo]; omega, N, J, n1, n2, by rw [eo]; omega, by omega, by simp; omega, n6, by rw [eo]; omega, by rw [eo]; exact n8⟩
/-- the words of the reference -/
def P_words : Nat → Int32 := fun j => ([111, 114, 0, 0, 0, 0, 0, 97, 110, 100, 0, 0, 0, 0, 110, 111, 116, 0, 0, 0, 0, 111, 97, 116, 104, 0, 0, 0, 100, 101, 110, 105, 101, 100, 0, 110, 111, 116, 101, 0, 0, 0, 119, 105, 116, 110, 101, 115, 115, 111, 119, 110, 0, 0, 0, 0, 111, 116, 104, 101, 114, 0, 0, 97, 108, 105, 107, 101, 0, 0, 99, 108, 97, 105, 109, 101, 100, 109, 111, 115, 116, 0, 0, 0, 115, 112, 108, 105, 116, 0, 0, 119, 101, 101, 107, 0, 0, 0, 107, 101, 101, 112, 0, 0, 0, 108, 97, 116, 101, 0, 0, 0, 103, 97, 111, 108, 0, 0, 0, 108, 111, 110, 103, 101, 115, 116, 97, 103, 101, 0, 0, 0, 0, 99, 111, 115, 116, 0, 0, 0, 112, 114, 111, 118, 101, 0, 0, 115, 117, 109, 109, 111, 110, 115, 104, 101, 97, 114, 105, 110, 103, 111, 114, 100, 101, 114, 0, 0, 115, 101, 105, 122, 117, 114, 101] : List Int32).getD j 0
def hx_wd (f : Nat → Int32) : Prop := ∀ j, j < 175 → f j = P_words j
/-- no end of a word ahead of n -/
def hx_wp (f : Nat → Int32) (w n : Int) : Prop := ∀ j : Nat, (j : Int) < n → (f (7 * w.toNat + j)).toInt ≠ 0
theorem hx_wp0 {f : Nat → Int32} {w : Int} : hx_wp f w 0 := fun j hj => absurd hj (by omega)
theorem hx_wp_s {f : Nat → Int32} {w n n1 : Int} {x i : Int32} (h : hx_wp f w n) (hx : x.toInt ≠ 0) (ex : x = f i.toNatClampNeg) (hi : i.toInt = 7 * w + n) (hw : 0 ≤ w) (h1 : n1 = n + 1) : hx_wp f w n1 := by
  subst h1
  intro j hj
  by_cases z : (j : Int) = n
  · have e : 7 * w.toNat + j = i.toNatClampNeg := by unfold Int32.toNatClampNeg; omega
    rw [e, ← ex]; exact hx
  · exact h j (by omega)
theorem hx_wz {f : Nat → Int32} {w n : Int} {x i : Int32} (hx : x.toInt = 0) (ex : x = f i.toNatClampNeg) (hi : i.toInt = 7 * w + n) (hw : 0 ≤ w) (hn : 0 ≤ n) : (f (7 * w.toNat + n.toNat)).toInt = 0 := by
  have e : 7 * w.toNat + n.toNat = i.toNatClampNeg := by unfold Int32.toNatClampNeg; omega
  rw [e, ← ex]; exact hx
theorem hx_okc_i {s : Int} (h1 : 1000000 ≤ s) (h2 : s < 9000000) (h3 : s % 100000 < 10008) : hx_okc s = true := by simp [hx_okc, h1, h2, h3]
/-- the reader's state by where it reads -/
def hx_QQ (b : Nat) (C next st op : Int) (sf of : Nat → Int32) : Prop := ∃ y : Int, y ≤ next ∧ hx_Q b C y st op sf of
theorem hx_QQ_start {next : Int} {sf of : Nat → Int32} (h : 5 ≤ next) : hx_QQ 0 0 next 0 0 sf of := ⟨5, h, hx_Q_start (by omega) (by omega)⟩
theorem hx_QQ_next {b : Nat} {C n n1 st op : Int} {sf of : Nat → Int32} (q : hx_QQ b C n st op sf of) (h : n ≤ n1) : hx_QQ b C n1 st op sf of := by
  obtain ⟨y, hy, q⟩ := q
  exact ⟨y, by omega, q⟩
theorem hx_QQ_b {b : Nat} {C n st op : Int} {sf of : Nat → Int32} (q : hx_QQ b C n st op sf of) : 0 ≤ st ∧ 0 ≤ op ∧ op ≤ 28 ∧ 0 ≤ C ∧ C ≤ 20 := by
  obtain ⟨y, hy, q⟩ := q
  exact ⟨q.1, q.2.1, hx_Q_op q, q.2.2.1, q.2.2.2.1⟩
theorem hx_QQ_room {C n n1 st op : Int} {sf of : Nat → Int32} (q : hx_QQ 0 C n st op sf of) (h : n + 5 ≤ n1) (h4 : n1 ≤ 400) : st ≤ 126 := by
  obtain ⟨y, hy, q⟩ := q
  exact hx_Q_room q (by omega)
theorem hx_QQ_cmp {C C1 n n1 st st1 op : Int} {sf sf1 of : Nat → Int32} {v : Int32} {k : Nat} (q : hx_QQ 0 C n st op sf of) (hC : C < 20) (h : n + 5 ≤ n1) (h4 : n1 ≤ 400) (hv : hx_okc v.toInt = true) (hk : (k : Int) = st) (e1 : C1 = C + 1) (e2 : st1 = st + 1) (e3 : sf1 = hx_up sf k v) : hx_QQ 1 C1 n1 st1 op sf1 of := by
  subst e1; subst e2; subst e3
  obtain ⟨y, hy, q⟩ := q
  exact ⟨n1, by omega, hx_Q_cmp q hC (by omega) h4 hv hk⟩
theorem hx_top {b : Nat} {C n st op : Int} {sf of : Nat → Int32} {x i : Int32} (q : hx_QQ b C n st op sf of) (hop : 0 < op) (ex : x = of i.toNatClampNeg) (hi : i.toInt = op - 1) : x = of (op.toNat - 1) ∧ (x.toInt = 0 ∨ x.toInt = 1 ∨ x.toInt = 2 ∨ x.toInt = 100) := by
  obtain ⟨y, hy, q⟩ := q
  have e : i.toNatClampNeg = op.toNat - 1 := by unfold Int32.toNatClampNeg; omega
  rw [e] at ex
  exact ⟨ex, by rw [ex]; exact q.2.2.2.2.2.1 _ (by omega)⟩
theorem hx_QQ_pop {C n st st1 op op1 : Int} {sf sf1 of : Nat → Int32} {x v i : Int32} {k : Nat} (q : hx_QQ 1 C n st op sf of) (hop : 0 < op) (ex : x = of i.toNatClampNeg) (hi : i.toInt = op - 1) (h100 : x.toInt ≠ 100) (hv : v.toInt = x.toInt) (hk : (k : Int) = st) (e2 : st1 = st + 1) (e1 : op1 = op - 1) (e3 : sf1 = hx_up sf k v) : hx_QQ 1 C n st1 op1 sf1 of := by
  have ht := hx_top q hop ex hi
  have hvx : v = x := Int32.toInt_inj.mp hv
  subst e1; subst e2; subst e3; subst hvx
  obtain ⟨y, hy, q⟩ := q
  exact ⟨y, hy, (hx_Q_pop q hop ht.1 (by omega) hk).1⟩
theorem hx_QQ_poproom {C n st op : Int} {sf of : Nat → Int32} {x i : Int32} (q : hx_QQ 1 C n st op sf of) (hop : 0 < op) (ex : x = of i.toNatClampNeg) (hi : i.toInt = op - 1) (h100 : x.toInt ≠ 100) : st ≤ 126 := by
  have ht := hx_top q hop ex hi
  obtain ⟨y, hy, q⟩ := q
  exact (hx_Q_pop (k := st.toNat) q hop ht.1 (by omega) (by have := q.1; omega)).2
theorem hx_QQ_shut {C n n1 st op op1 : Int} {sf of : Nat → Int32} (q : hx_QQ 1 C n st op sf of) (hop : 0 < op) (hv : (of (op.toNat - 1)).toInt = 100) (hn : n ≤ n1) (e1 : op1 = op - 1) : hx_QQ 1 C n1 st op1 sf of := by
  subst e1
  obtain ⟨y, hy, q⟩ := q
  exact ⟨y, by omega, hx_Q_shut q hop hv (Int.le_refl _) q.2.2.2.2.1⟩
theorem hx_QQ_open {C n n1 st op op1 : Int} {sf of of1 : Nat → Int32} {v : Int32} {k : Nat} (q : hx_QQ 0 C n st op sf of) (hd : (hx_dp of op.toNat : Int) < 8) (hv : (v.toInt = 2 ∧ n + 3 ≤ n1 ∧ n1 ≤ 400) ∨ (v.toInt = 100 ∧ n ≤ n1)) (hk : (k : Int) = op) (e1 : op1 = op + 1) (e3 : of1 = hx_up of k v) : hx_QQ 0 C n1 st op1 sf of1 := by
  subst e1; subst e3
  obtain ⟨y, hy, q⟩ := q
  rcases hv with ⟨hv, h1, h2⟩ | ⟨hv, h1⟩
  · exact ⟨y + 3, by omega, hx_Q_open q hd (Or.inl ⟨hv, Int.le_refl _⟩) (by omega) hk⟩
  · exact ⟨y, by omega, hx_Q_open q hd (Or.inr ⟨hv, Int.le_refl _⟩) q.2.2.2.2.1 hk⟩
theorem hx_QQ_join {C n n1 st op op1 : Int} {sf of of1 : Nat → Int32} {v : Int32} {k : Nat} (q : hx_QQ 1 C n st op sf of) (hv : v.toInt = 0 ∨ v.toInt = 1) (hn : n + 2 ≤ n1) (h4 : n1 ≤ 400) (hk : (k : Int) = op) (e1 : op1 = op + 1) (e3 : of1 = hx_up of k v) : hx_QQ 0 C n1 st op1 sf of1 := by
  subst e1; subst e3
  obtain ⟨y, hy, q⟩ := q
  exact ⟨n1, Int.le_refl _, hx_Q_join q hv (by omega) h4 hk⟩
theorem hx_QQ_end {C n st : Int} {sf of : Nat → Int32} (q : hx_QQ 1 C n st 0 sf of) : hx_rp sf st.toNat = some 1 := by
  obtain ⟨y, hy, q⟩ := q
  obtain ⟨h1, h2, h3, h3b, h4, h5, h6, N, J, n1, n2, n3, n4, n5, n6, n7, n8⟩ := q
  simpa [hx_ao] using n8
/-- depth as it is counted -/
theorem hx_dp_s {f : Nat → Int32} {n : Int} {x i : Int32} (hn : 0 ≤ n) (ex : x = f i.toNatClampNeg) (hi : i.toInt = n) : (hx_dp f (n + 1).toNat : Int) = hx_dp f n.toNat + (if x.toInt = 2 ∨ x.toInt = 100 then 1 else 0) := by
  have e : (n + 1).toNat = n.toNat + 1 := by omega
  have e2 : i.toNatClampNeg = n.toNat := by unfold Int32.toNatClampNeg; omega
  rw [e2] at ex
  rw [e]; simp only [hx_dp, ← ex]; split <;> omega
theorem hx_QQ_startE {b : Nat} {C n st op : Int} {sf of : Nat → Int32} (hb : b = 0) (hC : C = 0) (hst : st = 0) (hop : op = 0) (h : 5 ≤ n) : hx_QQ b C n st op sf of := by
  subst hb; subst hC; subst hst; subst hop
  exact hx_QQ_start h
theorem hx_QQ_bE {b b1 : Nat} {C n st op : Int} {sf of : Nat → Int32} (q : hx_QQ b C n st op sf of) (e : b = b1) : hx_QQ b1 C n st op sf of := e ▸ q
theorem hx_QQ_dp {b : Nat} {C n st op : Int} {sf of : Nat → Int32} (q : hx_QQ b C n st op sf of) : (hx_dp of op.toNat : Int) ≤ 8 := by
  obtain ⟨y, hy, q⟩ := q
  have := q.2.2.2.2.2.2.1
  omega
theorem hx_QQ_endE {C n st op : Int} {sf of : Nat → Int32} (q : hx_QQ 1 C n st op sf of) (h : op = 0) : hx_rp sf st.toNat = some 1 := by
  subst h
  exact hx_QQ_end q
theorem hx_QQ_t100 {b : Nat} {C n st op low : Int} {sf of : Nat → Int32} (q : hx_QQ b C n st op sf of) (hop : 0 < op) (h : op = 0 ∨ (of (op.toNat - 1)).toInt = 100 ∨ (of (op.toNat - 1)).toInt < low) (hl : low ≤ 0) : (of (op.toNat - 1)).toInt = 100 := by
  obtain ⟨y, hy, q⟩ := q
  have := q.2.2.2.2.2.1 (op.toNat - 1) (by omega)
  omega
/-- every ACT's proof can be gone through -/
def hx_RP (prf psf : Nat → Int32) (a : Int) : Prop := ∀ p : Int, 0 ≤ p → p ≤ a → (psf p.toNat).toInt ≤ 128 ∧ hx_rp (fun k => prf (128 * p.toNat + k)) (psf p.toNat).toInt.toNat = some 1
/-- a row of rules: WEEK is 1 at least, costs are 999 at most -/
def hx_rk (rd : Nat → Int32) : Prop := 1 ≤ (rd 2).toInt ∧ ∀ j : Nat, 9 ≤ j → j < 13 → (rd j).toInt ≤ 999
def hx_WK (rf : Nat → Int32) (a : Int) : Prop := ∀ p : Int, 0 ≤ p → p ≤ a → hx_rk (fun j => rf (13 * p.toNat + j))
theorem hx_WK_c {rf : Nat → Int32} {a p k : Int} (h : hx_WK rf a) (h0 : 0 ≤ p) (h1 : p ≤ a) (k0 : 9 ≤ k) (k1 : k ≤ 12) : (rf (13 * p.toNat + k.toNat)).toInt ≤ 999 := (h p h0 h1).2 k.toNat (by omega) (by omega)
/-- how often summons were tried, at most -/
def hx_TR (f : Nat → Int32) (n : Int) : Prop := ∀ c : Nat, c < 100 → (f c).toInt ≤ n
theorem hx_TR_up {f f1 : Nat → Int32} {n : Int} {i v : Int32} (h : hx_TR f n) (e : f1 = hx_up f i.toNatClampNeg v) (hv : v.toInt ≤ n + 1) : hx_TR f1 (n + 1) := by
  subst e
  intro c hc
  by_cases z : c = i.toNatClampNeg
  · subst z; rw [hx_up_at]; exact hv
  · rw [hx_up_ne z]; have := h c hc; omega
theorem hx_TR_le {f : Nat → Int32} {n m : Int} (h : hx_TR f n) (l : n ≤ m) : hx_TR f m := fun c hc => Int.le_trans (h c hc) l
def hx_PL (plf : Nat → Int32) (c a : Int) : Prop := ∀ k : Int, 0 ≤ k → k < c → 0 ≤ (plf k.toNat).toInt ∧ (plf k.toNat).toInt ≤ a
def hx_hc (f : Nat → Int32) : Nat → Nat
  | 0 => 0
  | n + 1 => hx_hc f n + (if (f n).toInt = -1 then 0 else 1)
theorem hx_hc_le {f : Nat → Int32} : ∀ n, hx_hc f n ≤ n := by
  intro n
  induction n with
  | zero => exact Nat.le_refl _
  | succ n ih => simp only [hx_hc]; split <;> omega
theorem hx_hc_lt {f : Nat → Int32} : ∀ n i, i < n → (f i).toInt = -1 → hx_hc f n < n := by
  intro n
  induction n with
  | zero => intro i h; omega
  | succ n ih =>
    intro i h hf
    simp only [hx_hc]
    by_cases z : i = n
    · subst z; rw [if_pos hf]; have := hx_hc_le (f := f) i; omega
    · have := ih i (by omega) hf
      split <;> omega
theorem hx_hc_congr {f g : Nat → Int32} : ∀ n, (∀ j, j < n → f j = g j) → hx_hc f n = hx_hc g n := by
  intro n
  induction n with
  | zero => intro _; rfl
  | succ n ih => intro h; simp only [hx_hc, ih (fun j hj => h j (by omega)), h n (by omega)]
theorem hx_hc_up {f : Nat → Int32} {v : Int32} : ∀ n i, i < n → (f i).toInt = -1 → v.toInt ≠ -1 → hx_hc (hx_up f i v) n = hx_hc f n + 1 := by
  intro n
  induction n with
  | zero => intro i h; omega
  | succ n ih =>
    intro i h hf hv
    simp only [hx_hc]
    by_cases z : i = n
    · subst z
      rw [hx_up_at, if_neg hv, if_pos hf, hx_hc_congr (f := hx_up f i v) (g := f) i (fun j hj => hx_up_ne (by omega))]
    · rw [ih i (by omega) hf hv, hx_up_ne (by omega)]
      omega
/-- a claim is heard -/
theorem hx_hear {hf hf1 : Nat → Int32} {m m1 c i v x : Int32} (h : m.toInt = hx_hc hf c.toInt.toNat) (hi0 : 0 ≤ i.toInt) (hi : i.toInt < c.toInt) (hx : x = hf i.toNatClampNeg) (hx1 : x.toInt = -1) (hv : v.toInt ≠ -1) (e : hf1 = hx_up hf i.toNatClampNeg v) (hm : m1.toInt = m.toInt + 1) : m1.toInt = hx_hc hf1 c.toInt.toNat := by
  subst e
  have hc : i.toNatClampNeg < c.toInt.toNat := by unfold Int32.toNatClampNeg; omega
  rw [hx_hc_up _ _ hc (by rw [← hx]; exact hx1) hv]
  omega
theorem hx_hear_lt {hf : Nat → Int32} {m c i x : Int32} (h : m.toInt = hx_hc hf c.toInt.toNat) (hi0 : 0 ≤ i.toInt) (hi : i.toInt < c.toInt) (hx : x = hf i.toNatClampNeg) (hx1 : x.toInt = -1) : m.toInt < c.toInt := by
  have hc : i.toNatClampNeg < c.toInt.toNat := by unfold Int32.toNatClampNeg; omega
  have := hx_hc_lt (f := hf) _ _ hc (by rw [← hx]; exact hx1)
  omega
/-- a claim is filed -/
theorem hx_filed {hf hf1 : Nat → Int32} {m c c1 i v : Int32} (h : m.toInt = hx_hc hf c.toInt.toNat) (h0 : 0 ≤ c.toInt) (hi : i = c) (hv : v.toInt = -1) (e : hf1 = hx_up hf i.toNatClampNeg v) (hc : c1.toInt = c.toInt + 1) : m.toInt = hx_hc hf1 c1.toInt.toNat := by
  subst e; subst hi
  have e1 : c1.toInt.toNat = i.toNatClampNeg + 1 := by unfold Int32.toNatClampNeg; omega
  have e2 : i.toInt.toNat = i.toNatClampNeg := rfl
  rw [e1]
  simp only [hx_hc, hx_up_at, hv]
  rw [hx_hc_congr (g := hf) _ (fun j hj => hx_up_ne (by omega)), ← e2]
  simpa using h
theorem hx_PL_up {plf plf1 : Nat → Int32} {c c1 a : Int} {i v : Int32} (h : hx_PL plf c a) (hi : i.toInt = c) (h0 : 0 ≤ c) (hv : 0 ≤ v.toInt ∧ v.toInt ≤ a) (e : plf1 = hx_up plf i.toNatClampNeg v) (hc : c1 = c + 1) : hx_PL plf1 c1 a := by
  subst e; subst hc
  intro k hk0 hk
  by_cases z : k = c
  · have : k.toNat = i.toNatClampNeg := by unfold Int32.toNatClampNeg; omega
    rw [this, hx_up_at]; exact hv
  · have : k.toNat ≠ i.toNatClampNeg := by unfold Int32.toNatClampNeg; omega
    rw [hx_up_ne this]; exact h k hk0 (by omega)
theorem hx_rd {rd rd1 : Nat → Int32} {i v : Int32} (h : hx_rk rd) (e : rd1 = hx_up rd i.toNatClampNeg v) (h0 : 0 ≤ i.toInt) (hv : i.toInt = 2 → 1 ≤ v.toInt) (hc : 9 ≤ i.toInt → v.toInt ≤ 999) : hx_rk rd1 := by
  subst e
  refine ⟨?_, fun j h9 h13 => ?_⟩
  · by_cases z : 2 = i.toNatClampNeg
    · rw [← z, hx_up_at]; exact hv (by unfold Int32.toNatClampNeg at z; omega)
    · rw [hx_up_ne z]; exact h.1
  · by_cases z : j = i.toNatClampNeg
    · subst z; rw [hx_up_at]; exact hc (by unfold Int32.toNatClampNeg at h9; omega)
    · rw [hx_up_ne z]; exact h.2 j h9 h13
def hx_rk1 (rd : Nat → Int32) (k : Int) : Prop := (k ≤ 2 ∨ 1 ≤ (rd 2).toInt) ∧ ∀ j : Nat, 9 ≤ j → (j : Int) < k → (rd j).toInt ≤ 999
theorem hx_rk1_0 {rd : Nat → Int32} : hx_rk1 rd 0 := ⟨Or.inl (by decide), fun j h9 h => absurd h (by omega)⟩
theorem hx_rk1_e {rd : Nat → Int32} {k : Int} (h : hx_rk1 rd k) (hk : 13 ≤ k) : hx_rk rd := ⟨h.1.resolve_left (by omega), fun j h9 h13 => h.2 j h9 (by omega)⟩
theorem hx_rd2 {rd rd1 : Nat → Int32} {i v : Int32} {k k1 : Int} (h : hx_rk1 rd k) (e : rd1 = hx_up rd i.toNatClampNeg v) (hi : i.toInt = k) (h0 : 0 ≤ k) (hv : i.toInt = 2 → 1 ≤ v.toInt) (hc : 9 ≤ i.toInt → v.toInt ≤ 999) (e1 : k1 = k + 1) : hx_rk1 rd1 k1 := by
  subst e; subst e1
  refine ⟨?_, fun j h9 hj => ?_⟩
  · by_cases z : 2 = i.toNatClampNeg
    · rw [← z, hx_up_at]; exact Or.inr (hv (by unfold Int32.toNatClampNeg at z; omega))
    · rw [hx_up_ne z]
      unfold Int32.toNatClampNeg at z
      rcases h.1 with h | h
      · exact Or.inl (by omega)
      · exact Or.inr h
  · by_cases z : j = i.toNatClampNeg
    · subst z; rw [hx_up_at]; exact hc (by unfold Int32.toNatClampNeg at h9; omega)
    · rw [hx_up_ne z]; exact h.2 j h9 (by unfold Int32.toNatClampNeg at z; omega)
theorem hx_rp_wo {sf sf1 sf2 sf3 : Nat → Int32} {v1 v2 v3 s0 s1 s2 s3 : Int32} (e0 : s0.toInt = 0) (h1 : s1.toInt = s0.toInt + 1 ∧ sf1 = hx_up sf s0.toNatClampNeg v1) (h2 : s2.toInt = s1.toInt + 1 ∧ sf2 = hx_up sf1 s1.toNatClampNeg v2) (h3 : s3.toInt = s2.toInt + 1 ∧ sf3 = hx_up sf2 s2.toNatClampNeg v3) (o1 : hx_okc v1.toInt = true) (o2 : hx_okc v2.toInt = true) (o3 : v3.toInt = 1) : hx_rp sf3 s3.toInt.toNat = some 1 := by
  have a0 : s0.toNatClampNeg = 0 := by unfold Int32.toNatClampNeg; omega
  have a1 : s1.toNatClampNeg = 1 := by unfold Int32.toNatClampNeg; omega
  have a2 : s2.toNatClampNeg = 2 := by unfold Int32.toNatClampNeg; omega
  have a3 : s3.toInt.toNat = 3 := by omega
  rw [a0] at h1; rw [a1] at h2; rw [a2] at h3; rw [a3, h3.2, h2.2, h1.2]
  have r1 : hx_rp (hx_up sf 0 v1) 1 = some 1 := hx_rp_c (d := 0) rfl o1
  have r2 := hx_rp_c r1 o2
  exact hx_rp_j (d := 2) r2 (Or.inr o3) (by decide)
/-- a proof is kept in its row -/
def hx_kp (sf prf g : Nat → Int32) (a k : Int) : Prop := (∀ j : Nat, (j : Int) < k → g (128 * a.toNat + j) = sf j) ∧ ∀ m : Nat, ((m : Int) < 128 * a ∨ 128 * a + k ≤ m) → g m = prf m
theorem hx_kp0 {sf prf : Nat → Int32} {a : Int} : hx_kp sf prf prf a 0 := ⟨fun j hj => absurd hj (by omega), fun _ _ => rfl⟩
theorem hx_kp_s {sf prf g g1 : Nat → Int32} {a k k1 : Int} {i v l : Int32} (h : hx_kp sf prf g a k) (ha : 0 ≤ a) (hk : 0 ≤ k) (hi : i.toInt = 128 * a + k) (hv : v = sf l.toNatClampNeg) (hl : l.toInt = k) (e : g1 = hx_up g i.toNatClampNeg v) (e1 : k1 = k + 1) : hx_kp sf prf g1 a k1 := by
  subst e; subst e1
  have ei : i.toNatClampNeg = 128 * a.toNat + k.toNat := by unfold Int32.toNatClampNeg; omega
  have el : l.toNatClampNeg = k.toNat := by unfold Int32.toNatClampNeg; omega
  rw [el] at hv
  refine ⟨fun j hj => ?_, fun m hm => ?_⟩
  · by_cases z : j = k.toNat
    · subst z; rw [ei, hx_up_at, hv]
    · rw [hx_up_ne (by omega)]; exact h.1 j (by omega)
  · rw [hx_up_ne (by omega)]; exact h.2 m (by omega)
theorem hx_RP_new {prf prf1 psf psf1 sf : Nat → Int32} {a a1 : Int} {i st : Int32} (h : hx_RP prf psf a) (hi : i.toInt = a1) (h1 : a1 = a + 1) (h0 : 0 ≤ a) (hs : st.toInt ≤ 128) (hs0 : 0 ≤ st.toInt) (hr : hx_rp sf st.toInt.toNat = some 1) (e1 : psf1 = hx_up psf i.toNatClampNeg st) (e2 : hx_kp sf prf prf1 a1 st.toInt) : hx_RP prf1 psf1 a1 := by
  subst e1
  intro p hp0 hp
  have ei : i.toNatClampNeg = a1.toNat := by unfold Int32.toNatClampNeg; omega
  by_cases z : p = a1
  · subst z
    rw [ei, hx_up_at]
    refine ⟨hs, ?_⟩
    rw [hx_rp_congr (f := fun k => prf1 (128 * p.toNat + k)) (g := sf) _ (fun j hj => e2.1 j (by omega))]
    exact hr
  · obtain ⟨u1, u2⟩ := h p hp0 (by omega)
    rw [hx_up_ne (by omega)]
    refine ⟨u1, ?_⟩
    rw [hx_rp_congr (f := fun k => prf1 (128 * p.toNat + k)) (g := fun k => prf (128 * p.toNat + k)) _ (fun j hj => e2.2 _ (by omega))]
    exact u2
/-- the rules of a new ACT -/
def hx_wk1 (rf : Nat → Int32) (a k : Int) : Prop := hx_WK rf (a - 1) ∧ hx_rk1 (fun j => rf (13 * a.toNat + j)) k
theorem hx_wk1_s {rf rf1 rd : Nat → Int32} {a k k1 : Int} {i v l : Int32} (h : hx_wk1 rf a k) (ha : 0 ≤ a) (hk : 0 ≤ k) (hk13 : k < 13) (hi : i.toInt = 13 * a + k) (hv : v = rd l.toNatClampNeg) (hl : l.toInt = k) (hr : hx_rk rd) (e : rf1 = hx_up rf i.toNatClampNeg v) (e1 : k1 = k + 1) : hx_wk1 rf1 a k1 := by
  subst e; subst e1
  have ei : i.toNatClampNeg = 13 * a.toNat + k.toNat := by unfold Int32.toNatClampNeg; omega
  have el : l.toNatClampNeg = k.toNat := by unfold Int32.toNatClampNeg; omega
  rw [el] at hv
  refine ⟨fun p hp0 hp => ?_, ?_, fun j h9 hj => ?_⟩
  · refine ⟨?_, fun j h9 h13 => ?_⟩
    · show 1 ≤ (hx_up rf i.toNatClampNeg v (13 * p.toNat + 2)).toInt
      rw [hx_up_ne (by omega)]; exact (h.1 p hp0 hp).1
    · show (hx_up rf i.toNatClampNeg v (13 * p.toNat + j)).toInt ≤ 999
      rw [hx_up_ne (by omega)]; exact (h.1 p hp0 hp).2 j h9 h13
  · show k + 1 ≤ 2 ∨ 1 ≤ (hx_up rf i.toNatClampNeg v (13 * a.toNat + 2)).toInt
    by_cases z : k = 2
    · subst z
      refine Or.inr ?_
      rw [ei]
      rw [show 13 * a.toNat + 2 = 13 * a.toNat + (2 : Int).toNat from rfl, hx_up_at, hv]; exact hr.1
    · rcases h.2.1 with q | q
      · exact Or.inl (by omega)
      · rw [hx_up_ne (by omega)]; exact Or.inr q
  · show (hx_up rf i.toNatClampNeg v (13 * a.toNat + j)).toInt ≤ 999
    by_cases z : j = k.toNat
    · subst z; rw [ei, hx_up_at, hv]; exact hr.2 _ h9 (by omega)
    · rw [hx_up_ne (by omega)]; exact h.2.2 j h9 (by omega)
theorem hx_wk1_e {rf : Nat → Int32} {a k : Int} (h : hx_wk1 rf a k) (hk : 13 ≤ k) : hx_WK rf a := by
  intro p hp0 hp
  by_cases z : p = a
  · subst z
    exact hx_rk1_e h.2 hk
  · exact h.1 p hp0 (by omega)
theorem hx_remz {x y : Int32} (h0 : 0 ≤ x.toInt) (h1 : 1 ≤ y.toInt) : (x - x / y * y).toInt = x.toInt % y.toInt := by
  have d := hx_dv h0 h1
  have b := Int32.toInt_lt x
  have p0 : 0 ≤ x.toInt / y.toInt := Int.ediv_nonneg h0 (by omega)
  have q0 := Int.emod_nonneg x.toInt (show y.toInt ≠ 0 by omega)
  have q1 := Int.emod_lt_of_pos x.toInt (show 0 < y.toInt by omega)
  have q2 := Int.mul_ediv_add_emod x.toInt y.toInt
  have q3 : x.toInt / y.toInt * y.toInt = x.toInt - x.toInt % y.toInt := by rw [Int.mul_comm]; omega
  have q4 : 0 ≤ x.toInt / y.toInt * y.toInt := Int.mul_nonneg p0 (by omega)
  have m : (x / y * y).toInt = x.toInt / y.toInt * y.toInt := by
    rw [Int32.toInt_mul, d]; exact Int.bmod_eq_of_le (by omega) (by omega)
  rw [Int32.toInt_sub, m]
  have z : x.toInt - x.toInt / y.toInt * y.toInt = x.toInt % y.toInt := by omega
  rw [z]; exact Int.bmod_eq_of_le (by omega) (by omega)
/-- the odometer of plans -/
def hx_w (i : Int) : Int := if i = 3 then 1 else if i = 2 then 13 else if i = 1 then 169 else if i = 0 then 2197 else 28561
def hx_V (f : Nat → Int32) : Int := 2197 * (f 0).toInt + 169 * (f 1).toInt + 13 * (f 2).toInt + (f 3).toInt
def hx_m12 (f : Nat → Int32) : Prop := ∀ k : Nat, k < 4 → 0 ≤ (f k).toInt ∧ (f k).toInt ≤ 12
theorem hx_V_b {f : Nat → Int32} (h : hx_m12 f) : 0 ≤ hx_V f ∧ hx_V f ≤ 28560 := by
  have a := h 0 (by decide)
  have b := h 1 (by decide)
  have c := h 2 (by decide)
  have d := h 3 (by decide)
  unfold hx_V
  omega
theorem hx_w_b {i : Int} : 1 ≤ hx_w i := by unfold hx_w; split <;> (try split) <;> (try split) <;> (try split) <;> omega
theorem hx_V_up {f f1 : Nat → Int32} {i v x : Int32} (h0 : 0 ≤ i.toInt) (h3 : i.toInt ≤ 3) (ex : x = f i.toNatClampNeg) (e : f1 = hx_up f i.toNatClampNeg v) : (x.toInt = 12 → v.toInt = 0 → hx_V f1 + hx_w (i.toInt - 1) = hx_V f + hx_w i.toInt) ∧ (v.toInt = x.toInt + 1 → hx_V f1 = hx_V f + hx_w i.toInt) := by
  subst e; subst ex
  rcases (show i.toInt = 0 ∨ i.toInt = 1 ∨ i.toInt = 2 ∨ i.toInt = 3 by omega) with z | z | z | z
  · have e : i.toNatClampNeg = 0 := by unfold Int32.toNatClampNeg; omega
    rw [z, e]; simp only [hx_V, hx_up, hx_w]; simp; omega
  · have e : i.toNatClampNeg = 1 := by unfold Int32.toNatClampNeg; omega
    rw [z, e]; simp only [hx_V, hx_up, hx_w]; simp; omega
  · have e : i.toNatClampNeg = 2 := by unfold Int32.toNatClampNeg; omega
    rw [z, e]; simp only [hx_V, hx_up, hx_w]; simp; omega
  · have e : i.toNatClampNeg = 3 := by unfold Int32.toNatClampNeg; omega
    rw [z, e]; simp only [hx_V, hx_up, hx_w]; simp; omega
