/-! WHAT PROVES, GONE THROUGH: what is so -/
def hv_hd (F : Nat → Int) (t : hv_tok) : Bool := match t.2.1 with
  | 0 => decide (F (t.1 - 1).toNat < (if 10000 ≤ t.2.2 then F (t.2.2 - 10000).toNat else t.2.2))
  | 1 => decide (F (t.1 - 1).toNat ≤ (if 10000 ≤ t.2.2 then F (t.2.2 - 10000).toNat else t.2.2))
  | 2 => decide (F (t.1 - 1).toNat = (if 10000 ≤ t.2.2 then F (t.2.2 - 10000).toNat else t.2.2))
  | 3 => decide ((if 10000 ≤ t.2.2 then F (t.2.2 - 10000).toNat else t.2.2) ≤ F (t.1 - 1).toNat)
  | _ => decide ((if 10000 ≤ t.2.2 then F (t.2.2 - 10000).toNat else t.2.2) < F (t.1 - 1).toNat)
def hv_so : Nat → List Bool → List Bool
  | 2, b :: s => (!b) :: s
  | 1, a :: b :: s => (b && a) :: s
  | 0, a :: b :: s => (b || a) :: s
  | _, s => s
theorem hv_so_2 : ∀ (s : List Bool), 1 ≤ s.length → (hv_so 2 s).length = s.length
  | [], h => by have h' : 1 ≤ 0 := h; omega
  | _ :: _, _ => rfl
theorem hv_so_1 : ∀ (s : List Bool), 2 ≤ s.length → (hv_so 1 s).length = s.length - 1
  | [], h => by have h' : 2 ≤ 0 := h; omega
  | [_], h => by have h' : 2 ≤ 1 := h; omega
  | _ :: _ :: _, _ => rfl
theorem hv_so_0 : ∀ (s : List Bool), 2 ≤ s.length → (hv_so 0 s).length = s.length - 1
  | [], h => by have h' : 2 ≤ 0 := h; omega
  | [_], h => by have h' : 2 ≤ 1 := h; omega
  | _ :: _ :: _, _ => rfl
def hv_sp (F : Nat → Int) (t : hv_tok) (s : List Bool) : List Bool := if t.1 = 0 then hv_so t.2.1 s else hv_hd F t :: s
def hv_ev (F : Nat → Int) : List hv_tok → List Bool
  | [] => []
  | t :: o => hv_sp F t (hv_ev F o)
def hv_hs (t : hv_tok) (d : Nat) : Option Nat := if t.1 = 0 then (if t.2.1 = 2 then (if 1 ≤ d then some d else none) else (if 2 ≤ d then some (d - 1) else none)) else some (d + 1)
theorem hv_hg_s {t : hv_tok} {o : List hv_tok} {d : Nat} (h : hv_hg (t :: o) = some d) : ∃ d0, hv_hg o = some d0 ∧ hv_hs t d0 = some d := by
  have h' : (match hv_hg o with
    | none => none
    | some d => hv_hs t d) = some d := h
  cases hg : hv_hg o with
  | none => rw [hg] at h'; exact nomatch h'
  | some d0 => rw [hg] at h'; exact ⟨d0, rfl, h'⟩
theorem hv_sp_l {F : Nat → Int} {t : hv_tok} {s : List Bool} {d : Nat} (hv : hv_vt t) (h : hv_hs t s.length = some d) : (hv_sp F t s).length = d := by
  unfold hv_hs at h
  unfold hv_sp
  by_cases z : t.1 = 0
  · rw [if_pos z] at h ⊢
    have h22 : t.2.1 ≤ 2 := by
      rcases hv with ⟨_, a⟩ | ⟨a, _⟩
      · exact a
      · exfalso; omega
    rcases (show t.2.1 = 0 ∨ t.2.1 = 1 ∨ t.2.1 = 2 by omega) with e | e | e
    · rw [e] at h ⊢
      rw [if_neg (by decide)] at h
      by_cases y : 2 ≤ s.length
      · rw [if_pos y] at h; rw [hv_so_0 s y]; exact Option.some.inj h
      · rw [if_neg y] at h; exact nomatch h
    · rw [e] at h ⊢
      rw [if_neg (by decide)] at h
      by_cases y : 2 ≤ s.length
      · rw [if_pos y] at h; rw [hv_so_1 s y]; exact Option.some.inj h
      · rw [if_neg y] at h; exact nomatch h
    · rw [e] at h ⊢
      rw [if_pos rfl] at h
      by_cases y : 1 ≤ s.length
      · rw [if_pos y] at h; rw [hv_so_2 s y]; exact Option.some.inj h
      · rw [if_neg y] at h; exact nomatch h
  · rw [if_neg z] at h ⊢
    exact Option.some.inj h
theorem hv_ev_l {F : Nat → Int} : ∀ (o : List hv_tok) (d : Nat), (∀ x ∈ o, hv_vt x) → hv_hg o = some d → (hv_ev F o).length = d
  | [], d, _, h => Option.some.inj h
  | t :: o, d, hv, h => by
    obtain ⟨d0, h1, h2⟩ := hv_hg_s h
    have ih := hv_ev_l (F := F) o d0 (fun x hx => hv x (List.mem_cons_of_mem t hx)) h1
    exact hv_sp_l (hv t (List.mem_cons_self ..)) (by rw [ih]; exact h2)
theorem hv_hg_ct : ∀ (o : List hv_tok) (d : Nat), hv_hg o = some d → d ≤ hv_ct o
  | [], d, h => by have h' : 0 = d := Option.some.inj h; rw [← h']; exact Nat.le_refl _
  | t :: o, d, h => by
    obtain ⟨d0, h1, h2⟩ := hv_hg_s h
    have ih := hv_hg_ct o d0 h1
    unfold hv_hs at h2
    show d ≤ (if t.1 = 0 then hv_ct o else hv_ct o + 1)
    by_cases z : t.1 = 0
    · rw [if_pos z] at h2 ⊢
      by_cases y : t.2.1 = 2
      · rw [if_pos y] at h2
        by_cases x : 1 ≤ d0
        · rw [if_pos x] at h2; have := Option.some.inj h2; omega
        · rw [if_neg x] at h2; exact nomatch h2
      · rw [if_neg y] at h2
        by_cases x : 2 ≤ d0
        · rw [if_pos x] at h2; have := Option.some.inj h2; omega
        · rw [if_neg x] at h2; exact nomatch h2
    · rw [if_neg z] at h2 ⊢
      have := Option.some.inj h2; omega
theorem hv_ct_t {t : hv_tok} {o : List hv_tok} : hv_ct o ≤ hv_ct (t :: o) := by
  show hv_ct o ≤ (if t.1 = 0 then hv_ct o else hv_ct o + 1)
  split <;> omega
theorem hv_V_d : ∀ (k : Nat) (o : List hv_tok) (t d : Nat), hv_V o t d → ∃ d0, hv_V (o.drop k) t d0
  | 0, o, t, d, h => ⟨d, h⟩
  | k + 1, [], t, d, h => ⟨d, h⟩
  | k + 1, x :: o, t, d, h => by
    obtain ⟨d0, h0, _⟩ := hv_hg_s h.2.2
    exact hv_V_d k o t d0 ⟨fun y hy => h.1 y (List.mem_cons_of_mem _ hy), Nat.le_trans hv_ct_t h.2.1, h0⟩
theorem hv_drop_s {e : hv_tok → Int} {f : Nat → Int32} {o : List hv_tok} : ∀ (n k : Nat), hv_ls f n = o.map e → k < n → ∃ t, o.drop (n - (k + 1)) = t :: o.drop (n - k) ∧ (f k).toInt = e t ∧ t ∈ o := by
  intro n
  induction n generalizing o with
  | zero => intro k _ h; exfalso; omega
  | succ n ih =>
    intro k h hk
    match o, h with
    | [], h => exact absurd (congrArg List.length h) (by rw [hv_ls_len]; simp)
    | x :: o, h =>
      have h' : (f n).toInt :: hv_ls f n = e x :: o.map e := h
      have h1 := (List.cons.inj h').1
      have h2 := (List.cons.inj h').2
      by_cases z : k = n
      · subst z
        refine ⟨x, ?_, h1, List.mem_cons_self ..⟩
        rw [show k + 1 - (k + 1) = 0 by omega, show k + 1 - k = 0 + 1 by omega]; rfl
      · obtain ⟨t, a, b, c⟩ := ih k h2 (by omega)
        refine ⟨t, ?_, b, List.mem_cons_of_mem _ c⟩
        rw [show n + 1 - (k + 1) = (n - (k + 1)) + 1 by omega, show n + 1 - k = (n - k) + 1 by omega]
        exact a
/-- the pile, as the class has it: a bit each -/
def hv_bt (x : Int32) (s : List Bool) : Prop := ∀ i, i < s.length → x.toBitVec.getLsbD i = s.getD i false
theorem hv_bt_0 {x : Int32} : hv_bt x [] := fun i hi => absurd hi (Nat.not_lt_zero i)
theorem hv_b1 {x y : Int32} (e : y = x &&& 1) : (y.toInt = 1 ∧ x.toBitVec.getLsbD 0 = true) ∨ (y.toInt = 0 ∧ x.toBitVec.getLsbD 0 = false) := by
  have hc : y.toBitVec = BitVec.setWidth 32 (BitVec.ofBool (x.toBitVec.getLsbD 0)) := by
    have h3 : y.toBitVec = x.toBitVec &&& 1#32 := by rw [e]; rfl
    rw [h3, BitVec.and_one_eq_setWidth_ofBool_getLsbD]
  have hv : y.toInt = y.toBitVec.toInt := rfl
  rw [hv, hc]
  cases x.toBitVec.getLsbD 0 with
  | true => exact Or.inl ⟨by decide, rfl⟩
  | false => exact Or.inr ⟨by decide, rfl⟩
theorem hv_sr1 {x y : Int32} (e : y = x >>> ((1 : Int32) &&& 31)) (i : Nat) (hi : i + 1 < 32) : y.toBitVec.getLsbD i = x.toBitVec.getLsbD (i + 1) := by
  have h : y.toBitVec = x.toBitVec.sshiftRight 1 := by rw [e]; rfl
  rw [h, BitVec.getLsbD_sshiftRight, if_pos (by omega), Nat.add_comm 1 i, decide_eq_false (show ¬ 32 ≤ i by omega)]; rfl
theorem hv_sr2 {x y : Int32} (e : y = x >>> ((2 : Int32) &&& 31)) (i : Nat) (hi : i + 2 < 32) : y.toBitVec.getLsbD i = x.toBitVec.getLsbD (i + 2) := by
  have h : y.toBitVec = x.toBitVec.sshiftRight 2 := by rw [e]; rfl
  rw [h, BitVec.getLsbD_sshiftRight, if_pos (by omega), Nat.add_comm 2 i, decide_eq_false (show ¬ 32 ≤ i by omega)]; rfl
theorem hv_sl1 {x y : Int32} (e : y = x <<< ((1 : Int32) &&& 31)) : y.toBitVec.getLsbD 0 = false ∧ ∀ i, i + 1 < 32 → y.toBitVec.getLsbD (i + 1) = x.toBitVec.getLsbD i := by
  have h : y.toBitVec = x.toBitVec <<< 1 := by rw [e]; rfl
  rw [h]
  refine ⟨by rw [BitVec.getLsbD_shiftLeft]; simp, fun i hi => ?_⟩
  rw [BitVec.getLsbD_shiftLeft, decide_eq_true hi, decide_eq_false (show ¬ (i + 1 < 1) by omega), Nat.add_sub_cancel]
  simp
theorem hv_bor {x y z : Int32} (e : z = x ||| y) (i : Nat) : z.toBitVec.getLsbD i = (x.toBitVec.getLsbD i || y.toBitVec.getLsbD i) := by
  have h : z.toBitVec = x.toBitVec ||| y.toBitVec := by rw [e]; rfl
  rw [h, BitVec.getLsbD_or]
theorem hv_bxor {x y z : Int32} (e : z = x ^^^ y) (i : Nat) : z.toBitVec.getLsbD i = (x.toBitVec.getLsbD i ^^ y.toBitVec.getLsbD i) := by
  have h : z.toBitVec = x.toBitVec ^^^ y.toBitVec := by rw [e]; rfl
  rw [h, BitVec.getLsbD_xor]
theorem hv_01 : ∀ i : Nat, (1 : Int32).toBitVec.getLsbD (i + 1) = false := fun i => by
  show (1#32).getLsbD (i + 1) = false
  rw [BitVec.getLsbD_one]; simp
/-- a bit and nothing else -/
theorem hv_b01 {y : Int32} (h : y.toInt = 0 ∨ y.toInt = 1) (i : Nat) : y.toBitVec.getLsbD (i + 1) = false ∧ (y.toBitVec.getLsbD 0 = decide (y.toInt = 1)) := by
  rcases h with e | e
  · obtain rfl : y = 0 := Int32.toInt_inj.mp (e.trans (by decide))
    exact ⟨by show (0#32).getLsbD (i + 1) = false; simp, by decide⟩
  · obtain rfl : y = 1 := Int32.toInt_inj.mp (e.trans (by decide))
    exact ⟨hv_01 i, by decide⟩
theorem hv_bt_not {x x1 : Int32} {b : Bool} {s : List Bool} (h : hv_bt x (b :: s)) (e : x1 = x ^^^ 1) : hv_bt x1 ((!b) :: s) := fun i hi => by
  rw [hv_bxor e]
  match i, hi with
  | 0, _ =>
    have h0 := h 0 (by simp)
    rw [h0]
    show (b ^^ (1 : Int32).toBitVec.getLsbD 0) = !b
    rw [show (1 : Int32).toBitVec.getLsbD 0 = true from by decide]; simp
  | i + 1, hi =>
    have h0 := h (i + 1) (by simpa using hi)
    rw [h0, hv_01 i]
    show ((s.getD i false) ^^ false) = s.getD i false
    simp
theorem hv_bt_push {x y z v : Int32} {s : List Bool} (h : hv_bt x s) (hs : s.length ≤ 30) (e : y = x <<< ((1 : Int32) &&& 31)) (e2 : z = y ||| v) (hv : v.toInt = 0 ∨ v.toInt = 1) : hv_bt z (decide (v.toInt = 1) :: s) := fun i hi => by
  rw [hv_bor e2]
  have hl := hv_sl1 e
  match i, hi with
  | 0, _ =>
    rw [hl.1, (hv_b01 hv 0).2]; rfl
  | i + 1, hi =>
    have hi' : i < s.length := by simpa using hi
    rw [hl.2 i (by omega), (hv_b01 hv i).1, h i hi', Bool.or_false]; rfl
theorem hv_bt_two {x y z w v : Int32} {a b c : Bool} {s : List Bool} (h : hv_bt x (a :: b :: s)) (hs : s.length ≤ 28) (e : y = x >>> ((2 : Int32) &&& 31)) (e2 : z = y <<< ((1 : Int32) &&& 31)) (e3 : w = z ||| v) (hv : v.toInt = 0 ∨ v.toInt = 1) (hc : c = decide (v.toInt = 1)) : hv_bt w (c :: s) := by
  have h2 : hv_bt y s := fun i hi => by
    rw [hv_sr2 e i (by omega), h (i + 2) (by simp; omega)]; rfl
  rw [hc]
  exact hv_bt_push h2 (by omega) e2 e3 hv
