section
/-! THE TYPED HEAP: every owned cell has a tag; a table says of each tag its class and fields, or its kind of array, its length and elements -/
/-- what a field or an element is: a number with its interval, a reference with its tags, a long (kept as two halves) -/
def hx_f : Type := (Int × Int) ⊕ ((Bool × List Nat) ⊕ Unit)
abbrev hx_f.inl (b : Int × Int) : hx_f := Sum.inl b
abbrev hx_f.inr (b : Bool × List Nat) : hx_f := Sum.inr (Sum.inl b)
abbrev hx_f.lng : hx_f := Sum.inr (Sum.inr ())
def hx_L (x y : Int32) : Int64 := Int64.ofBitVec (x.toBitVec ++ y.toBitVec)
theorem hx_L_ex (v : Int64) : ∃ x y : Int32, hx_L x y = v := by
  refine ⟨Int32.ofBitVec (v.toBitVec.extractLsb' 32 32), Int32.ofBitVec (v.toBitVec.extractLsb' 0 32), ?_⟩
  have h : (v.toBitVec.extractLsb' 32 32 ++ v.toBitVec.extractLsb' 0 32 : BitVec 64) = v.toBitVec := by
    apply BitVec.eq_of_getLsbD_eq
    intro i hi
    rw [BitVec.getLsbD_append, BitVec.getLsbD_extractLsb', BitVec.getLsbD_extractLsb']
    by_cases h : i < 32
    · simp [h]
    · have e : 32 + (i - 32) = i := by omega
      have l : i - 32 < 32 := by omega
      simp [h, e, l]
  show Int64.ofBitVec (v.toBitVec.extractLsb' 32 32 ++ v.toBitVec.extractLsb' 0 32 : BitVec 64) = v
  rw [h]
  rfl
abbrev hx_d : Type := (Nat × List hx_f) ⊕ (Nat × Nat × hx_f)
abbrev hx_h : Type := (Nat → Nat) × (Nat → Nat → Int32) × (Nat → Nat → Option Nat)
abbrev hx_y : Type := List (ClassId × FieldType)
def hx_v (f : hx_f) (i : Int32) (r : Option Nat) : Value := match f with
  | Sum.inl _ => .int i
  | Sum.inr (Sum.inl _) => va_rf r
  | Sum.inr (Sum.inr _) => .int i
def hx_fs (fs : List hx_f) (h : hx_h) (a : Nat) : List Value := (List.range fs.length).map (fun k => hx_v (fs.getD k (.inl (0, 0))) (h.2.1 a k) (h.2.2 a k))
def hx_a (n : Nat) (f : hx_f) (h : hx_h) (a : Nat) : vp_A := match f with
  | Sum.inl _ => (n, .inl (h.2.1 a))
  | Sum.inr (Sum.inl _) => (n, .inr (.inr (.inr (.inr (h.2.2 a)))))
  | Sum.inr (Sum.inr _) => (n, .inr (.inl (fun j => hx_L (h.2.1 a (2 * j)) (h.2.1 a (2 * j + 1)))))
def hx_t (tys : hx_y) (t0 : Nat) : ClassId := (tys[t0]?.map Prod.fst).getD 0
def hx_e (tb : List hx_d) (tys : hx_y) (h : hx_h) (a : Nat) : va_E := match tb[h.1 a]? with
  | some (.inl (ci, fs)) => .inr (ci, hx_fs fs h a)
  | some (.inr (t0, n, f)) => .inl (hx_t tys t0, hx_a n f h a)
  | none => .inr (0, [])
abbrev hx_p (tb : List hx_d) (tys : hx_y) (L : List Nat) (h : hx_h) : va_W := va_pl L (hx_e tb tys h)
/-- the world: the tables, the cells, apart, the rest unchanged -/
def hx_W (tb : List hx_d) (tys : hx_y) (D : va_G) (cl : List vw_C) (A : Nat → Prop) (H0 : Heap) (L : List Nat) (h : hx_h) (s : State) (H : Heap) (locs : List Loc) : Prop :=
  va_K D cl tys s ∧ va_P D cl (hx_p tb tys L h) H ∧ va_D A (hx_p tb tys L h) ∧ va_S A H0 H locs ∧ ∀ q, H0.size ≤ q → A q
/-- a cell of a tag -/
def hx_g (L : List Nat) (h : hx_h) (a t : Nat) : Prop := a ∈ L ∧ h.1 a = t
def hx_o (L : List Nat) (h : hx_h) (f : hx_f) (i : Int32) (r : Option Nat) : Prop := match f with
  | Sum.inl b => b.1 ≤ i.toInt ∧ i.toInt ≤ b.2
  | Sum.inr (Sum.inl b) => (b.1 = true → r ≠ none) ∧ ∀ q, r = some q → q ∈ L ∧ h.1 q ∈ b.2
  | Sum.inr (Sum.inr _) => True
def hx_c (tb : List hx_d) (L : List Nat) (h : hx_h) (a : Nat) : Prop := match tb[h.1 a]? with
  | some (.inl (_, fs)) => ∀ k f, fs[k]? = some f → hx_o L h f (h.2.1 a k) (h.2.2 a k)
  | some (.inr (_, n, f)) => ∀ k, k < n → hx_o L h f (h.2.1 a k) (h.2.2 a k)
  | none => False
/-- the types hold -/
def hx_T (tb : List hx_d) (L : List Nat) (h : hx_h) : Prop := ∀ a ∈ L, hx_c tb L h a
def hx_pi (h : hx_h) (a k : Nat) (x : Int32) : hx_h := (h.1, fun b j => if b = a ∧ j = k then x else h.2.1 b j, h.2.2)
def hx_pr (h : hx_h) (a k : Nat) (r : Option Nat) : hx_h := (h.1, h.2.1, fun b j => if b = a ∧ j = k then r else h.2.2 b j)
/-- what may have changed: fields (tag, place); of an array: its tag alone, as place 0 -/
abbrev hx_m : Type := List (Nat × Nat)
def hx_S (tb : List hx_d) (M : hx_m) (L : List Nat) (h : hx_h) (L1 : List Nat) (h1 : hx_h) : Prop :=
  (∀ a ∈ L, a ∈ L1 ∧ h1.1 a = h.1 a) ∧ ∀ a ∈ L, ∀ k, (match tb[h.1 a]? with | some (.inr _) => (h.1 a, 0) ∉ M | _ => (h.1 a, k) ∉ M) → h1.2.1 a k = h.2.1 a k ∧ h1.2.2 a k = h.2.2 a k
theorem hx_S.rf {tb : List hx_d} {M : hx_m} {L : List Nat} {h : hx_h} : hx_S tb M L h L h := ⟨fun _ ha => ⟨ha, rfl⟩, fun _ _ _ _ => ⟨rfl, rfl⟩⟩
theorem hx_S.tr {tb : List hx_d} {M : hx_m} {L L1 L2 : List Nat} {h h1 h2 : hx_h} (a : hx_S tb M L h L1 h1) (b : hx_S tb M L1 h1 L2 h2) : hx_S tb M L h L2 h2 := by
  refine ⟨fun q hq => ?_, fun q hq k hk => ?_⟩
  · obtain ⟨u1, u2⟩ := a.1 q hq
    obtain ⟨v1, v2⟩ := b.1 q u1
    exact ⟨v1, v2.trans u2⟩
  · obtain ⟨u1, u2⟩ := a.1 q hq
    obtain ⟨x1, x2⟩ := a.2 q hq k hk
    obtain ⟨y1, y2⟩ := b.2 q u1 k (by rw [u2]; exact hk)
    exact ⟨y1.trans x1, y2.trans x2⟩
theorem hx_S.mono {tb : List hx_d} {M N : hx_m} {L L1 : List Nat} {h h1 : hx_h} (a : hx_S tb M L h L1 h1) (hMN : ∀ q ∈ M, q ∈ N) : hx_S tb N L h L1 h1 := by
  refine ⟨a.1, fun q hq k hk => a.2 q hq k ?_⟩
  revert hk
  split
  · exact fun h1 h2 => h1 (hMN _ h2)
  · exact fun h1 h2 => h1 (hMN _ h2)
theorem hx_g.S {tb : List hx_d} {M : hx_m} {L L1 : List Nat} {h h1 : hx_h} {a t : Nat} (g : hx_g L h a t) (b : hx_S tb M L h L1 h1) : hx_g L1 h1 a t := ⟨(b.1 a g.1).1, (b.1 a g.1).2.trans g.2⟩
theorem hx_pi_at (h : hx_h) (a k : Nat) (x : Int32) : (hx_pi h a k x).2.1 a k = x := by simp [hx_pi]
theorem hx_pi_ne (h : hx_h) {a k b j : Nat} (x : Int32) (n : ¬ (b = a ∧ j = k)) : (hx_pi h a k x).2.1 b j = h.2.1 b j := by simp only [hx_pi]; rw [if_neg n]
theorem hx_pr_at (h : hx_h) (a k : Nat) (x : Option Nat) : (hx_pr h a k x).2.2 a k = x := by simp [hx_pr]
theorem hx_pr_ne (h : hx_h) {a k b j : Nat} (x : Option Nat) (n : ¬ (b = a ∧ j = k)) : (hx_pr h a k x).2.2 b j = h.2.2 b j := by simp only [hx_pr]; rw [if_neg n]
theorem hx_e_pi {tb : List hx_d} {tys : hx_y} {h : hx_h} {a b k : Nat} {x : Int32} (n : b ≠ a) : hx_e tb tys (hx_pi h a k x) b = hx_e tb tys h b := by
  simp [hx_e, hx_fs, hx_a, hx_pi, n]
theorem hx_e_pr {tb : List hx_d} {tys : hx_y} {h : hx_h} {a b k : Nat} {x : Option Nat} (n : b ≠ a) : hx_e tb tys (hx_pr h a k x) b = hx_e tb tys h b := by
  simp [hx_e, hx_fs, hx_a, hx_pr, n]
theorem hx_fs_get {fs : List hx_f} {h : hx_h} {a k : Nat} {f : hx_f} (hk : fs[k]? = some f) : (hx_fs fs h a)[k]? = some (hx_v f (h.2.1 a k) (h.2.2 a k)) := by
  have hl := (List.getElem?_eq_some_iff.mp hk).1
  simp [hx_fs, List.getElem?_range hl, List.getD, hk]
theorem hx_fs_len {fs : List hx_f} {h : hx_h} {a : Nat} : (hx_fs fs h a).length = fs.length := by simp [hx_fs]
theorem hx_fs_pi {fs : List hx_f} {h : hx_h} {a k : Nat} {b : Int × Int} {x : Int32} (hk : fs[k]? = some (.inl b)) : (hx_fs fs h a).set k (.int x) = hx_fs fs (hx_pi h a k x) a := by
  have hl := (List.getElem?_eq_some_iff.mp hk).1
  apply List.ext_getElem?
  intro j
  by_cases hj : j = k
  · subst hj
    rw [List.getElem?_set_self (by rw [hx_fs_len]; exact hl), hx_fs_get hk, hx_pi_at]
    rfl
  · rw [List.getElem?_set_ne (Ne.symm hj)]
    by_cases hjl : j < fs.length
    · have hf : fs[j]? = some fs[j] := List.getElem?_eq_getElem hjl
      rw [hx_fs_get hf, hx_fs_get hf, hx_pi_ne h x (fun z => hj z.2)]
      rfl
    · rw [List.getElem?_eq_none (by rw [hx_fs_len]; omega), List.getElem?_eq_none (by rw [hx_fs_len]; omega)]
theorem hx_fs_pr {fs : List hx_f} {h : hx_h} {a k : Nat} {b : Bool × List Nat} {x : Option Nat} (hk : fs[k]? = some (.inr b)) : (hx_fs fs h a).set k (va_rf x) = hx_fs fs (hx_pr h a k x) a := by
  have hl := (List.getElem?_eq_some_iff.mp hk).1
  apply List.ext_getElem?
  intro j
  by_cases hj : j = k
  · subst hj
    rw [List.getElem?_set_self (by rw [hx_fs_len]; exact hl), hx_fs_get hk, hx_pr_at]
    rfl
  · rw [List.getElem?_set_ne (Ne.symm hj)]
    by_cases hjl : j < fs.length
    · have hf : fs[j]? = some fs[j] := List.getElem?_eq_getElem hjl
      rw [hx_fs_get hf, hx_fs_get hf, hx_pr_ne h x (fun z => hj z.2)]
      rfl
    · rw [List.getElem?_eq_none (by rw [hx_fs_len]; omega), List.getElem?_eq_none (by rw [hx_fs_len]; omega)]
theorem hx_at {tb : List hx_d} {tys : hx_y} {L : List Nat} {h : hx_h} {a : Nat} (ha : a ∈ L) : ∃ k : Nat, (hx_p tb tys L h)[k]? = some (a, hx_e tb tys h a) := va_pl_get (X := []) ha
theorem hx_e_obj {tb : List hx_d} {tys : hx_y} {h : hx_h} {a t ci : Nat} {fs : List hx_f} (ht : h.1 a = t) (hd : tb[t]? = some (.inl (ci, fs))) : hx_e tb tys h a = .inr (ci, hx_fs fs h a) := by
  unfold hx_e
  rw [ht, hd]
theorem hx_e_arr {tb : List hx_d} {tys : hx_y} {h : hx_h} {a t t0 n : Nat} {f : hx_f} (ht : h.1 a = t) (hd : tb[t]? = some (.inr (t0, n, f))) : hx_e tb tys h a = .inl (hx_t tys t0, hx_a n f h a) := by
  unfold hx_e
  rw [ht, hd]
/-- a change of one cell, as the world sees it -/
theorem hx_set {tb : List hx_d} {tys : hx_y} {A : Nat → Prop} {L : List Nat} {h h1 : hx_h} {a k : Nat} {e : va_E} (hD : va_D A (hx_p tb tys L h)) (ha : a ∈ L) (hk : (hx_p tb tys L h)[k]? = some (a, hx_e tb tys h a)) (he : hx_e tb tys h1 a = e) (hn : ∀ b, b ≠ a → hx_e tb tys h1 b = hx_e tb tys h b) : (hx_p tb tys L h).set k (a, e) = hx_p tb tys L h1 := by
  have h1 := va_pl_set (X := []) (e := e) hD ha hk
  refine h1.trans ?_
  refine va_pl_congr (fun b => ?_)
  by_cases hb : b = a
  · subst hb
    rw [va_up_self, he]
  · rw [va_up_ne _ _ hb, hn b hb]
theorem hx_T.gi {tb : List hx_d} {L : List Nat} {h : hx_h} {a t ci k : Nat} {fs : List hx_f} {b : Int × Int} (hT : hx_T tb L h) (g : hx_g L h a t) (hd : tb[t]? = some (.inl (ci, fs))) (hf : fs[k]? = some (.inl b)) : b.1 ≤ (h.2.1 a k).toInt ∧ (h.2.1 a k).toInt ≤ b.2 := by
  have h0 := hT a g.1
  unfold hx_c at h0
  rw [g.2, hd] at h0
  exact h0 k _ hf
theorem hx_T.gr {tb : List hx_d} {L : List Nat} {h : hx_h} {a t ci k : Nat} {fs : List hx_f} {b : Bool × List Nat} (hT : hx_T tb L h) (g : hx_g L h a t) (hd : tb[t]? = some (.inl (ci, fs))) (hf : fs[k]? = some (.inr b)) : (b.1 = true → h.2.2 a k ≠ none) ∧ ∀ q, h.2.2 a k = some q → q ∈ L ∧ h.1 q ∈ b.2 := by
  have h0 := hT a g.1
  unfold hx_c at h0
  rw [g.2, hd] at h0
  exact h0 k _ hf
theorem hx_T.ei {tb : List hx_d} {L : List Nat} {h : hx_h} {a t t0 n k : Nat} {b : Int × Int} (hT : hx_T tb L h) (g : hx_g L h a t) (hd : tb[t]? = some (.inr (t0, n, .inl b))) (hk : k < n) : b.1 ≤ (h.2.1 a k).toInt ∧ (h.2.1 a k).toInt ≤ b.2 := by
  have h0 := hT a g.1
  unfold hx_c at h0
  rw [g.2, hd] at h0
  exact h0 k hk
theorem hx_T.er {tb : List hx_d} {L : List Nat} {h : hx_h} {a t t0 n k : Nat} {b : Bool × List Nat} (hT : hx_T tb L h) (g : hx_g L h a t) (hd : tb[t]? = some (.inr (t0, n, .inr b))) (hk : k < n) : (b.1 = true → h.2.2 a k ≠ none) ∧ ∀ q, h.2.2 a k = some q → q ∈ L ∧ h.1 q ∈ b.2 := by
  have h0 := hT a g.1
  unfold hx_c at h0
  rw [g.2, hd] at h0
  exact h0 k hk
theorem hx_T.pi {tb : List hx_d} {L : List Nat} {h : hx_h} {a t k : Nat} {x : Int32} {d : hx_d} (hT : hx_T tb L h) (g : hx_g L h a t) (hd : tb[t]? = some d) (hx : ∀ f, (match d with | .inl (_, fs) => fs[k]? = some f | .inr (_, _, f0) => f0 = f) → ∀ r, (match f with | Sum.inl _ => True | Sum.inr (Sum.inl _) => r = h.2.2 a k | Sum.inr (Sum.inr _) => True) → hx_o L h f x r) : hx_T tb L (hx_pi h a k x) := by
  intro c hc
  have h0 := hT c hc
  unfold hx_c at h0 ⊢
  have e1 : (hx_pi h a k x).1 = h.1 := rfl
  have e2 : (hx_pi h a k x).2.2 = h.2.2 := rfl
  rw [e1, e2]
  by_cases hca : c = a
  · subst hca
    rw [g.2, hd] at h0 ⊢
    rcases d with ⟨ci, fs⟩ | ⟨t0, n, f0⟩
    · intro j f hj
      by_cases hjk : j = k
      · subst hjk
        rw [hx_pi_at]
        refine hx f hj _ ?_
        rcases f with f | f | f <;> simp
      · rw [hx_pi_ne h x (fun z => hjk z.2)]
        exact h0 j f hj
    · intro j hj
      by_cases hjk : j = k
      · subst hjk
        rw [hx_pi_at]
        refine hx f0 rfl _ ?_
        rcases f0 with f0 | f0 | f0 <;> simp
      · rw [hx_pi_ne h x (fun z => hjk z.2)]
        exact h0 j hj
  · have e3 : ∀ j, (hx_pi h a k x).2.1 c j = h.2.1 c j := fun j => hx_pi_ne h x (fun z => hca z.1)
    cases hd2 : tb[h.1 c]? with
    | none => rw [hd2] at h0; exact h0
    | some d2 =>
      rw [hd2] at h0
      rcases d2 with ⟨ci, fs⟩ | ⟨t0, n, f0⟩
      · intro j f hj
        rw [e3]
        exact h0 j f hj
      · intro j hj
        rw [e3]
        exact h0 j hj
theorem hx_T.pr {tb : List hx_d} {L : List Nat} {h : hx_h} {a t k : Nat} {x : Option Nat} {d : hx_d} (hT : hx_T tb L h) (g : hx_g L h a t) (hd : tb[t]? = some d) (hx : ∀ f, (match d with | .inl (_, fs) => fs[k]? = some f | .inr (_, _, f0) => f0 = f) → ∀ i, (match f with | Sum.inl _ => i = h.2.1 a k | Sum.inr (Sum.inl _) => True | Sum.inr (Sum.inr _) => True) → hx_o L h f i x) : hx_T tb L (hx_pr h a k x) := by
  intro c hc
  have h0 := hT c hc
  unfold hx_c at h0 ⊢
  have e1 : (hx_pr h a k x).1 = h.1 := rfl
  have e2 : (hx_pr h a k x).2.1 = h.2.1 := rfl
  rw [e1, e2]
  by_cases hca : c = a
  · subst hca
    rw [g.2, hd] at h0 ⊢
    rcases d with ⟨ci, fs⟩ | ⟨t0, n, f0⟩
    · intro j f hj
      by_cases hjk : j = k
      · subst hjk
        rw [hx_pr_at]
        refine hx f hj _ ?_
        rcases f with f | f | f <;> simp
      · rw [hx_pr_ne h x (fun z => hjk z.2)]
        exact h0 j f hj
    · intro j hj
      by_cases hjk : j = k
      · subst hjk
        rw [hx_pr_at]
        refine hx f0 rfl _ ?_
        rcases f0 with f0 | f0 | f0 <;> simp
      · rw [hx_pr_ne h x (fun z => hjk z.2)]
        exact h0 j hj
  · have e3 : ∀ j, (hx_pr h a k x).2.2 c j = h.2.2 c j := fun j => hx_pr_ne h x (fun z => hca z.1)
    cases hd2 : tb[h.1 c]? with
    | none => rw [hd2] at h0; exact h0
    | some d2 =>
      rw [hd2] at h0
      rcases d2 with ⟨ci, fs⟩ | ⟨t0, n, f0⟩
      · intro j f hj
        rw [e3]
        exact h0 j f hj
      · intro j hj
        rw [e3]
        exact h0 j hj
theorem hx_S.pi {tb : List hx_d} {M : hx_m} {L L0 : List Nat} {h h0 : hx_h} {a t k : Nat} {x : Int32} (hS : hx_S tb M L0 h0 L h) (g : hx_g L h a t) (hm : match tb[t]? with | some (.inr _) => (t, 0) ∈ M | _ => (t, k) ∈ M) : hx_S tb M L0 h0 L (hx_pi h a k x) := by
  refine hS.tr ⟨fun q hq => ⟨hq, rfl⟩, fun q hq j hj => ⟨?_, rfl⟩⟩
  refine hx_pi_ne h x (fun z => ?_)
  rw [z.1, z.2, g.2] at hj
  revert hm hj
  cases tb[t]? with
  | none => exact fun u v => v u
  | some d => rcases d with ⟨ci, fs⟩ | ⟨t0, n, f⟩ <;> exact fun u v => v u
theorem hx_S.pr {tb : List hx_d} {M : hx_m} {L L0 : List Nat} {h h0 : hx_h} {a t k : Nat} {x : Option Nat} (hS : hx_S tb M L0 h0 L h) (g : hx_g L h a t) (hm : match tb[t]? with | some (.inr _) => (t, 0) ∈ M | _ => (t, k) ∈ M) : hx_S tb M L0 h0 L (hx_pr h a k x) := by
  refine hS.tr ⟨fun q hq => ⟨hq, rfl⟩, fun q hq j hj => ⟨rfl, ?_⟩⟩
  refine hx_pr_ne h x (fun z => ?_)
  rw [z.1, z.2, g.2] at hj
  revert hm hj
  cases tb[t]? with
  | none => exact fun u v => v u
  | some d => rcases d with ⟨ci, fs⟩ | ⟨t0, n, f⟩ <;> exact fun u v => v u
end
section
/-! ROWS over the typed heap -/
/-- what the program says of a class -/
def hx_C (Ts : List Cond) (cl : List vw_C) (ci : Nat) (C : String) (T : u_T) (N : Nat) (ty0 : Nat → FieldType) : Prop :=
  cl[ci]? = some (C, T, N) ∧ (∀ w ∈ u_ws C T N, w ∈ Ts) ∧ (∀ k, k < N → parseFieldDescriptor (T k).2.2.1 = some (ty0 k)) ∧ ∀ a, a < N → ∀ b, b < N → a ≠ b → (T a).2.1 ≠ (T b).2.1
section HXR
variable {p : Program} {l : Launch} {e : Env} {R : Room} {s : State} {m : MethodId} {args : Array Value} {below : List Frame} {meth : Method} {c : Code} {H : Heap} {locs : List Loc} {cells slots : Nat} {Q : State → Prop}
variable {cc : ByteArray} {pc : Nat} {ls : Array Slot} {rest : List Value} {D : va_G} {cl : List vw_C} {A : Nat → Prop} {a : Nat} {tys : hx_y} {H0 : Heap} {tb : List hx_d} {L : List Nat} {h : hx_h}
theorem hx_geti (hx : p.tables.exec = Jvm.exec) (hb : c.code = cc) {own C : String} {T : u_T} {N ci index : Nat} {Ts : List Cond} {ty0 : Nat → FieldType} (hts : ∀ w ∈ Ts, w.before args s = true) (hC : hx_C Ts cl ci C T N ty0) (hown : s.vm.findClass own = some m.cls) (hW : hx_W tb tys D cl A H0 L h s H locs) (hT : hx_T tb L h) {t : Nat} (g : hx_g L h a t) {fs : List hx_f} (hd : tb[t]? = some (.inl (ci, fs))) (k : Nat) (hk : k < N) {lo hi : Int} (hf : fs[k]? = some (.inl (lo, hi))) {ref nm ds : String} (hlink : Cond.fieldLink own index ref nm ds ∈ Ts) (hsame : (T k).1 = ref ∧ (T k).2.1 = nm ∧ (T k).2.2.1 = ds) (hdg : decode cc pc = .ok (.getfield index, 3))
    (kk : ∀ x : Int32, x = h.2.1 a k → lo ≤ x.toInt → x.toInt ≤ hi → W p l e R s m args below meth c H locs cells slots Q (F0 m (pc + 3) ls (.int x :: rest))) : W p l e R s m args below meth c H locs cells slots Q (F0 m pc ls (.ref a :: rest)) := by
  obtain ⟨k0, hk0⟩ := hx_at (tb := tb) (tys := tys) (h := h) g.1
  rw [hx_e_obj g.2 hd] at hk0
  obtain ⟨hlo, hhi⟩ := hx_T.gi hT g hd hf
  obtain ⟨rfl, rfl, rfl⟩ := hsame
  exact va_get (v := .int (h.2.1 a k)) hx hb hts hC.2.1 hown hW.1 hW.2.1 k0 hk0 hC.1 k hk (hts _ hlink) (fun _ h9 => h9) (hx_fs_get hf) hdg (kk _ rfl hlo hhi)
theorem hx_getr (hx : p.tables.exec = Jvm.exec) (hb : c.code = cc) {own C : String} {T : u_T} {N ci index : Nat} {Ts : List Cond} {ty0 : Nat → FieldType} (hts : ∀ w ∈ Ts, w.before args s = true) (hC : hx_C Ts cl ci C T N ty0) (hown : s.vm.findClass own = some m.cls) (hW : hx_W tb tys D cl A H0 L h s H locs) (hT : hx_T tb L h) {t : Nat} (g : hx_g L h a t) {fs : List hx_f} (hd : tb[t]? = some (.inl (ci, fs))) (k : Nat) (hk : k < N) {nn : Bool} {tt : List Nat} (hf : fs[k]? = some (.inr (nn, tt))) {ref nm ds : String} (hlink : Cond.fieldLink own index ref nm ds ∈ Ts) (hsame : (T k).1 = ref ∧ (T k).2.1 = nm ∧ (T k).2.2.1 = ds) (hdg : decode cc pc = .ok (.getfield index, 3))
    (kk : ∀ r : Option Nat, r = h.2.2 a k → (nn = true → r ≠ none) → (∀ q, r = some q → q ∈ L ∧ h.1 q ∈ tt) → W p l e R s m args below meth c H locs cells slots Q (F0 m (pc + 3) ls (va_rf r :: rest))) : W p l e R s m args below meth c H locs cells slots Q (F0 m pc ls (.ref a :: rest)) := by
  obtain ⟨k0, hk0⟩ := hx_at (tb := tb) (tys := tys) (h := h) g.1
  rw [hx_e_obj g.2 hd] at hk0
  obtain ⟨h1, h2⟩ := hx_T.gr hT g hd hf
  obtain ⟨rfl, rfl, rfl⟩ := hsame
  exact va_get (v := va_rf (h.2.2 a k)) hx hb hts hC.2.1 hown hW.1 hW.2.1 k0 hk0 hC.1 k hk (hts _ hlink) (fun _ h9 => h9) (hx_fs_get hf) hdg (kk _ rfl h1 h2)
/-- a reference that is never null, of one tag -/
theorem hx_getn (hx : p.tables.exec = Jvm.exec) (hb : c.code = cc) {own C : String} {T : u_T} {N ci index : Nat} {Ts : List Cond} {ty0 : Nat → FieldType} (hts : ∀ w ∈ Ts, w.before args s = true) (hC : hx_C Ts cl ci C T N ty0) (hown : s.vm.findClass own = some m.cls) (hW : hx_W tb tys D cl A H0 L h s H locs) (hT : hx_T tb L h) {t : Nat} (g : hx_g L h a t) {fs : List hx_f} (hd : tb[t]? = some (.inl (ci, fs))) (k : Nat) (hk : k < N) {t1 : Nat} (hf : fs[k]? = some (.inr (true, [t1]))) {ref nm ds : String} (hlink : Cond.fieldLink own index ref nm ds ∈ Ts) (hsame : (T k).1 = ref ∧ (T k).2.1 = nm ∧ (T k).2.2.1 = ds) (hdg : decode cc pc = .ok (.getfield index, 3))
    (kk : ∀ q : Nat, h.2.2 a k = some q → hx_g L h q t1 → W p l e R s m args below meth c H locs cells slots Q (F0 m (pc + 3) ls (.ref q :: rest))) : W p l e R s m args below meth c H locs cells slots Q (F0 m pc ls (.ref a :: rest)) := by
  refine hx_getr hx hb hts hC hown hW hT g hd k hk hf hlink hsame hdg fun r hr h1 h2 => ?_
  rcases r with _ | q
  · exact absurd rfl (h1 rfl)
  · obtain ⟨u1, u2⟩ := h2 q rfl
    exact kk q hr.symm ⟨u1, by simpa using u2⟩
theorem hx_puti (hx : p.tables.exec = Jvm.exec) (hb : c.code = cc) {own C : String} {T : u_T} {N ci index : Nat} {Ts : List Cond} {ty0 : Nat → FieldType} (hts : ∀ w ∈ Ts, w.before args s = true) (hC : hx_C Ts cl ci C T N ty0) (hown : s.vm.findClass own = some m.cls) (hW : hx_W tb tys D cl A H0 L h s H locs) (hT : hx_T tb L h) {M : hx_m} {L0 : List Nat} {h0 : hx_h} (hM : hx_S tb M L0 h0 L h) {t : Nat} (g : hx_g L h a t) {fs : List hx_f} (hd : tb[t]? = some (.inl (ci, fs))) (k : Nat) (hk : k < N) {lo hi : Int} (hf : fs[k]? = some (.inl (lo, hi))) {ref nm ds : String} (hlink : Cond.fieldLink own index ref nm ds ∈ Ts) (hsame : (T k).1 = ref ∧ (T k).2.1 = nm ∧ (T k).2.2.1 = ds) (hfin : (T k).2.2.2 = false) {x : Int32} (hx1 : lo ≤ x.toInt ∧ x.toInt ≤ hi) {ty : FieldType} (hty : ty0 k = ty) (hn : narrow ty (.int x) = .int x) (hfit : fits ty (.int x) = true) (hm : (t, k) ∈ M) (hdg : decode cc pc = .ok (.putfield index, 3))
    (kk : ∀ (H1 : Heap) (locs1 : List Loc) (h1 : hx_h), h1 = hx_pi h a k x → hx_W tb tys D cl A H0 L h1 s H1 locs1 → hx_T tb L h1 → hx_S tb M L0 h0 L h1 → W p l e R s m args below meth c H1 locs1 cells slots Q (F0 m (pc + 3) ls rest)) : W p l e R s m args below meth c H locs cells slots Q (F0 m pc ls (.int x :: .ref a :: rest)) := by
  obtain ⟨k0, hk0⟩ := hx_at (tb := tb) (tys := tys) (h := h) g.1
  have hk1 := hk0
  rw [hx_e_obj g.2 hd] at hk0
  obtain ⟨rfl, rfl, rfl⟩ := hsame
  subst hty
  obtain ⟨hK, hP, hD, hS, hA⟩ := hW
  refine va_put (v := .int x) (ty := ty0 k) hx hb hts hC.2.1 ty0 hC.2.2.1 hC.2.2.2 hown hK hP hD hS k0 hk0 hC.1 k hk (hts _ hlink) (fun _ h9 => h9) hfin (hC.2.2.1 k hk) hn hfit (by rw [hx_fs_len]; exact (List.getElem?_eq_some_iff.mp hf).1) hdg (fun H1 locs1 hP2 hD2 hS2 => ?_)
  have he : hx_e tb tys (hx_pi h a k x) a = .inr (ci, (hx_fs fs h a).set k (.int x)) := by
    rw [hx_e_obj (h := hx_pi h a k x) g.2 hd, hx_fs_pi hf]
  rw [hx_set (h1 := hx_pi h a k x) hD g.1 hk1 he (fun b hb => hx_e_pi hb)] at hP2 hD2
  refine kk H1 locs1 _ rfl ⟨hK, hP2, hD2, hS2, hA⟩ (hT.pi g hd ?_) (hM.pi g (by rw [hd]; exact hm))
  intro f hf2 r _
  have := hf.symm.trans hf2
  cases this
  exact hx1
theorem hx_putr (hx : p.tables.exec = Jvm.exec) (hb : c.code = cc) {own C : String} {T : u_T} {N ci index : Nat} {Ts : List Cond} {ty0 : Nat → FieldType} (hts : ∀ w ∈ Ts, w.before args s = true) (hC : hx_C Ts cl ci C T N ty0) (hown : s.vm.findClass own = some m.cls) (hW : hx_W tb tys D cl A H0 L h s H locs) (hT : hx_T tb L h) {M : hx_m} {L0 : List Nat} {h0 : hx_h} (hM : hx_S tb M L0 h0 L h) {t : Nat} (g : hx_g L h a t) {fs : List hx_f} (hd : tb[t]? = some (.inl (ci, fs))) (k : Nat) (hk : k < N) {nn : Bool} {tt : List Nat} (hf : fs[k]? = some (.inr (nn, tt))) {ref nm ds : String} (hlink : Cond.fieldLink own index ref nm ds ∈ Ts) (hsame : (T k).1 = ref ∧ (T k).2.1 = nm ∧ (T k).2.2.1 = ds) (hfin : (T k).2.2.2 = false) {x : Option Nat} (hx1 : (nn = true → x ≠ none) ∧ ∀ q, x = some q → q ∈ L ∧ h.1 q ∈ tt) {ty : FieldType} (hty : ty0 k = ty) (hn : narrow ty (va_rf x) = va_rf x) (hfit : fits ty (va_rf x) = true) (hm : (t, k) ∈ M) (hdg : decode cc pc = .ok (.putfield index, 3))
    (kk : ∀ (H1 : Heap) (locs1 : List Loc) (h1 : hx_h), h1 = hx_pr h a k x → hx_W tb tys D cl A H0 L h1 s H1 locs1 → hx_T tb L h1 → hx_S tb M L0 h0 L h1 → W p l e R s m args below meth c H1 locs1 cells slots Q (F0 m (pc + 3) ls rest)) : W p l e R s m args below meth c H locs cells slots Q (F0 m pc ls (va_rf x :: .ref a :: rest)) := by
  obtain ⟨k0, hk0⟩ := hx_at (tb := tb) (tys := tys) (h := h) g.1
  have hk1 := hk0
  rw [hx_e_obj g.2 hd] at hk0
  obtain ⟨rfl, rfl, rfl⟩ := hsame
  subst hty
  obtain ⟨hK, hP, hD, hS, hA⟩ := hW
  refine va_put (v := va_rf x) (ty := ty0 k) hx hb hts hC.2.1 ty0 hC.2.2.1 hC.2.2.2 hown hK hP hD hS k0 hk0 hC.1 k hk (hts _ hlink) (fun _ h9 => h9) hfin (hC.2.2.1 k hk) hn hfit (by rw [hx_fs_len]; exact (List.getElem?_eq_some_iff.mp hf).1) hdg (fun H1 locs1 hP2 hD2 hS2 => ?_)
  have he : hx_e tb tys (hx_pr h a k x) a = .inr (ci, (hx_fs fs h a).set k (va_rf x)) := by
    rw [hx_e_obj (h := hx_pr h a k x) g.2 hd, hx_fs_pr hf]
  rw [hx_set (h1 := hx_pr h a k x) hD g.1 hk1 he (fun b hb => hx_e_pr hb)] at hP2 hD2
  refine kk H1 locs1 _ rfl ⟨hK, hP2, hD2, hS2, hA⟩ (hT.pr g hd ?_) (hM.pr g (by rw [hd]; exact hm))
  intro f hf2 r _
  have := hf.symm.trans hf2
  cases this
  exact hx1
theorem hx_putiF (hx : p.tables.exec = Jvm.exec) (hb : c.code = cc) {own C : String} {T : u_T} {N ci index : Nat} {Ts : List Cond} {ty0 : Nat → FieldType} (hts : ∀ w ∈ Ts, w.before args s = true) (hC : hx_C Ts cl ci C T N ty0) (hown : s.vm.findClass own = some m.cls) (hW : hx_W tb tys D cl A H0 L h s H locs) (hT : hx_T tb L h) {M : hx_m} {L0 : List Nat} {h0 : hx_h} (hM : hx_S tb M L0 h0 L h) {t : Nat} (g : hx_g L h a t) {fs : List hx_f} (hd : tb[t]? = some (.inl (ci, fs))) (k : Nat) (hk : k < N) {lo hi : Int} (hf : fs[k]? = some (.inl (lo, hi))) {ref nm ds : String} (hlink : Cond.fieldLink own index ref nm ds ∈ Ts) (hsame : (T k).1 = ref ∧ (T k).2.1 = nm ∧ (T k).2.2.1 = ds) (hfin : (T k).2.2.2 = true) (hin2 : meth.name = "<init>") (hdecl : (T k).1 = own) {x : Int32} (hx1 : lo ≤ x.toInt ∧ x.toInt ≤ hi) {ty : FieldType} (hty : ty0 k = ty) (hn : narrow ty (.int x) = .int x) (hfit : fits ty (.int x) = true) (hm : (t, k) ∈ M) (hdg : decode cc pc = .ok (.putfield index, 3))
    (kk : ∀ (H1 : Heap) (locs1 : List Loc) (h1 : hx_h), h1 = hx_pi h a k x → hx_W tb tys D cl A H0 L h1 s H1 locs1 → hx_T tb L h1 → hx_S tb M L0 h0 L h1 → W p l e R s m args below meth c H1 locs1 cells slots Q (F0 m (pc + 3) ls rest)) : W p l e R s m args below meth c H locs cells slots Q (F0 m pc ls (.int x :: .ref a :: rest)) := by
  obtain ⟨k0, hk0⟩ := hx_at (tb := tb) (tys := tys) (h := h) g.1
  have hk1 := hk0
  rw [hx_e_obj g.2 hd] at hk0
  obtain ⟨rfl, rfl, rfl⟩ := hsame
  subst hty
  obtain ⟨hK, hP, hD, hS, hA⟩ := hW
  refine va_putF (v := .int x) (ty := ty0 k) hx hb hts hC.2.1 ty0 hC.2.2.1 hC.2.2.2 hown hK hP hD hS k0 hk0 hC.1 k hk (hts _ hlink) (fun _ h9 => h9) hfin hin2 hdecl (hC.2.2.1 k hk) hn hfit (by rw [hx_fs_len]; exact (List.getElem?_eq_some_iff.mp hf).1) hdg (fun H1 locs1 hP2 hD2 hS2 => ?_)
  have he : hx_e tb tys (hx_pi h a k x) a = .inr (ci, (hx_fs fs h a).set k (.int x)) := by
    rw [hx_e_obj (h := hx_pi h a k x) g.2 hd, hx_fs_pi hf]
  rw [hx_set (h1 := hx_pi h a k x) hD g.1 hk1 he (fun b hb => hx_e_pi hb)] at hP2 hD2
  refine kk H1 locs1 _ rfl ⟨hK, hP2, hD2, hS2, hA⟩ (hT.pi g hd ?_) (hM.pi g (by rw [hd]; exact hm))
  intro f hf2 r _
  have := hf.symm.trans hf2
  cases this
  exact hx1
theorem hx_putrF (hx : p.tables.exec = Jvm.exec) (hb : c.code = cc) {own C : String} {T : u_T} {N ci index : Nat} {Ts : List Cond} {ty0 : Nat → FieldType} (hts : ∀ w ∈ Ts, w.before args s = true) (hC : hx_C Ts cl ci C T N ty0) (hown : s.vm.findClass own = some m.cls) (hW : hx_W tb tys D cl A H0 L h s H locs) (hT : hx_T tb L h) {M : hx_m} {L0 : List Nat} {h0 : hx_h} (hM : hx_S tb M L0 h0 L h) {t : Nat} (g : hx_g L h a t) {fs : List hx_f} (hd : tb[t]? = some (.inl (ci, fs))) (k : Nat) (hk : k < N) {nn : Bool} {tt : List Nat} (hf : fs[k]? = some (.inr (nn, tt))) {ref nm ds : String} (hlink : Cond.fieldLink own index ref nm ds ∈ Ts) (hsame : (T k).1 = ref ∧ (T k).2.1 = nm ∧ (T k).2.2.1 = ds) (hfin : (T k).2.2.2 = true) (hin2 : meth.name = "<init>") (hdecl : (T k).1 = own) {x : Option Nat} (hx1 : (nn = true → x ≠ none) ∧ ∀ q, x = some q → q ∈ L ∧ h.1 q ∈ tt) {ty : FieldType} (hty : ty0 k = ty) (hn : narrow ty (va_rf x) = va_rf x) (hfit : fits ty (va_rf x) = true) (hm : (t, k) ∈ M) (hdg : decode cc pc = .ok (.putfield index, 3))
    (kk : ∀ (H1 : Heap) (locs1 : List Loc) (h1 : hx_h), h1 = hx_pr h a k x → hx_W tb tys D cl A H0 L h1 s H1 locs1 → hx_T tb L h1 → hx_S tb M L0 h0 L h1 → W p l e R s m args below meth c H1 locs1 cells slots Q (F0 m (pc + 3) ls rest)) : W p l e R s m args below meth c H locs cells slots Q (F0 m pc ls (va_rf x :: .ref a :: rest)) := by
  obtain ⟨k0, hk0⟩ := hx_at (tb := tb) (tys := tys) (h := h) g.1
  have hk1 := hk0
  rw [hx_e_obj g.2 hd] at hk0
  obtain ⟨rfl, rfl, rfl⟩ := hsame
  subst hty
  obtain ⟨hK, hP, hD, hS, hA⟩ := hW
  refine va_putF (v := va_rf x) (ty := ty0 k) hx hb hts hC.2.1 ty0 hC.2.2.1 hC.2.2.2 hown hK hP hD hS k0 hk0 hC.1 k hk (hts _ hlink) (fun _ h9 => h9) hfin hin2 hdecl (hC.2.2.1 k hk) hn hfit (by rw [hx_fs_len]; exact (List.getElem?_eq_some_iff.mp hf).1) hdg (fun H1 locs1 hP2 hD2 hS2 => ?_)
  have he : hx_e tb tys (hx_pr h a k x) a = .inr (ci, (hx_fs fs h a).set k (va_rf x)) := by
    rw [hx_e_obj (h := hx_pr h a k x) g.2 hd, hx_fs_pr hf]
  rw [hx_set (h1 := hx_pr h a k x) hD g.1 hk1 he (fun b hb => hx_e_pr hb)] at hP2 hD2
  refine kk H1 locs1 _ rfl ⟨hK, hP2, hD2, hS2, hA⟩ (hT.pr g hd ?_) (hM.pr g (by rw [hd]; exact hm))
  intro f hf2 r _
  have := hf.symm.trans hf2
  cases this
  exact hx1
theorem hx_iald (hx : p.tables.exec = Jvm.exec) (hb : c.code = cc) (hW : hx_W tb tys D cl A H0 L h s H locs) (hT : hx_T tb L h) {t : Nat} (g : hx_g L h a t) {t0 n : Nat} {lo hi : Int} (hd : tb[t]? = some (.inr (t0, n, .inl (lo, hi)))) {cA : ClassId} (ht : tys[t0]? = some (cA, .int)) {i : Int32} (hin : 0 ≤ i.toInt ∧ i.toInt < n) (hdg : decode cc pc = .ok (.iaload, 1))
    (kk : ∀ x : Int32, x = h.2.1 a i.toNatClampNeg → lo ≤ x.toInt → x.toInt ≤ hi → W p l e R s m args below meth c H locs cells slots Q (F0 m (pc + 1) ls (.int x :: rest))) : W p l e R s m args below meth c H locs cells slots Q (F0 m pc ls (.int i :: .ref a :: rest)) := by
  obtain ⟨k0, hk0⟩ := hx_at (tb := tb) (tys := tys) (h := h) g.1
  rw [hx_e_arr g.2 hd] at hk0
  have hin2 : vp_in i n := vp_in_iff.mpr hin
  have hlt : i.toNatClampNeg < n := Nat.not_le.mp fun q => hin2 (Or.inr q)
  obtain ⟨h1, h2⟩ := hx_T.ei hT g hd hlt
  have hcA : hx_t tys t0 = cA := by simp [hx_t, ht]
  rw [hcA] at hk0
  exact va_iald hx hb hW.1 hW.2.1 k0 t0 hk0 ht hin2 hdg (kk _ rfl h1 h2)
theorem hx_bald (hx : p.tables.exec = Jvm.exec) (hb : c.code = cc) (hW : hx_W tb tys D cl A H0 L h s H locs) (hT : hx_T tb L h) {t : Nat} (g : hx_g L h a t) {t0 n : Nat} {lo hi : Int} (hd : tb[t]? = some (.inr (t0, n, .inl (lo, hi)))) {cA : ClassId} (ht : tys[t0]? = some (cA, .byte)) {i : Int32} (hin : 0 ≤ i.toInt ∧ i.toInt < n) (hdg : decode cc pc = .ok (.baload, 1))
    (kk : ∀ x : Int32, x = h.2.1 a i.toNatClampNeg → lo ≤ x.toInt → x.toInt ≤ hi → W p l e R s m args below meth c H locs cells slots Q (F0 m (pc + 1) ls (.int x :: rest))) : W p l e R s m args below meth c H locs cells slots Q (F0 m pc ls (.int i :: .ref a :: rest)) := by
  obtain ⟨k0, hk0⟩ := hx_at (tb := tb) (tys := tys) (h := h) g.1
  rw [hx_e_arr g.2 hd] at hk0
  have hin2 : vp_in i n := vp_in_iff.mpr hin
  have hlt : i.toNatClampNeg < n := Nat.not_le.mp fun q => hin2 (Or.inr q)
  obtain ⟨h1, h2⟩ := hx_T.ei hT g hd hlt
  have hcA : hx_t tys t0 = cA := by simp [hx_t, ht]
  rw [hcA] at hk0
  exact va_bald hx hb hW.1 hW.2.1 k0 t0 hk0 ht hin2 hdg (kk _ rfl h1 h2)
theorem hx_zald (hx : p.tables.exec = Jvm.exec) (hb : c.code = cc) (hW : hx_W tb tys D cl A H0 L h s H locs) (hT : hx_T tb L h) {t : Nat} (g : hx_g L h a t) {t0 n : Nat} {lo hi : Int} (hd : tb[t]? = some (.inr (t0, n, .inl (lo, hi)))) {cA : ClassId} (ht : tys[t0]? = some (cA, .boolean)) {i : Int32} (hin : 0 ≤ i.toInt ∧ i.toInt < n) (hdg : decode cc pc = .ok (.baload, 1))
    (kk : ∀ x : Int32, x = h.2.1 a i.toNatClampNeg → lo ≤ x.toInt → x.toInt ≤ hi → W p l e R s m args below meth c H locs cells slots Q (F0 m (pc + 1) ls (.int x :: rest))) : W p l e R s m args below meth c H locs cells slots Q (F0 m pc ls (.int i :: .ref a :: rest)) := by
  obtain ⟨k0, hk0⟩ := hx_at (tb := tb) (tys := tys) (h := h) g.1
  rw [hx_e_arr g.2 hd] at hk0
  have hin2 : vp_in i n := vp_in_iff.mpr hin
  have hlt : i.toNatClampNeg < n := Nat.not_le.mp fun q => hin2 (Or.inr q)
  obtain ⟨h1, h2⟩ := hx_T.ei hT g hd hlt
  have hcA : hx_t tys t0 = cA := by simp [hx_t, ht]
  rw [hcA] at hk0
  exact va_zald hx hb hW.1 hW.2.1 k0 t0 hk0 ht hin2 hdg (kk _ rfl h1 h2)
theorem hx_aald (hx : p.tables.exec = Jvm.exec) (hb : c.code = cc) (hW : hx_W tb tys D cl A H0 L h s H locs) (hT : hx_T tb L h) {t : Nat} (g : hx_g L h a t) {t0 n : Nat} {nn : Bool} {tt : List Nat} (hd : tb[t]? = some (.inr (t0, n, .inr (nn, tt)))) {cA : ClassId} {C : String} (ht : tys[t0]? = some (cA, .object C)) {i : Int32} (hin : 0 ≤ i.toInt ∧ i.toInt < n) (hdg : decode cc pc = .ok (.aaload, 1))
    (kk : ∀ r : Option Nat, r = h.2.2 a i.toNatClampNeg → (nn = true → r ≠ none) → (∀ q, r = some q → q ∈ L ∧ h.1 q ∈ tt) → W p l e R s m args below meth c H locs cells slots Q (F0 m (pc + 1) ls (va_rf r :: rest))) : W p l e R s m args below meth c H locs cells slots Q (F0 m pc ls (.int i :: .ref a :: rest)) := by
  obtain ⟨k0, hk0⟩ := hx_at (tb := tb) (tys := tys) (h := h) g.1
  rw [hx_e_arr g.2 hd] at hk0
  have hin2 : vp_in i n := vp_in_iff.mpr hin
  have hlt : i.toNatClampNeg < n := Nat.not_le.mp fun q => hin2 (Or.inr q)
  obtain ⟨h1, h2⟩ := hx_T.er hT g hd hlt
  have hcA : hx_t tys t0 = cA := by simp [hx_t, ht]
  rw [hcA] at hk0
  exact va_aldq hx hb hW.1 hW.2.1 k0 t0 hk0 ht hin2 hdg (kk _ rfl h1 h2)
theorem hx_iast (hx : p.tables.exec = Jvm.exec) (hb : c.code = cc) (hW : hx_W tb tys D cl A H0 L h s H locs) (hT : hx_T tb L h) {M : hx_m} {L0 : List Nat} {h0 : hx_h} (hM : hx_S tb M L0 h0 L h) {t : Nat} (g : hx_g L h a t) {t0 n : Nat} {lo hi : Int} (hd : tb[t]? = some (.inr (t0, n, .inl (lo, hi)))) {cA : ClassId} (ht : tys[t0]? = some (cA, .int)) {i x y : Int32} (hin : 0 ≤ i.toInt ∧ i.toInt < n) (hy : x = y) (hx1 : lo ≤ y.toInt ∧ y.toInt ≤ hi) (hm : (t, 0) ∈ M) (hdg : decode cc pc = .ok (.iastore, 1))
    (kk : ∀ (H1 : Heap) (locs1 : List Loc) (h1 : hx_h), h1 = hx_pi h a i.toNatClampNeg y → hx_W tb tys D cl A H0 L h1 s H1 locs1 → hx_T tb L h1 → hx_S tb M L0 h0 L h1 → W p l e R s m args below meth c H1 locs1 cells slots Q (F0 m (pc + 1) ls rest)) : W p l e R s m args below meth c H locs cells slots Q (F0 m pc ls (.int x :: .int i :: .ref a :: rest)) := by
  obtain ⟨k0, hk0⟩ := hx_at (tb := tb) (tys := tys) (h := h) g.1
  have hk1 := hk0
  rw [hx_e_arr g.2 hd] at hk0
  have hin2 : vp_in i n := vp_in_iff.mpr hin
  have hcA : hx_t tys t0 = cA := by simp [hx_t, ht]
  rw [hcA] at hk0
  obtain ⟨hK, hP, hD, hS, hA⟩ := hW
  refine va_iast hx hb hK hP hD hS k0 t0 hk0 ht hin2 hdg (fun H1 locs1 hP2 hD2 hS2 => ?_)
  rw [hy] at hP2 hD2
  have he : hx_e tb tys (hx_pi h a i.toNatClampNeg y) a = .inl (cA, n, .inl (upd (h.2.1 a) i.toNatClampNeg y)) := by
    rw [hx_e_arr (h := hx_pi h a i.toNatClampNeg y) g.2 hd, hcA]
    simp only [hx_a, hx_pi]
    congr 4
    funext j
    simp [upd]
  rw [hx_set (h1 := hx_pi h a i.toNatClampNeg y) hD g.1 hk1 he (fun b hb => hx_e_pi hb)] at hP2 hD2
  refine kk H1 locs1 _ rfl ⟨hK, hP2, hD2, hS2, hA⟩ (hT.pi g hd ?_) (hM.pi g (by rw [hd]; exact hm))
  intro f hf2 r _
  cases hf2
  exact hx1
theorem hx_bast (hx : p.tables.exec = Jvm.exec) (hb : c.code = cc) (hW : hx_W tb tys D cl A H0 L h s H locs) (hT : hx_T tb L h) {M : hx_m} {L0 : List Nat} {h0 : hx_h} (hM : hx_S tb M L0 h0 L h) {t : Nat} (g : hx_g L h a t) {t0 n : Nat} {lo hi : Int} (hd : tb[t]? = some (.inr (t0, n, .inl (lo, hi)))) {cA : ClassId} (ht : tys[t0]? = some (cA, .byte)) {i x y : Int32} (hin : 0 ≤ i.toInt ∧ i.toInt < n) (hy : (vp_nar .byte x) = y) (hx1 : lo ≤ y.toInt ∧ y.toInt ≤ hi) (hm : (t, 0) ∈ M) (hdg : decode cc pc = .ok (.bastore, 1))
    (kk : ∀ (H1 : Heap) (locs1 : List Loc) (h1 : hx_h), h1 = hx_pi h a i.toNatClampNeg y → hx_W tb tys D cl A H0 L h1 s H1 locs1 → hx_T tb L h1 → hx_S tb M L0 h0 L h1 → W p l e R s m args below meth c H1 locs1 cells slots Q (F0 m (pc + 1) ls rest)) : W p l e R s m args below meth c H locs cells slots Q (F0 m pc ls (.int x :: .int i :: .ref a :: rest)) := by
  obtain ⟨k0, hk0⟩ := hx_at (tb := tb) (tys := tys) (h := h) g.1
  have hk1 := hk0
  rw [hx_e_arr g.2 hd] at hk0
  have hin2 : vp_in i n := vp_in_iff.mpr hin
  have hcA : hx_t tys t0 = cA := by simp [hx_t, ht]
  rw [hcA] at hk0
  obtain ⟨hK, hP, hD, hS, hA⟩ := hW
  refine va_bast hx hb hK hP hD hS k0 t0 hk0 ht hin2 hdg (fun H1 locs1 hP2 hD2 hS2 => ?_)
  rw [hy] at hP2 hD2
  have he : hx_e tb tys (hx_pi h a i.toNatClampNeg y) a = .inl (cA, n, .inl (upd (h.2.1 a) i.toNatClampNeg y)) := by
    rw [hx_e_arr (h := hx_pi h a i.toNatClampNeg y) g.2 hd, hcA]
    simp only [hx_a, hx_pi]
    congr 4
    funext j
    simp [upd]
  rw [hx_set (h1 := hx_pi h a i.toNatClampNeg y) hD g.1 hk1 he (fun b hb => hx_e_pi hb)] at hP2 hD2
  refine kk H1 locs1 _ rfl ⟨hK, hP2, hD2, hS2, hA⟩ (hT.pi g hd ?_) (hM.pi g (by rw [hd]; exact hm))
  intro f hf2 r _
  cases hf2
  exact hx1
theorem hx_zast (hx : p.tables.exec = Jvm.exec) (hb : c.code = cc) (hW : hx_W tb tys D cl A H0 L h s H locs) (hT : hx_T tb L h) {M : hx_m} {L0 : List Nat} {h0 : hx_h} (hM : hx_S tb M L0 h0 L h) {t : Nat} (g : hx_g L h a t) {t0 n : Nat} {lo hi : Int} (hd : tb[t]? = some (.inr (t0, n, .inl (lo, hi)))) {cA : ClassId} (ht : tys[t0]? = some (cA, .boolean)) {i x y : Int32} (hin : 0 ≤ i.toInt ∧ i.toInt < n) (hy : (vp_nar .boolean x) = y) (hx1 : lo ≤ y.toInt ∧ y.toInt ≤ hi) (hm : (t, 0) ∈ M) (hdg : decode cc pc = .ok (.bastore, 1))
    (kk : ∀ (H1 : Heap) (locs1 : List Loc) (h1 : hx_h), h1 = hx_pi h a i.toNatClampNeg y → hx_W tb tys D cl A H0 L h1 s H1 locs1 → hx_T tb L h1 → hx_S tb M L0 h0 L h1 → W p l e R s m args below meth c H1 locs1 cells slots Q (F0 m (pc + 1) ls rest)) : W p l e R s m args below meth c H locs cells slots Q (F0 m pc ls (.int x :: .int i :: .ref a :: rest)) := by
  obtain ⟨k0, hk0⟩ := hx_at (tb := tb) (tys := tys) (h := h) g.1
  have hk1 := hk0
  rw [hx_e_arr g.2 hd] at hk0
  have hin2 : vp_in i n := vp_in_iff.mpr hin
  have hcA : hx_t tys t0 = cA := by simp [hx_t, ht]
  rw [hcA] at hk0
  obtain ⟨hK, hP, hD, hS, hA⟩ := hW
  refine va_zast hx hb hK hP hD hS k0 t0 hk0 ht hin2 hdg (fun H1 locs1 hP2 hD2 hS2 => ?_)
  rw [hy] at hP2 hD2
  have he : hx_e tb tys (hx_pi h a i.toNatClampNeg y) a = .inl (cA, n, .inl (upd (h.2.1 a) i.toNatClampNeg y)) := by
    rw [hx_e_arr (h := hx_pi h a i.toNatClampNeg y) g.2 hd, hcA]
    simp only [hx_a, hx_pi]
    congr 4
    funext j
    simp [upd]
  rw [hx_set (h1 := hx_pi h a i.toNatClampNeg y) hD g.1 hk1 he (fun b hb => hx_e_pi hb)] at hP2 hD2
  refine kk H1 locs1 _ rfl ⟨hK, hP2, hD2, hS2, hA⟩ (hT.pi g hd ?_) (hM.pi g (by rw [hd]; exact hm))
  intro f hf2 r _
  cases hf2
  exact hx1
theorem hx_aast (hx : p.tables.exec = Jvm.exec) (hb : c.code = cc) (hW : hx_W tb tys D cl A H0 L h s H locs) (hT : hx_T tb L h) {M : hx_m} {L0 : List Nat} {h0 : hx_h} (hM : hx_S tb M L0 h0 L h) {t : Nat} (g : hx_g L h a t) {t0 n : Nat} {nn : Bool} {tt : List Nat} (hd : tb[t]? = some (.inr (t0, n, .inr (nn, tt)))) {cA : ClassId} {r : vw_C} (ht : tys[t0]? = some (cA, .object r.1)) {v t1 ci : Nat} {fs : List hx_f} (gv : hx_g L h v t1) (hd1 : tb[t1]? = some (.inl (ci, fs))) (hc : cl[ci]? = some r) (htt : t1 ∈ tt) {i : Int32} (hin : 0 ≤ i.toInt ∧ i.toInt < n) (hm : (t, 0) ∈ M) (hdg : decode cc pc = .ok (.aastore, 1))
    (kk : ∀ (H1 : Heap) (locs1 : List Loc) (h1 : hx_h), h1 = hx_pr h a i.toNatClampNeg (some v) → hx_W tb tys D cl A H0 L h1 s H1 locs1 → hx_T tb L h1 → hx_S tb M L0 h0 L h1 → W p l e R s m args below meth c H1 locs1 cells slots Q (F0 m (pc + 1) ls rest)) : W p l e R s m args below meth c H locs cells slots Q (F0 m pc ls (.ref v :: .int i :: .ref a :: rest)) := by
  obtain ⟨k0, hk0⟩ := hx_at (tb := tb) (tys := tys) (h := h) g.1
  obtain ⟨k2, hk2⟩ := hx_at (tb := tb) (tys := tys) (h := h) gv.1
  have hk1 := hk0
  rw [hx_e_arr g.2 hd] at hk0
  rw [hx_e_obj gv.2 hd1] at hk2
  have hin2 : vp_in i n := vp_in_iff.mpr hin
  have hcA : hx_t tys t0 = cA := by simp [hx_t, ht]
  rw [hcA] at hk0
  obtain ⟨hK, hP, hD, hS, hA⟩ := hW
  refine va_astq hx hb hK hP hD hS k0 t0 k2 ci hk0 ht hk2 hc hin2 hdg (fun H1 locs1 hP2 hD2 hS2 => ?_)
  have he : hx_e tb tys (hx_pr h a i.toNatClampNeg (some v)) a = .inl (cA, n, .inr (.inr (.inr (.inr (va_up (h.2.2 a) i.toNatClampNeg (some v)))))) := by
    rw [hx_e_arr (h := hx_pr h a i.toNatClampNeg (some v)) g.2 hd, hcA]
    simp only [hx_a, hx_pr]
    congr 7
    funext j
    simp [va_up]
  rw [hx_set (h1 := hx_pr h a i.toNatClampNeg (some v)) hD g.1 hk1 he (fun b hb => hx_e_pr hb)] at hP2 hD2
  refine kk H1 locs1 _ rfl ⟨hK, hP2, hD2, hS2, hA⟩ (hT.pr g hd ?_) (hM.pr g (by rw [hd]; exact hm))
  intro f hf2 i0 _
  cases hf2
  refine ⟨fun _ z => (by cases z), fun q hq => ?_⟩
  cases hq
  exact ⟨gv.1, by rw [gv.2]; exact htt⟩
theorem hx_alen (hx : p.tables.exec = Jvm.exec) (hb : c.code = cc) (hW : hx_W tb tys D cl A H0 L h s H locs) {t : Nat} (g : hx_g L h a t) {t0 n : Nat} {f : hx_f} (hd : tb[t]? = some (.inr (t0, n, f))) {cA : ClassId} {ty : FieldType} (ht : tys[t0]? = some (cA, ty)) (hdg : decode cc pc = .ok (.arraylength, 1))
    (kk : W p l e R s m args below meth c H locs cells slots Q (F0 m (pc + 1) ls (.int (Int32.ofNat n) :: rest))) : W p l e R s m args below meth c H locs cells slots Q (F0 m pc ls (.ref a :: rest)) := by
  obtain ⟨k0, hk0⟩ := hx_at (tb := tb) (tys := tys) (h := h) g.1
  rw [hx_e_arr g.2 hd] at hk0
  have hcA : hx_t tys t0 = cA := by simp [hx_t, ht]
  rw [hcA] at hk0
  refine va_alen hx hb hW.1 hW.2.1 k0 t0 hk0 ht (v := Int32.ofNat n) ?_ hdg kk
  rcases f with f | f | f <;> rfl
end HXR
end
section
/-! CONTRACTS, CALLS AND ENDS over the typed heap: a method gets the whole world and gives the whole world back -/
def hx_A (L : List Nat) (sz : Nat) : Nat → Prop := fun q => q ∈ L ∨ sz ≤ q
def hx_B (tb : List hx_d) (tys : hx_y) (D : va_G) (cl : List vw_C) (L : List Nat) (h : hx_h) (sz : Nat) (U : State) : Prop :=
  U.heap.size = sz ∧ va_P D cl (hx_p tb tys L h) U.heap ∧ va_K D cl tys U ∧ va_D (fun _ => True) (hx_p tb tys L h)
def hx_E (tb : List hx_d) (tys : hx_y) (D : va_G) (cl : List vw_C) (A : Nat → Prop) (u : List Nat × hx_h) (t : State) : Prop :=
  va_P D cl (hx_p tb tys u.1 u.2) t.heap ∧ va_K D cl tys t ∧ va_D A (hx_p tb tys u.1 u.2)
theorem hx_blind {tb : List hx_d} {tys : hx_y} {D : va_G} {cl : List vw_C} {L : List Nat} {h : hx_h} {sz : Nat} {av : List Value} : FrameBlind (va_Pc av (hx_B tb tys D cl L h sz)) := fun a U g mk q => by
  obtain ⟨q0, q1, qP, qK, qD⟩ := q
  exact ⟨q0, q1, qP, va_K.moved (u := U) (U := U.calling g mk a) (Vm.Alike.refl U.vm) qK, qD⟩
theorem hx_pre {tb : List hx_d} {tys : hx_y} {D : va_G} {cl : List vw_C} {A : Nat → Prop} {H0 H : Heap} {L : List Nat} {h : hx_h} {s : State} {locs : List Loc} {av : List Value} (hW : hx_W tb tys D cl A H0 L h s H locs) : ∀ U : State, U.heap = H → s.WarmedH U.vm → va_Pc av (hx_B tb tys D cl L h H.size) av.toArray U := fun U hU hw =>
  ⟨rfl, by rw [hU], by rw [hU]; exact hW.2.1, va_K.moved hw.alike hW.1, hW.2.2.1.weaken (fun _ _ _ _ => trivial)⟩
theorem hx_in {tb : List hx_d} {tys : hx_y} {D : va_G} {cl : List vw_C} {A : Nat → Prop} {H0 H : Heap} {L : List Nat} {h : hx_h} {s : State} {locs : List Loc} (hW : hx_W tb tys D cl A H0 L h s H locs) : ∀ q, hx_A L H.size q → A q := by
  intro q hq
  rcases hq with hq | hq
  · obtain ⟨k, hk⟩ := hx_at (tb := tb) (tys := tys) (h := h) hq
    exact hW.2.2.1.2 k _ hk
  · exact hW.2.2.2.2 q (Nat.le_trans hW.2.2.2.1.1 hq)
section HXC
variable {p : Program} {l : Launch} {e : Env} {R : Room} {s : State} {m : MethodId} {args : Array Value} {below : List Frame} {meth : Method} {c : Code} {H : Heap} {locs : List Loc} {cells slots : Nat} {Q : State → Prop}
variable {cc : ByteArray} {pc : Nat} {ls : Array Slot} {rest st0 : List Value} {D : va_G} {cl : List vw_C} {A : Nat → Prop} {a : Nat} {tys : hx_y} {H0 : Heap} {tb : List hx_d} {L : List Nat} {h : hx_h}
variable {y : MethodName} {bytes : ByteArray} {maxL nL mc ms n index : Nat} {ret : Option FieldType} {ws : List Cond} {rm : Room} {Ts : List Cond} {own C : String} {As : List Value} {Qc : Array Value → State → Outcome → State → Prop}
theorem hx_recv (hW : hx_W tb tys D cl A H0 L h s H locs) {t : Nat} (g : hx_g L h a t) {ci : Nat} {fs : List hx_f} (hd : tb[t]? = some (.inl (ci, fs))) {q : vw_C} (hc : cl[ci]? = some q) : ∃ cell : Cell, H[a]? = some cell ∧ cell.vm.isStatics = false ∧ s.vm.findClass q.1 = some cell.cls := by
  obtain ⟨k0, hk0⟩ := hx_at (tb := tb) (tys := tys) (h := h) g.1
  rw [hx_e_obj g.2 hd] at hk0
  exact va_recv hW.1 hW.2.1 hc hk0
theorem hx_runV (S : CallFix p m c cc nL s args Ts own) (hW : hx_W tb tys D cl A H0 L h s H locs) {t : Nat} (g : hx_g L h a t) {ci : Nat} {fs : List hx_f} (hd : tb[t]? = some (.inl (ci, fs))) {T : u_T} {N : Nat} (hc : cl[ci]? = some (C, T, N)) (hM : Met l y ws rm (va_Pc (.ref a :: As) (hx_B tb tys D cl L h H.size)) Qc mc ms (hx_A L H.size)) (cw : CallW R s args own C index y bytes maxL ret ws rm mc ms n) (hn : As.length = n) (hsize : ls.size = nL) (hst : st0 = As.reverse ++ .ref a :: rest) (hR : (rest.map fun v => v.category).sum ≤ 8) (hdg : decode cc pc = .ok (.invokevirtual index, 3)) (hf : cells + mc ≤ R.cells ∧ slots + ms ≤ R.slots) :
    va_Run p l e R s m args below meth c H locs cells slots mc ms (F0 m pc ls st0) rest (Qc (Value.ref a :: As).toArray) (hx_A L H.size) :=
  va_runV S hM cw ⟨hx_blind, hx_recv hW g hd hc, hx_pre hW⟩ rfl hn hsize hst (lv_room hR) hdg hf
theorem hx_runS (S : CallFix p m c cc nL s args Ts own) (hW : hx_W tb tys D cl A H0 L h s H locs) (hM : Met l y ws rm (va_Pc As (hx_B tb tys D cl L h H.size)) Qc mc ms (hx_A L H.size)) (cw : CallB R s args own index y bytes maxL ret ws rm mc ms n ∧ (Cond.static y).before args s = true) (hn : As.length = n) (hsize : ls.size = nL) (hst : st0 = As.reverse ++ rest) (hR : (rest.map fun v => v.category).sum ≤ 8) (hdg : decode cc pc = .ok (.invokestatic index, 3)) (hf : cells + mc ≤ R.cells ∧ slots + ms ≤ R.slots) :
    va_Run p l e R s m args below meth c H locs cells slots mc ms (F0 m pc ls st0) rest (Qc As.toArray) (hx_A L H.size) :=
  va_runS S hM cw ⟨hx_blind, hx_pre hW⟩ rfl hn hsize hst (lv_room hR) hdg hf
theorem hx_runI (S : CallFix p m c cc nL s args Ts own) (hW : hx_W tb tys D cl A H0 L h s H locs) (hM : Met l y ws rm (va_Pc (.ref a :: As) (hx_B tb tys D cl L h H.size)) Qc mc ms (hx_A L H.size)) (cw : CallB R s args own index y bytes maxL none ws rm mc ms n ∧ y.name = "<init>" ∧ (Cond.instanceMethod y).before args s = true) (hn : As.length = n) (hsize : ls.size = nL) (hst : st0 = As.reverse ++ .ref a :: rest) (hR : (rest.map fun v => v.category).sum ≤ 8) (hdg : decode cc pc = .ok (.invokespecial index, 3)) (hf : cells + mc ≤ R.cells ∧ slots + ms ≤ R.slots) :
    va_Run p l e R s m args below meth c H locs cells slots mc ms (F0 m pc ls st0) rest (Qc (Value.ref a :: As).toArray) (hx_A L H.size) :=
  va_runI S hM cw ⟨hx_blind, hx_pre hW⟩ rfl hn hsize hst (lv_room hR) hdg hf
variable {a1 : Array Value}
theorem hx_goi {post : Int32 → List Nat × hx_h → Prop} (hr : va_Run p l e R s m args below meth c H locs cells slots mc ms (F0 m pc ls st0) rest (va_Qi post (hx_E tb tys D cl (hx_A L H.size)) (hx_A L H.size) a1) (hx_A L H.size)) (hW : hx_W tb tys D cl A H0 L h s H locs)
    (kk : ∀ (r : Int32) (L1 : List Nat) (h1 : hx_h) (H1 : Heap) (locs1 : List Loc), post r (L1, h1) → hx_W tb tys D cl A H0 L1 h1 s H1 locs1 → W p l e R s m args below meth c H1 locs1 (cells + mc) (slots + ms) Q (F0 m (pc + 3) ls (.int r :: rest))) : W p l e R s m args below meth c H locs cells slots Q (F0 m pc ls st0) := by
  refine va_calli hr hW.2.2.2.1 (fun q _ hq => hx_in hW q hq) (fun q hq => hx_in hW q hq) (fun r u t H1 locs1 ht hvm hp hB hz hk hS => ?_)
  obtain ⟨b1, b2, b3⟩ := hB
  rw [ht] at b1
  exact kk r u.1 u.2 H1 locs1 hp ⟨hW.1, b1, b3.weaken (fun _ q _ hq => hx_in hW q.1 hq), hS, hW.2.2.2.2⟩
theorem hx_gov {post : List Nat × hx_h → Prop} (hr : va_Run p l e R s m args below meth c H locs cells slots mc ms (F0 m pc ls st0) rest (va_Qv post (hx_E tb tys D cl (hx_A L H.size)) (hx_A L H.size) a1) (hx_A L H.size)) (hW : hx_W tb tys D cl A H0 L h s H locs)
    (kk : ∀ (L1 : List Nat) (h1 : hx_h) (H1 : Heap) (locs1 : List Loc), post (L1, h1) → hx_W tb tys D cl A H0 L1 h1 s H1 locs1 → W p l e R s m args below meth c H1 locs1 (cells + mc) (slots + ms) Q (F0 m (pc + 3) ls rest)) : W p l e R s m args below meth c H locs cells slots Q (F0 m pc ls st0) := by
  refine va_callv hr hW.2.2.2.1 (fun q _ hq => hx_in hW q hq) (fun q hq => hx_in hW q hq) (fun u t H1 locs1 ht hvm hp hB hz hk hS => ?_)
  obtain ⟨b1, b2, b3⟩ := hB
  rw [ht] at b1
  exact kk u.1 u.2 H1 locs1 hp ⟨hW.1, b1, b3.weaken (fun _ q _ hq => hx_in hW q.1 hq), hS, hW.2.2.2.2⟩
theorem hx_goq {post : Option Nat → List Nat × hx_h → Prop} (hr : va_Run p l e R s m args below meth c H locs cells slots mc ms (F0 m pc ls st0) rest (va_Qq post (hx_E tb tys D cl (hx_A L H.size)) (hx_A L H.size) a1) (hx_A L H.size)) (hW : hx_W tb tys D cl A H0 L h s H locs)
    (kk : ∀ (r : Option Nat) (L1 : List Nat) (h1 : hx_h) (H1 : Heap) (locs1 : List Loc), post r (L1, h1) → hx_W tb tys D cl A H0 L1 h1 s H1 locs1 → W p l e R s m args below meth c H1 locs1 (cells + mc) (slots + ms) Q (F0 m (pc + 3) ls (va_rf r :: rest))) : W p l e R s m args below meth c H locs cells slots Q (F0 m pc ls st0) := by
  refine va_callq hr hW.2.2.2.1 (fun q _ hq => hx_in hW q hq) (fun q hq => hx_in hW q hq) (fun r u t H1 locs1 ht hvm hp hB hz hk hS => ?_)
  obtain ⟨b1, b2, b3⟩ := hB
  rw [ht] at b1
  exact kk r u.1 u.2 H1 locs1 hp ⟨hW.1, b1, b3.weaken (fun _ q _ hq => hx_in hW q.1 hq), hS, hW.2.2.2.2⟩
theorem hx_reti {post : Int32 → List Nat × hx_h → Prop} {v : Int32} (hx : p.tables.exec = Jvm.exec) (hb : c.code = cc) (hr : meth.sig.returnType = some .int) (hlocks : meth.locks = false) (hW : hx_W tb tys D cl A s.heap L h s H locs) (hp : post v (L, h)) (hdg : decode cc pc = .ok (.ireturn, 1)) :
    W p l e R s m args below meth c H locs cells slots (MQ below (va_Qi post (hx_E tb tys D cl A) A) args s cells slots A) (F0 m pc ls [.int v]) :=
  W.iret hx hb hr (fun t ht hw => ⟨⟨v, (L, h), rfl, hp, by rw [ht]; exact hW.2.1, va_K.moved hw.alike hW.1, hW.2.2.1⟩, hW.2.2.2.1.F ht⟩) hW.2.2.2.1.2.2 hdg hlocks
theorem hx_retz {post : Int32 → List Nat × hx_h → Prop} {v : Int32} {ty : FieldType} (hx : p.tables.exec = Jvm.exec) (hb : c.code = cc) (hr : meth.sig.returnType = some ty) (hn : narrow ty (.int v) = .int v) (hlocks : meth.locks = false) (hW : hx_W tb tys D cl A s.heap L h s H locs) (hp : post v (L, h)) (hdg : decode cc pc = .ok (.ireturn, 1)) :
    W p l e R s m args below meth c H locs cells slots (MQ below (va_Qi post (hx_E tb tys D cl A) A) args s cells slots A) (F0 m pc ls [.int v]) :=
  W.zret hx hb hr hn (fun t ht hw => ⟨⟨v, (L, h), rfl, hp, by rw [ht]; exact hW.2.1, va_K.moved hw.alike hW.1, hW.2.2.1⟩, hW.2.2.2.1.F ht⟩) hW.2.2.2.1.2.2 hdg hlocks
theorem hx_retv {post : List Nat × hx_h → Prop} (hx : p.tables.exec = Jvm.exec) (hb : c.code = cc) (hr : meth.sig.returnType = none) (hlocks : meth.locks = false) (hW : hx_W tb tys D cl A s.heap L h s H locs) (hp : post (L, h)) (hdg : decode cc pc = .ok (.return_, 1)) :
    W p l e R s m args below meth c H locs cells slots (MQ below (va_Qv post (hx_E tb tys D cl A) A) args s cells slots A) (F0 m pc ls []) :=
  W.vret hx hb hr (fun t ht hw => ⟨⟨(L, h), rfl, hp, by rw [ht]; exact hW.2.1, va_K.moved hw.alike hW.1, hW.2.2.1⟩, hW.2.2.2.1.F ht⟩) hW.2.2.2.1.2.2 hdg hlocks
theorem hx_retq {post : Option Nat → List Nat × hx_h → Prop} {v : Option Nat} {rt : FieldType} (hx : p.tables.exec = Jvm.exec) (hb : c.code = cc) (hr : meth.sig.returnType = some rt) (hrt : (∃ n, rt = .object n) ∨ ∃ t, rt = .array t) (hlocks : meth.locks = false) (hW : hx_W tb tys D cl A s.heap L h s H locs) (hp : post v (L, h)) (hdg : decode cc pc = .ok (.areturn, 1)) :
    W p l e R s m args below meth c H locs cells slots (MQ below (va_Qq post (hx_E tb tys D cl A) A) args s cells slots A) (F0 m pc ls [va_rf v]) :=
  W.aret hx hb hr hrt (by cases v <;> simp [va_rf]) (fun t ht hw => ⟨⟨v, (L, h), rfl, hp, by rw [ht]; exact hW.2.1, va_K.moved hw.alike hW.1, hW.2.2.1⟩, hW.2.2.2.1.F ht⟩) hW.2.2.2.1.2.2 hdg hlocks
end HXC
theorem hx_met {l : Launch} {y : MethodName} {ws ws' : List Cond} {rm : Room} {mc ms : Nat} {cc : ByteArray} {maxL : Nat} {ret : Option FieldType} {tb : List hx_d} {tys : hx_y} {D : va_G} {cl : List vw_C} {L : List Nat} {h : hx_h} {sz : Nat} {av : List Value} {Qc : Array Value → State → Outcome → State → Prop} {lv : List (Nat × Value)}
    (hy : plainName y.cls = true) (hw : ws = Cond.code y cc maxL ret :: ws') (hlen : (lg_sl av).length ≤ maxL) (hlv : lv_args 0 av = lv)
    (body : ∀ (p : Program) (e : Env) (s : State) (m : MethodId) (below : List Frame) (meth : Method) (c : Code), p.tables.exec = Jvm.exec → c.code = cc → c.maxLocals = maxL → meth.sig.returnType = ret → meth.locks = false → (∀ w ∈ ws, w.before av.toArray s = true) → s.vm.findClass y.cls = some m.cls → meth.name = y.name → s.heap.size = sz →
      hx_W tb tys D cl (hx_A L sz) s.heap L h s s.heap [] → ∀ ls : Array Slot, lv_has ls maxL lv → W p l e rm s m av.toArray below meth c s.heap [] 0 0 (MQ below Qc av.toArray s mc ms (hx_A L sz)) (F0 m 0 ls [])) :
    Met l y ws rm (va_Pc av (hx_B tb tys D cl L h sz)) Qc mc ms (hx_A L sz) := by
  refine Met.ofW (cc := cc) (maxL := maxL) (ret := ret) hy hw ?_
  intro p e s m args below meth c s₁ B hml hv
  obtain ⟨rfl, hsz, hP, hK, hD0⟩ := hv
  have hl := lv_entry av (n := maxL) hlen
  rw [lg_entry_eq]
  refine body p e s m below meth c B.exec B.bytes hml B.returns B.notSynchronized (atoms_spec (ws := ws) B.pre) (findClass_of_methodNamed B.named) (name_of_methodNamed B.named B.method).1 hsz ⟨hK, hP, hD0.weaken (fun k q hk _ => ?_), va_S.rf, fun q hq => Or.inr (by rw [← hsz]; exact hq)⟩ _ (by rw [← hlv]; exact hl)
  refine Or.inl ?_
  have hmem := List.mem_of_getElem? hk
  obtain ⟨b, hb, hbq⟩ := List.mem_map.mp hmem
  rw [← hbq]
  exact hb
end
section
/-! ROWS over the tagged heap where what is read is known (no types needed); a change tells its step 'hs' -/
section HKR
variable {p : Program} {l : Launch} {e : Env} {R : Room} {s : State} {m : MethodId} {args : Array Value} {below : List Frame} {meth : Method} {c : Code} {H : Heap} {locs : List Loc} {cells slots : Nat} {Q : State → Prop}
variable {cc : ByteArray} {pc : Nat} {ls : Array Slot} {rest : List Value} {D : va_G} {cl : List vw_C} {A : Nat → Prop} {a : Nat} {tys : hx_y} {H0 : Heap} {tb : List hx_d} {L : List Nat} {h : hx_h}
theorem hk_geti (hx : p.tables.exec = Jvm.exec) (hb : c.code = cc) {own C : String} {T : u_T} {N ci index : Nat} {Ts : List Cond} {ty0 : Nat → FieldType} (hts : ∀ w ∈ Ts, w.before args s = true) (hC : hx_C Ts cl ci C T N ty0) (hown : s.vm.findClass own = some m.cls) (hW : hx_W tb tys D cl A H0 L h s H locs) {t : Nat} (g : hx_g L h a t) {fs : List hx_f} (hd : tb[t]? = some (.inl (ci, fs))) (k : Nat) (hk : k < N) {b : Int × Int} (hf : fs[k]? = some (.inl b)) {ref nm ds : String} (hlink : Cond.fieldLink own index ref nm ds ∈ Ts) (hsame : (T k).1 = ref ∧ (T k).2.1 = nm ∧ (T k).2.2.1 = ds) {v : Int32} (hv : h.2.1 a k = v) (hdg : decode cc pc = .ok (.getfield index, 3))
    (kk : W p l e R s m args below meth c H locs cells slots Q (F0 m (pc + 3) ls (.int v :: rest))) : W p l e R s m args below meth c H locs cells slots Q (F0 m pc ls (.ref a :: rest)) := by
  obtain ⟨k0, hk0⟩ := hx_at (tb := tb) (tys := tys) (h := h) g.1
  rw [hx_e_obj g.2 hd] at hk0
  obtain ⟨rfl, rfl, rfl⟩ := hsame
  subst hv
  exact va_get (v := .int (h.2.1 a k)) hx hb hts hC.2.1 hown hW.1 hW.2.1 k0 hk0 hC.1 k hk (hts _ hlink) (fun _ h9 => h9) (hx_fs_get hf) hdg kk
theorem hk_getq (hx : p.tables.exec = Jvm.exec) (hb : c.code = cc) {own C : String} {T : u_T} {N ci index : Nat} {Ts : List Cond} {ty0 : Nat → FieldType} (hts : ∀ w ∈ Ts, w.before args s = true) (hC : hx_C Ts cl ci C T N ty0) (hown : s.vm.findClass own = some m.cls) (hW : hx_W tb tys D cl A H0 L h s H locs) {t : Nat} (g : hx_g L h a t) {fs : List hx_f} (hd : tb[t]? = some (.inl (ci, fs))) (k : Nat) (hk : k < N) {b : Bool × List Nat} (hf : fs[k]? = some (.inr b)) {ref nm ds : String} (hlink : Cond.fieldLink own index ref nm ds ∈ Ts) (hsame : (T k).1 = ref ∧ (T k).2.1 = nm ∧ (T k).2.2.1 = ds) {r : Option Nat} (hv : h.2.2 a k = r) (hdg : decode cc pc = .ok (.getfield index, 3))
    (kk : W p l e R s m args below meth c H locs cells slots Q (F0 m (pc + 3) ls (va_rf r :: rest))) : W p l e R s m args below meth c H locs cells slots Q (F0 m pc ls (.ref a :: rest)) := by
  obtain ⟨k0, hk0⟩ := hx_at (tb := tb) (tys := tys) (h := h) g.1
  rw [hx_e_obj g.2 hd] at hk0
  obtain ⟨rfl, rfl, rfl⟩ := hsame
  subst hv
  exact va_get (v := va_rf (h.2.2 a k)) hx hb hts hC.2.1 hown hW.1 hW.2.1 k0 hk0 hC.1 k hk (hts _ hlink) (fun _ h9 => h9) (hx_fs_get hf) hdg kk
theorem hk_getr (hx : p.tables.exec = Jvm.exec) (hb : c.code = cc) {own C : String} {T : u_T} {N ci index : Nat} {Ts : List Cond} {ty0 : Nat → FieldType} (hts : ∀ w ∈ Ts, w.before args s = true) (hC : hx_C Ts cl ci C T N ty0) (hown : s.vm.findClass own = some m.cls) (hW : hx_W tb tys D cl A H0 L h s H locs) {t : Nat} (g : hx_g L h a t) {fs : List hx_f} (hd : tb[t]? = some (.inl (ci, fs))) (k : Nat) (hk : k < N) {b : Bool × List Nat} (hf : fs[k]? = some (.inr b)) {ref nm ds : String} (hlink : Cond.fieldLink own index ref nm ds ∈ Ts) (hsame : (T k).1 = ref ∧ (T k).2.1 = nm ∧ (T k).2.2.1 = ds) {q : Nat} (hv : h.2.2 a k = some q) (hdg : decode cc pc = .ok (.getfield index, 3))
    (kk : W p l e R s m args below meth c H locs cells slots Q (F0 m (pc + 3) ls (.ref q :: rest))) : W p l e R s m args below meth c H locs cells slots Q (F0 m pc ls (.ref a :: rest)) :=
  hk_getq hx hb hts hC hown hW g hd k hk hf hlink hsame hv hdg kk
/-- a cell that is new: its tag, nothing in it -/
def hx_nw (h : hx_h) (q t : Nat) : hx_h := (fun b => if b = q then t else h.1 b, fun b j => if b = q then 0 else h.2.1 b j, fun b j => if b = q then none else h.2.2 b j)
theorem hx_nw_S {q t : Nat} (hq : q ∉ L) : hx_S tb [] L h (L ++ [q]) (hx_nw h q t) := by
  refine ⟨fun b hb => ⟨List.mem_append_left _ hb, ?_⟩, fun b hb k _ => ⟨?_, ?_⟩⟩ <;>
    (have hbq : b ≠ q := fun z => hq (z ▸ hb)
     simp [hx_nw, hbq])
theorem hx_nw_g {q t : Nat} : hx_g (L ++ [q]) (hx_nw h q t) q t := ⟨by simp, by simp [hx_nw]⟩
theorem hx_nw_i {q t j : Nat} : (hx_nw h q t).2.1 q j = 0 := by simp [hx_nw]
theorem hx_nw_r {q t j : Nat} : (hx_nw h q t).2.2 q j = none := by simp [hx_nw]
theorem hx_push {q t : Nat} {e : va_E} (hq : q ∉ L) (he : hx_e tb tys (hx_nw h q t) q = e) : hx_p tb tys L h ++ [(q, e)] = hx_p tb tys (L ++ [q]) (hx_nw h q t) := by
  refine (va_pl_push hq).trans ?_
  refine va_pl_congr (fun b => ?_)
  by_cases hb : b = q
  · subst hb
    rw [va_up_self, he]
  · rw [va_up_ne _ _ hb]
    simp [hx_e, hx_fs, hx_a, hx_nw, hb]
def hx_df (fs : List hx_f) : List Value := (List.range fs.length).map (fun k => hx_v (fs.getD k (.inl (0, 0))) 0 none)
theorem hx_df_eq {fs : List hx_f} {q t : Nat} : hx_fs fs (hx_nw h q t) q = hx_df fs := by
  unfold hx_fs hx_df
  refine List.map_congr_left (fun k _ => ?_)
  rw [hx_nw_i, hx_nw_r]
theorem hx_df_get {fs : List hx_f} {j : Nat} (hj : j < fs.length) : (hx_df fs)[j]? = some (hx_v (fs.getD j (.inl (0, 0))) 0 none) := by
  simp [hx_df, List.getElem?_range hj]
theorem hx_fresh {A : Nat → Prop} {q : Nat} {e : va_E} (hD : va_D A (hx_p tb tys L h ++ [(q, e)])) : q ∉ L := by
  intro hq
  obtain ⟨k, hk⟩ := hx_at (tb := tb) (tys := tys) (h := h) hq
  have hl := (List.getElem?_eq_some_iff.mp hk).1
  have h1 : (hx_p tb tys L h ++ [(q, e)])[k]? = some (q, hx_e tb tys h q) := by rw [List.getElem?_append_left hl]; exact hk
  have h2 : (hx_p tb tys L h ++ [(q, e)])[(hx_p tb tys L h).length]? = some (q, e) := by simp
  have := hD.1 _ _ _ _ h1 h2 rfl
  omega
theorem hk_new (hx : p.tables.exec = Jvm.exec) (hb : c.code = cc) {own C : String} {T : u_T} {N ci index : Nat} {Ts : List Cond} {ty0 : Nat → FieldType} (hts : ∀ w ∈ Ts, w.before args s = true) (hC : hx_C Ts cl ci C T N ty0) (hown : s.vm.findClass own = some m.cls) (hW : hx_W tb tys D cl A H0 L h s H locs) (t : Nat) {fs : List hx_f} (hd : tb[t]? = some (.inl (ci, fs))) (hN : fs.length = N) (hfs : ∀ j, j < N → defaultValue (ty0 j) = hx_v (fs.getD j (.inl (0, 0))) 0 none) (hcl : Cond.classLink own index C ∈ Ts) (hinst : Cond.instantiable C N ∈ Ts) (hini : Cond.initialized C ∈ Ts) (hcells : cells + 1 ≤ R.cells) (hslots : slots + N ≤ R.slots) (hdg : decode cc pc = .ok (.new index, 3))
    (kk : ∀ (q : Nat) (H1 : Heap) (h1 : hx_h), h1 = hx_nw h q t → q ∉ L → hx_W tb tys D cl A H0 (L ++ [q]) h1 s H1 locs → hx_S tb [] L h (L ++ [q]) h1 → hx_g (L ++ [q]) h1 q t → W p l e R s m args below meth c H1 locs (cells + 1) (slots + N) Q (F0 m (pc + 3) ls (.ref q :: rest))) : W p l e R s m args below meth c H locs cells slots Q (F0 m pc ls rest) := by
  obtain ⟨hK, hP, hD, hS, hA⟩ := hW
  refine va_new (fs := hx_df fs) hx hb hts hC.2.1 ty0 hC.2.2.1 hown (hts _ hcl) (hts _ hinst) (hts _ hini) hK hP hD hS hA hC.1 (fun j hj => ?_) hcells hslots hdg (fun q H1 hP2 hD2 hS2 => ?_)
  · rw [hfs j hj]
    simp only [vp_V, List.getD]
    rw [hx_df_get (by rw [hN]; exact hj)]
    simp [List.getD]
  · have hq := hx_fresh hD2
    have he : hx_e tb tys (hx_nw h q t) q = .inr (ci, hx_df fs) := by
      rw [hx_e_obj (h := hx_nw h q t) (t := t) (by simp [hx_nw]) hd, hx_df_eq]
    rw [hx_push hq he] at hP2 hD2
    exact kk q H1 _ rfl hq ⟨hK, hP2, hD2, hS2, hA⟩ (hx_nw_S hq) hx_nw_g
theorem hk_newa (hx : p.tables.exec = Jvm.exec) (hb : c.code = cc) {Ts : List Cond} (hts : ∀ w ∈ Ts, w.before args s = true) (hW : hx_W tb tys D cl A H0 L h s H locs) (t : Nat) {t0 n : Nat} {b : Int × Int} (hd : tb[t]? = some (.inr (t0, n, .inl b))) {atype : ArrayType} {ty : FieldType} (hty : newarray.typeOf atype = ty) (harr : Cond.arrayClass ty ∈ Ts) {cA : ClassId} (ht : tys[t0]? = some (cA, ty)) (hra : ∀ c1 : ClassId, va_RA s c1 ty ↔ s.vm.findClass ("[" ++ ty.toString) = some c1) (hdv : defaultValue ty = .int 0) {i : Int32} (hi : i.toInt = n) (hbytes : n * componentBytes ty ≤ 536870912) (hcells : cells + 1 ≤ R.cells) (hslots : slots + n ≤ R.slots) (hdg : decode cc pc = .ok (.newarray atype, 2))
    (kk : ∀ (q : Nat) (H1 : Heap) (h1 : hx_h), h1 = hx_nw h q t → q ∉ L → hx_W tb tys D cl A H0 (L ++ [q]) h1 s H1 locs → hx_S tb [] L h (L ++ [q]) h1 → hx_g (L ++ [q]) h1 q t → W p l e R s m args below meth c H1 locs (cells + 1) (slots + n) Q (F0 m (pc + 2) ls (.ref q :: rest))) : W p l e R s m args below meth c H locs cells slots Q (F0 m pc ls (.int i :: rest)) := by
  obtain ⟨hK, hP, hD, hS, hA⟩ := hW
  have hneg : ¬ i < 0 := by rw [Int32.lt_iff_toInt_lt, hi]; simp
  have hcl : i.toNatClampNeg = n := by unfold Int32.toNatClampNeg; rw [hi]; simp
  refine va_newa (a0 := (n, .inl (fun _ => 0))) hx hb (by rw [hty]; exact hts _ harr) hty hK hP hD hS hA (fun c1 => ?_) hneg hcl hbytes hcells hslots hdg (fun q c1 H1 hK2 hP2 hD2 hS2 => ?_)
  · rw [hdv]; rfl
  · have hq := hx_fresh hD2
    have hc1 : c1 = cA := by
      have h1 := (hK2.2 tys.length (c1, ty) (by simp)).2
      have h2 := (hK.2 t0 (cA, ty) ht).2
      have e1 := (hra c1).mp h1
      have e2 := (hra cA).mp h2
      exact Option.some.inj (e1.symm.trans e2)
    subst hc1
    have hcA : hx_t tys t0 = c1 := by simp [hx_t, ht]
    have he : hx_e tb tys (hx_nw h q t) q = .inl (c1, n, .inl (fun _ => 0)) := by
      rw [hx_e_arr (h := hx_nw h q t) (t := t) (by simp [hx_nw]) hd, hcA]
      simp only [hx_a, hx_nw, if_true]
    rw [hx_push hq he] at hP2 hD2
    exact kk q H1 _ rfl hq ⟨hK, hP2, hD2, hS2, hA⟩ (hx_nw_S hq) hx_nw_g
end HKR
/-! branches told in whole numbers -/
section HKB
variable {p : Program} {l : Launch} {e : Env} {R : Room} {s : State} {m : MethodId} {args : Array Value} {below : List Frame} {meth : Method} {c : Code} {H : Heap} {locs : List Loc} {cells slots : Nat} {Q : State → Prop}
variable {cc : ByteArray} {pc : Nat} {ls : Array Slot} {rest : List Value}
theorem hb_icmp_lt (hx : p.tables.exec = Jvm.exec) (hb : c.code = cc) {x y : Int32} {zx zy : Int} (ex : x.toInt = zx) (ey : y.toInt = zy) {off : Int} {tgt : Nat} (hdg : decode cc pc = .ok (.if_icmp .lt off, 3)) (ht : (pc : Int) + off = (tgt : Int))
    (kt : zx < zy → W p l e R s m args below meth c H locs cells slots Q (F0 m tgt ls rest)) (kf : zy ≤ zx → W p l e R s m args below meth c H locs cells slots Q (F0 m (pc + 3) ls rest)) : W p l e R s m args below meth c H locs cells slots Q (F0 m pc ls (.int y :: .int x :: rest)) := by
  subst ex; subst ey
  refine lv_icmp_lt hx hb hdg ht (fun q => kt ?_) (fun q => kf ?_)
  · exact Int32.lt_iff_toInt_lt.mp q
  · exact Int.not_lt.mp (fun z => q (Int32.lt_iff_toInt_lt.mpr z))
theorem hb_if_lt (hx : p.tables.exec = Jvm.exec) (hb : c.code = cc) {x : Int32} {zx : Int} (ex : x.toInt = zx) {off : Int} {tgt : Nat} (hdg : decode cc pc = .ok (.ifCond .lt off, 3)) (ht : (pc : Int) + off = (tgt : Int))
    (kt : zx < 0 → W p l e R s m args below meth c H locs cells slots Q (F0 m tgt ls rest)) (kf : 0 ≤ zx → W p l e R s m args below meth c H locs cells slots Q (F0 m (pc + 3) ls rest)) : W p l e R s m args below meth c H locs cells slots Q (F0 m pc ls (.int x :: rest)) := by
  subst ex
  refine lv_if_lt hx hb hdg ht (fun q => kt ?_) (fun q => kf ?_)
  · exact Int32.lt_iff_toInt_lt.mp q
  · exact Int.not_lt.mp (fun z => q (Int32.lt_iff_toInt_lt.mpr z))
theorem hb_icmp_ge (hx : p.tables.exec = Jvm.exec) (hb : c.code = cc) {x y : Int32} {zx zy : Int} (ex : x.toInt = zx) (ey : y.toInt = zy) {off : Int} {tgt : Nat} (hdg : decode cc pc = .ok (.if_icmp .ge off, 3)) (ht : (pc : Int) + off = (tgt : Int))
    (kt : zy ≤ zx → W p l e R s m args below meth c H locs cells slots Q (F0 m tgt ls rest)) (kf : zx < zy → W p l e R s m args below meth c H locs cells slots Q (F0 m (pc + 3) ls rest)) : W p l e R s m args below meth c H locs cells slots Q (F0 m pc ls (.int y :: .int x :: rest)) := by
  subst ex; subst ey
  refine lv_icmp_ge hx hb hdg ht (fun q => kt ?_) (fun q => kf ?_)
  · exact Int32.le_iff_toInt_le.mp q
  · exact Int.not_le.mp (fun z => q (Int32.le_iff_toInt_le.mpr z))
theorem hb_if_ge (hx : p.tables.exec = Jvm.exec) (hb : c.code = cc) {x : Int32} {zx : Int} (ex : x.toInt = zx) {off : Int} {tgt : Nat} (hdg : decode cc pc = .ok (.ifCond .ge off, 3)) (ht : (pc : Int) + off = (tgt : Int))
    (kt : 0 ≤ zx → W p l e R s m args below meth c H locs cells slots Q (F0 m tgt ls rest)) (kf : zx < 0 → W p l e R s m args below meth c H locs cells slots Q (F0 m (pc + 3) ls rest)) : W p l e R s m args below meth c H locs cells slots Q (F0 m pc ls (.int x :: rest)) := by
  subst ex
  refine lv_if_ge hx hb hdg ht (fun q => kt ?_) (fun q => kf ?_)
  · exact Int32.le_iff_toInt_le.mp q
  · exact Int.not_le.mp (fun z => q (Int32.le_iff_toInt_le.mpr z))
theorem hb_icmp_gt (hx : p.tables.exec = Jvm.exec) (hb : c.code = cc) {x y : Int32} {zx zy : Int} (ex : x.toInt = zx) (ey : y.toInt = zy) {off : Int} {tgt : Nat} (hdg : decode cc pc = .ok (.if_icmp .gt off, 3)) (ht : (pc : Int) + off = (tgt : Int))
    (kt : zy < zx → W p l e R s m args below meth c H locs cells slots Q (F0 m tgt ls rest)) (kf : zx ≤ zy → W p l e R s m args below meth c H locs cells slots Q (F0 m (pc + 3) ls rest)) : W p l e R s m args below meth c H locs cells slots Q (F0 m pc ls (.int y :: .int x :: rest)) := by
  subst ex; subst ey
  refine lv_icmp_gt hx hb hdg ht (fun q => kt ?_) (fun q => kf ?_)
  · exact Int32.lt_iff_toInt_lt.mp q
  · exact Int.not_lt.mp (fun z => q (Int32.lt_iff_toInt_lt.mpr z))
theorem hb_if_gt (hx : p.tables.exec = Jvm.exec) (hb : c.code = cc) {x : Int32} {zx : Int} (ex : x.toInt = zx) {off : Int} {tgt : Nat} (hdg : decode cc pc = .ok (.ifCond .gt off, 3)) (ht : (pc : Int) + off = (tgt : Int))
    (kt : 0 < zx → W p l e R s m args below meth c H locs cells slots Q (F0 m tgt ls rest)) (kf : zx ≤ 0 → W p l e R s m args below meth c H locs cells slots Q (F0 m (pc + 3) ls rest)) : W p l e R s m args below meth c H locs cells slots Q (F0 m pc ls (.int x :: rest)) := by
  subst ex
  refine lv_if_gt hx hb hdg ht (fun q => kt ?_) (fun q => kf ?_)
  · exact Int32.lt_iff_toInt_lt.mp q
  · exact Int.not_lt.mp (fun z => q (Int32.lt_iff_toInt_lt.mpr z))
theorem hb_icmp_le (hx : p.tables.exec = Jvm.exec) (hb : c.code = cc) {x y : Int32} {zx zy : Int} (ex : x.toInt = zx) (ey : y.toInt = zy) {off : Int} {tgt : Nat} (hdg : decode cc pc = .ok (.if_icmp .le off, 3)) (ht : (pc : Int) + off = (tgt : Int))
    (kt : zx ≤ zy → W p l e R s m args below meth c H locs cells slots Q (F0 m tgt ls rest)) (kf : zy < zx → W p l e R s m args below meth c H locs cells slots Q (F0 m (pc + 3) ls rest)) : W p l e R s m args below meth c H locs cells slots Q (F0 m pc ls (.int y :: .int x :: rest)) := by
  subst ex; subst ey
  refine lv_icmp_le hx hb hdg ht (fun q => kt ?_) (fun q => kf ?_)
  · exact Int32.le_iff_toInt_le.mp q
  · exact Int.not_le.mp (fun z => q (Int32.le_iff_toInt_le.mpr z))
theorem hb_if_le (hx : p.tables.exec = Jvm.exec) (hb : c.code = cc) {x : Int32} {zx : Int} (ex : x.toInt = zx) {off : Int} {tgt : Nat} (hdg : decode cc pc = .ok (.ifCond .le off, 3)) (ht : (pc : Int) + off = (tgt : Int))
    (kt : zx ≤ 0 → W p l e R s m args below meth c H locs cells slots Q (F0 m tgt ls rest)) (kf : 0 < zx → W p l e R s m args below meth c H locs cells slots Q (F0 m (pc + 3) ls rest)) : W p l e R s m args below meth c H locs cells slots Q (F0 m pc ls (.int x :: rest)) := by
  subst ex
  refine lv_if_le hx hb hdg ht (fun q => kt ?_) (fun q => kf ?_)
  · exact Int32.le_iff_toInt_le.mp q
  · exact Int.not_le.mp (fun z => q (Int32.le_iff_toInt_le.mpr z))
theorem hb_icmp_eq (hx : p.tables.exec = Jvm.exec) (hb : c.code = cc) {x y : Int32} {zx zy : Int} (ex : x.toInt = zx) (ey : y.toInt = zy) {off : Int} {tgt : Nat} (hdg : decode cc pc = .ok (.if_icmp .eq off, 3)) (ht : (pc : Int) + off = (tgt : Int))
    (kt : zx = zy → W p l e R s m args below meth c H locs cells slots Q (F0 m tgt ls rest)) (kf : zx ≠ zy → W p l e R s m args below meth c H locs cells slots Q (F0 m (pc + 3) ls rest)) : W p l e R s m args below meth c H locs cells slots Q (F0 m pc ls (.int y :: .int x :: rest)) := by
  subst ex; subst ey
  refine lv_icmp_eq hx hb hdg ht (fun q => kt ?_) (fun q => kf ?_)
  · exact congrArg Int32.toInt q
  · exact fun z => q (Int32.toInt_inj.mp z)
theorem hb_if_eq (hx : p.tables.exec = Jvm.exec) (hb : c.code = cc) {x : Int32} {zx : Int} (ex : x.toInt = zx) {off : Int} {tgt : Nat} (hdg : decode cc pc = .ok (.ifCond .eq off, 3)) (ht : (pc : Int) + off = (tgt : Int))
    (kt : zx = 0 → W p l e R s m args below meth c H locs cells slots Q (F0 m tgt ls rest)) (kf : zx ≠ 0 → W p l e R s m args below meth c H locs cells slots Q (F0 m (pc + 3) ls rest)) : W p l e R s m args below meth c H locs cells slots Q (F0 m pc ls (.int x :: rest)) := by
  subst ex
  refine lv_if_eq hx hb hdg ht (fun q => kt ?_) (fun q => kf ?_)
  · exact congrArg Int32.toInt q
  · exact fun z => q (Int32.toInt_inj.mp z)
theorem hb_icmp_ne (hx : p.tables.exec = Jvm.exec) (hb : c.code = cc) {x y : Int32} {zx zy : Int} (ex : x.toInt = zx) (ey : y.toInt = zy) {off : Int} {tgt : Nat} (hdg : decode cc pc = .ok (.if_icmp .ne off, 3)) (ht : (pc : Int) + off = (tgt : Int))
    (kt : zx ≠ zy → W p l e R s m args below meth c H locs cells slots Q (F0 m tgt ls rest)) (kf : zx = zy → W p l e R s m args below meth c H locs cells slots Q (F0 m (pc + 3) ls rest)) : W p l e R s m args below meth c H locs cells slots Q (F0 m pc ls (.int y :: .int x :: rest)) := by
  subst ex; subst ey
  refine lv_icmp_ne hx hb hdg ht (fun q => kt ?_) (fun q => kf ?_)
  · first | exact fun z => q (Int32.toInt_inj.mp z) | exact congrArg Int32.toInt q
  · first | exact congrArg Int32.toInt q | exact congrArg Int32.toInt (Classical.not_not.mp q) | exact Classical.byContradiction fun z => q fun w => z (congrArg Int32.toInt w)
theorem hb_if_ne (hx : p.tables.exec = Jvm.exec) (hb : c.code = cc) {x : Int32} {zx : Int} (ex : x.toInt = zx) {off : Int} {tgt : Nat} (hdg : decode cc pc = .ok (.ifCond .ne off, 3)) (ht : (pc : Int) + off = (tgt : Int))
    (kt : zx ≠ 0 → W p l e R s m args below meth c H locs cells slots Q (F0 m tgt ls rest)) (kf : zx = 0 → W p l e R s m args below meth c H locs cells slots Q (F0 m (pc + 3) ls rest)) : W p l e R s m args below meth c H locs cells slots Q (F0 m pc ls (.int x :: rest)) := by
  subst ex
  refine lv_if_ne hx hb hdg ht (fun q => kt ?_) (fun q => kf ?_)
  · first | exact fun z => q (Int32.toInt_inj.mp z) | exact congrArg Int32.toInt q
  · first | exact congrArg Int32.toInt q | exact congrArg Int32.toInt (Classical.not_not.mp q) | exact Classical.byContradiction fun z => q fun w => z (congrArg Int32.toInt w)
end HKB
theorem i32_add {x y : Int32} {zx zy : Int} (ex : x.toInt = zx) (ey : y.toInt = zy) (h1 : -2147483648 ≤ zx + zy) (h2 : zx + zy ≤ 2147483647) : (x + y).toInt = zx + zy := by
  subst ex; subst ey
  rw [Int32.toInt_add, Int.bmod_def]
  split <;> omega
theorem i32_sub {x y : Int32} {zx zy : Int} (ex : x.toInt = zx) (ey : y.toInt = zy) (h1 : -2147483648 ≤ zx - zy) (h2 : zx - zy ≤ 2147483647) : (x - y).toInt = zx - zy := by
  subst ex; subst ey
  rw [Int32.toInt_sub, Int.bmod_def]
  split <;> omega
theorem i32_mul {x y : Int32} {zx zy z : Int} (ex : x.toInt = zx) (ey : y.toInt = zy) (hz : zx * zy = z) (h1 : -2147483648 ≤ z) (h2 : z ≤ 2147483647) : (x * y).toInt = z := by
  subst ex; subst ey; subst hz
  rw [Int32.toInt_mul, Int.bmod_def]
  split <;> omega
theorem hx_g.ne {L : List Nat} {h : hx_h} {a b t u : Nat} (g : hx_g L h a t) (k : hx_g L h b u) (n : t ≠ u) : a ≠ b := fun z => n (by rw [← g.2, ← k.2, z])
/-- what an object's reference fields hold: cells of their tags, an array's contents nothing where it is told so -/
def hx_con (L : List Nat) (h : hx_h) (a ta : Nat) (cs : List (Nat × Nat × Bool)) (zs : List Nat) : Prop :=
  hx_g L h a ta ∧ (∀ k t z, (k, t, z) ∈ cs → ∃ q, h.2.2 a k = some q ∧ hx_g L h q t ∧ (z = true → (∀ j, h.2.1 q j = 0) ∧ ∀ j, h.2.2 q j = none)) ∧ ∀ k ∈ zs, h.2.1 a k = 0
theorem hx_S.o {tb : List hx_d} {M : hx_m} {L L1 : List Nat} {h h1 : hx_h} {a t k : Nat} (hs : hx_S tb M L h L1 h1) (g : hx_g L h a t) (ho : match tb[t]? with | some (.inr _) => False | _ => True) (hk : M.contains (t, k) = false) : h1.2.1 a k = h.2.1 a k ∧ h1.2.2 a k = h.2.2 a k := by
  refine hs.2 a g.1 k ?_
  rw [g.2]
  have hn : (t, k) ∉ M := fun z => by rw [List.contains_iff_mem.mpr z] at hk; cases hk
  revert ho
  cases tb[t]? with
  | none => exact fun _ => hn
  | some d => rcases d with d | d
              · exact fun _ => hn
              · exact fun z => z.elim
theorem hx_S.a {tb : List hx_d} {M : hx_m} {L L1 : List Nat} {h h1 : hx_h} {a t : Nat} (hs : hx_S tb M L h L1 h1) (g : hx_g L h a t) (hk : M.any (fun q => q.1 == t) = false) (j : Nat) : h1.2.1 a j = h.2.1 a j ∧ h1.2.2 a j = h.2.2 a j := by
  refine hs.2 a g.1 j ?_
  rw [g.2]
  have hn : ∀ k, (t, k) ∉ M := fun k z => by
    have := List.any_eq_false.mp hk _ z
    simp at this
  cases tb[t]? with
  | none => exact hn j
  | some d => rcases d with d | d
              · exact hn j
              · exact hn 0
theorem hx_con.S {tb : List hx_d} {M : hx_m} {L L1 : List Nat} {h h1 : hx_h} {a ta : Nat} {cs : List (Nat × Nat × Bool)} {zs : List Nat} (c : hx_con L h a ta cs zs) (hs : hx_S tb M L h L1 h1) (ho : match tb[ta]? with | some (.inr _) => False | _ => True)
    (ok : (cs.all (fun p => !(M.contains (ta, p.1)) && !(M.any (fun q => q.1 == p.2.1))) && zs.all (fun k => !(M.contains (ta, k)))) = true) : hx_con L1 h1 a ta cs zs := by
  rw [Bool.and_eq_true, List.all_eq_true, List.all_eq_true] at ok
  refine ⟨c.1.S hs, fun k t z hk => ?_, fun k hk => ?_⟩
  · obtain ⟨q, e1, g1, z1⟩ := c.2.1 k t z hk
    have o1 := ok.1 _ hk
    rw [Bool.and_eq_true, Bool.not_eq_true', Bool.not_eq_true'] at o1
    refine ⟨q, (hs.o c.1 ho o1.1).2.trans e1, g1.S hs, fun hz => ⟨fun j => (hs.a g1 o1.2 j).1.trans ((z1 hz).1 j), fun j => (hs.a g1 o1.2 j).2.trans ((z1 hz).2 j)⟩⟩
  · have o1 := ok.2 _ hk
    rw [Bool.not_eq_true'] at o1
    exact (hs.o c.1 ho o1).1.trans (c.2.2 k hk)
theorem hx_con.add {tb : List hx_d} {L : List Nat} {h : hx_h} {a ta k t q : Nat} {cs : List (Nat × Nat × Bool)} {zs : List Nat} (c : hx_con L h a ta cs zs) (z : Bool) (e : h.2.2 a k = some q) (g : hx_g L h q t) (hz : z = true → (∀ j, h.2.1 q j = 0) ∧ ∀ j, h.2.2 q j = none) : hx_con L h a ta ((k, t, z) :: cs) zs := by
  refine ⟨c.1, fun k2 t2 z2 hk => ?_, c.2.2⟩
  rcases List.mem_cons.mp hk with hk | hk
  · cases hk
    exact ⟨q, e, g, hz⟩
  · exact c.2.1 k2 t2 z2 hk
theorem hx_con.get {L : List Nat} {h : hx_h} {a ta k t : Nat} {z : Bool} {cs : List (Nat × Nat × Bool)} {zs : List Nat} (c : hx_con L h a ta cs zs) (i : Nat) (hi : cs[i]? = some (k, t, z)) : ∃ q, h.2.2 a k = some q ∧ hx_g L h q t ∧ (z = true → (∀ j, h.2.1 q j = 0) ∧ ∀ j, h.2.2 q j = none) := c.2.1 k t z (List.mem_of_getElem? hi)
end
section
-- ===== PART A: goes FIRST, ahead of the names: the tables' words, and 'selects' of the private methods out of them =====
/-- a private method of a class that the tables say can be made, by its rows of tables_1 -/
def lw_okq (q : MethodName × Nat) : Prop := (q.1.cls ≠ "java/lang/invoke/MethodHandle" ∧ q.1.cls ≠ "java/lang/invoke/VarHandle") ∧ Cond.instantiable q.1.cls q.2 ∈ tables_1 ∧ Cond.privateMethod q.1 ∈ tables_1 ∧ Cond.instanceMethod q.1 ∈ tables_1
theorem lw_p0 : lw_okq (⟨"SmallCourt", "feedBytes", "(I)V"⟩, 20) := ⟨⟨by decide +kernel, by decide +kernel⟩, List.mem_of_getElem? (i := 19) (by decide +kernel), List.mem_of_getElem? (i := 347) (by decide +kernel), List.mem_of_getElem? (i := 348) (by decide +kernel)⟩
theorem lw_p1 : lw_okq (⟨"SmallCourt$Reader", "skipBlanks", "()V"⟩, 7) := ⟨⟨by decide +kernel, by decide +kernel⟩, List.mem_of_getElem? (i := 27) (by decide +kernel), List.mem_of_getElem? (i := 363) (by decide +kernel), List.mem_of_getElem? (i := 364) (by decide +kernel)⟩
theorem lw_p2 : lw_okq (⟨"SmallCourt$Reader", "readClause", "()Z"⟩, 7) := ⟨⟨by decide +kernel, by decide +kernel⟩, List.mem_of_getElem? (i := 27) (by decide +kernel), List.mem_of_getElem? (i := 367) (by decide +kernel), List.mem_of_getElem? (i := 368) (by decide +kernel)⟩
theorem lw_p3 : lw_okq (⟨"SmallCourt$Reader", "readWord", "(Ljava/lang/String;)I"⟩, 7) := ⟨⟨by decide +kernel, by decide +kernel⟩, List.mem_of_getElem? (i := 27) (by decide +kernel), List.mem_of_getElem? (i := 372) (by decide +kernel), List.mem_of_getElem? (i := 373) (by decide +kernel)⟩
theorem lw_p4 : lw_okq (⟨"SmallCourt$Reader", "wordEnd", "()I"⟩, 7) := ⟨⟨by decide +kernel, by decide +kernel⟩, List.mem_of_getElem? (i := 27) (by decide +kernel), List.mem_of_getElem? (i := 376) (by decide +kernel), List.mem_of_getElem? (i := 377) (by decide +kernel)⟩
theorem lw_p5 : lw_okq (⟨"SmallCourt$Reader", "isSlot", "(Ljava/lang/String;II)Z"⟩, 7) := ⟨⟨by decide +kernel, by decide +kernel⟩, List.mem_of_getElem? (i := 27) (by decide +kernel), List.mem_of_getElem? (i := 390) (by decide +kernel), List.mem_of_getElem? (i := 391) (by decide +kernel)⟩
theorem lw_p6 : lw_okq (⟨"SmallCourt$Reader", "refuse", "(II)Z"⟩, 7) := ⟨⟨by decide +kernel, by decide +kernel⟩, List.mem_of_getElem? (i := 27) (by decide +kernel), List.mem_of_getElem? (i := 432) (by decide +kernel), List.mem_of_getElem? (i := 433) (by decide +kernel)⟩
theorem lw_p7 : lw_okq (⟨"SmallCourt$Reader", "readCost", "()Z"⟩, 7) := ⟨⟨by decide +kernel, by decide +kernel⟩, List.mem_of_getElem? (i := 27) (by decide +kernel), List.mem_of_getElem? (i := 436) (by decide +kernel), List.mem_of_getElem? (i := 437) (by decide +kernel)⟩
theorem lw_p8 : lw_okq (⟨"SmallCourt$Reader", "tellOnce", "(II)Z"⟩, 7) := ⟨⟨by decide +kernel, by decide +kernel⟩, List.mem_of_getElem? (i := 27) (by decide +kernel), List.mem_of_getElem? (i := 441) (by decide +kernel), List.mem_of_getElem? (i := 442) (by decide +kernel)⟩
theorem lw_p9 : lw_okq (⟨"SmallCourt$Reader", "readTold", "(I)Z"⟩, 7) := ⟨⟨by decide +kernel, by decide +kernel⟩, List.mem_of_getElem? (i := 27) (by decide +kernel), List.mem_of_getElem? (i := 445) (by decide +kernel), List.mem_of_getElem? (i := 446) (by decide +kernel)⟩
theorem lw_p10 : lw_okq (⟨"SmallCourt$Reader", "isDigit", "(I)Z"⟩, 7) := ⟨⟨by decide +kernel, by decide +kernel⟩, List.mem_of_getElem? (i := 27) (by decide +kernel), List.mem_of_getElem? (i := 449) (by decide +kernel), List.mem_of_getElem? (i := 450) (by decide +kernel)⟩
theorem lw_p11 : lw_okq (⟨"SmallCourt$Reader", "readNumber", "()I"⟩, 7) := ⟨⟨by decide +kernel, by decide +kernel⟩, List.mem_of_getElem? (i := 27) (by decide +kernel), List.mem_of_getElem? (i := 453) (by decide +kernel), List.mem_of_getElem? (i := 454) (by decide +kernel)⟩
theorem lw_p12 : lw_okq (⟨"SmallCourt$Reader", "readEither", "(I)Z"⟩, 7) := ⟨⟨by decide +kernel, by decide +kernel⟩, List.mem_of_getElem? (i := 27) (by decide +kernel), List.mem_of_getElem? (i := 461) (by decide +kernel), List.mem_of_getElem? (i := 462) (by decide +kernel)⟩
theorem lw_p13 : lw_okq (⟨"SmallCourt$Reader", "readOne", "(I)Z"⟩, 7) := ⟨⟨by decide +kernel, by decide +kernel⟩, List.mem_of_getElem? (i := 27) (by decide +kernel), List.mem_of_getElem? (i := 465) (by decide +kernel), List.mem_of_getElem? (i := 466) (by decide +kernel)⟩
theorem lw_p14 : lw_okq (⟨"SmallCourt$Reader", "isNextWord", "(Ljava/lang/String;)Z"⟩, 7) := ⟨⟨by decide +kernel, by decide +kernel⟩, List.mem_of_getElem? (i := 27) (by decide +kernel), List.mem_of_getElem? (i := 470) (by decide +kernel), List.mem_of_getElem? (i := 471) (by decide +kernel)⟩
theorem lw_p15 : lw_okq (⟨"SmallCourt$Reader", "isByte", "(C)Z"⟩, 7) := ⟨⟨by decide +kernel, by decide +kernel⟩, List.mem_of_getElem? (i := 27) (by decide +kernel), List.mem_of_getElem? (i := 474) (by decide +kernel), List.mem_of_getElem? (i := 475) (by decide +kernel)⟩
def lw_privs_1 : List (MethodName × Nat) := [(⟨"SmallCourt", "feedBytes", "(I)V"⟩, 20), (⟨"SmallCourt$Reader", "skipBlanks", "()V"⟩, 7), (⟨"SmallCourt$Reader", "readClause", "()Z"⟩, 7), (⟨"SmallCourt$Reader", "readWord", "(Ljava/lang/String;)I"⟩, 7), (⟨"SmallCourt$Reader", "wordEnd", "()I"⟩, 7), (⟨"SmallCourt$Reader", "isSlot", "(Ljava/lang/String;II)Z"⟩, 7), (⟨"SmallCourt$Reader", "refuse", "(II)Z"⟩, 7), (⟨"SmallCourt$Reader", "readCost", "()Z"⟩, 7), (⟨"SmallCourt$Reader", "tellOnce", "(II)Z"⟩, 7), (⟨"SmallCourt$Reader", "readTold", "(I)Z"⟩, 7), (⟨"SmallCourt$Reader", "isDigit", "(I)Z"⟩, 7), (⟨"SmallCourt$Reader", "readNumber", "()I"⟩, 7), (⟨"SmallCourt$Reader", "readEither", "(I)Z"⟩, 7), (⟨"SmallCourt$Reader", "readOne", "(I)Z"⟩, 7), (⟨"SmallCourt$Reader", "isNextWord", "(Ljava/lang/String;)Z"⟩, 7), (⟨"SmallCourt$Reader", "isByte", "(C)Z"⟩, 7)]
theorem lw_r1 : ∀ q ∈ lw_privs_1, lw_okq q := List.forall_mem_cons.mpr ⟨lw_p0, List.forall_mem_cons.mpr ⟨lw_p1, List.forall_mem_cons.mpr ⟨lw_p2, List.forall_mem_cons.mpr ⟨lw_p3, List.forall_mem_cons.mpr ⟨lw_p4, List.forall_mem_cons.mpr ⟨lw_p5, List.forall_mem_cons.mpr ⟨lw_p6, List.forall_mem_cons.mpr ⟨lw_p7, List.forall_mem_cons.mpr ⟨lw_p8, List.forall_mem_cons.mpr ⟨lw_p9, List.forall_mem_cons.mpr ⟨lw_p10, List.forall_mem_cons.mpr ⟨lw_p11, List.forall_mem_cons.mpr ⟨lw_p12, List.forall_mem_cons.mpr ⟨lw_p13, List.forall_mem_cons.mpr ⟨lw_p14, List.forall_mem_cons.mpr ⟨lw_p15, fun _ h => absurd h List.not_mem_nil⟩⟩⟩⟩⟩⟩⟩⟩⟩⟩⟩⟩⟩⟩⟩⟩
theorem lw_p16 : lw_okq (⟨"SmallCourt$Reader", "readTerm", "()Z"⟩, 7) := ⟨⟨by decide +kernel, by decide +kernel⟩, List.mem_of_getElem? (i := 27) (by decide +kernel), List.mem_of_getElem? (i := 478) (by decide +kernel), List.mem_of_getElem? (i := 479) (by decide +kernel)⟩
theorem lw_p17 : lw_okq (⟨"SmallCourt$Reader", "readSign", "()I"⟩, 7) := ⟨⟨by decide +kernel, by decide +kernel⟩, List.mem_of_getElem? (i := 27) (by decide +kernel), List.mem_of_getElem? (i := 483) (by decide +kernel), List.mem_of_getElem? (i := 484) (by decide +kernel)⟩
theorem lw_p18 : lw_okq (⟨"SmallCourt$Reader", "isAnotherClause", "()Z"⟩, 7) := ⟨⟨by decide +kernel, by decide +kernel⟩, List.mem_of_getElem? (i := 27) (by decide +kernel), List.mem_of_getElem? (i := 494) (by decide +kernel), List.mem_of_getElem? (i := 495) (by decide +kernel)⟩
theorem lw_p19 : lw_okq (⟨"SmallCourt", "inForce", "(I)LSmallCourt$Act;"⟩, 20) := ⟨⟨by decide +kernel, by decide +kernel⟩, List.mem_of_getElem? (i := 19) (by decide +kernel), List.mem_of_getElem? (i := 502) (by decide +kernel), List.mem_of_getElem? (i := 503) (by decide +kernel)⟩
theorem lw_p20 : lw_okq (⟨"SmallCourt", "personAt", "(I)LSmallCourt$Person;"⟩, 20) := ⟨⟨by decide +kernel, by decide +kernel⟩, List.mem_of_getElem? (i := 19) (by decide +kernel), List.mem_of_getElem? (i := 564) (by decide +kernel), List.mem_of_getElem? (i := 565) (by decide +kernel)⟩
theorem lw_p21 : lw_okq (⟨"SmallCourt", "areTwo", "(II)Z"⟩, 20) := ⟨⟨by decide +kernel, by decide +kernel⟩, List.mem_of_getElem? (i := 19) (by decide +kernel), List.mem_of_getElem? (i := 580) (by decide +kernel), List.mem_of_getElem? (i := 581) (by decide +kernel)⟩
theorem lw_p22 : lw_okq (⟨"SmallCourt$Books", "isLine", "(IIII)Z"⟩, 8) := ⟨⟨by decide +kernel, by decide +kernel⟩, List.mem_of_getElem? (i := 98) (by decide +kernel), List.mem_of_getElem? (i := 597) (by decide +kernel), List.mem_of_getElem? (i := 598) (by decide +kernel)⟩
theorem lw_p23 : lw_okq (⟨"SmallCourt$Books", "takeTwin", "(II)Z"⟩, 8) := ⟨⟨by decide +kernel, by decide +kernel⟩, List.mem_of_getElem? (i := 98) (by decide +kernel), List.mem_of_getElem? (i := 605) (by decide +kernel), List.mem_of_getElem? (i := 606) (by decide +kernel)⟩
theorem lw_p24 : lw_okq (⟨"SmallCourt$Books", "areTwins", "(II)Z"⟩, 8) := ⟨⟨by decide +kernel, by decide +kernel⟩, List.mem_of_getElem? (i := 98) (by decide +kernel), List.mem_of_getElem? (i := 609) (by decide +kernel), List.mem_of_getElem? (i := 610) (by decide +kernel)⟩
theorem lw_p25 : lw_okq (⟨"SmallCourt", "claimAt", "(I)LSmallCourt$Claim;"⟩, 20) := ⟨⟨by decide +kernel, by decide +kernel⟩, List.mem_of_getElem? (i := 19) (by decide +kernel), List.mem_of_getElem? (i := 715) (by decide +kernel), List.mem_of_getElem? (i := 716) (by decide +kernel)⟩
theorem lw_p26 : lw_okq (⟨"SmallCourt", "drawBench", "(LSmallCourt$Claim;I)Z"⟩, 20) := ⟨⟨by decide +kernel, by decide +kernel⟩, List.mem_of_getElem? (i := 19) (by decide +kernel), List.mem_of_getElem? (i := 723) (by decide +kernel), List.mem_of_getElem? (i := 724) (by decide +kernel)⟩
theorem lw_p27 : lw_okq (⟨"SmallCourt$Person", "isKinOf", "(LSmallCourt$Person;)Z"⟩, 10) := ⟨⟨by decide +kernel, by decide +kernel⟩, List.mem_of_getElem? (i := 512) (by decide +kernel), List.mem_of_getElem? (i := 731) (by decide +kernel), List.mem_of_getElem? (i := 732) (by decide +kernel)⟩
theorem lw_p28 : lw_okq (⟨"SmallCourt", "judgement", "(LSmallCourt$Claim;LSmallCourt$Act;)I"⟩, 20) := ⟨⟨by decide +kernel, by decide +kernel⟩, List.mem_of_getElem? (i := 19) (by decide +kernel), List.mem_of_getElem? (i := 735) (by decide +kernel), List.mem_of_getElem? (i := 736) (by decide +kernel)⟩
theorem lw_p29 : lw_okq (⟨"SmallCourt", "sumOfSplit", "(LSmallCourt$Claim;LSmallCourt$Act;)I"⟩, 20) := ⟨⟨by decide +kernel, by decide +kernel⟩, List.mem_of_getElem? (i := 19) (by decide +kernel), List.mem_of_getElem? (i := 739) (by decide +kernel), List.mem_of_getElem? (i := 740) (by decide +kernel)⟩
theorem lw_p30 : lw_okq (⟨"SmallCourt", "openInstalments", "(LSmallCourt$Person;)I"⟩, 20) := ⟨⟨by decide +kernel, by decide +kernel⟩, List.mem_of_getElem? (i := 19) (by decide +kernel), List.mem_of_getElem? (i := 758) (by decide +kernel), List.mem_of_getElem? (i := 759) (by decide +kernel)⟩
theorem lw_p31 : lw_okq (⟨"SmallCourt$Claim", "owedOn", "(I)I"⟩, 19) := ⟨⟨by decide +kernel, by decide +kernel⟩, List.mem_of_getElem? (i := 623) (by decide +kernel), List.mem_of_getElem? (i := 777) (by decide +kernel), List.mem_of_getElem? (i := 778) (by decide +kernel)⟩
def lw_privs_2 : List (MethodName × Nat) := [(⟨"SmallCourt$Reader", "readTerm", "()Z"⟩, 7), (⟨"SmallCourt$Reader", "readSign", "()I"⟩, 7), (⟨"SmallCourt$Reader", "isAnotherClause", "()Z"⟩, 7), (⟨"SmallCourt", "inForce", "(I)LSmallCourt$Act;"⟩, 20), (⟨"SmallCourt", "personAt", "(I)LSmallCourt$Person;"⟩, 20), (⟨"SmallCourt", "areTwo", "(II)Z"⟩, 20), (⟨"SmallCourt$Books", "isLine", "(IIII)Z"⟩, 8), (⟨"SmallCourt$Books", "takeTwin", "(II)Z"⟩, 8), (⟨"SmallCourt$Books", "areTwins", "(II)Z"⟩, 8), (⟨"SmallCourt", "claimAt", "(I)LSmallCourt$Claim;"⟩, 20), (⟨"SmallCourt", "drawBench", "(LSmallCourt$Claim;I)Z"⟩, 20), (⟨"SmallCourt$Person", "isKinOf", "(LSmallCourt$Person;)Z"⟩, 10), (⟨"SmallCourt", "judgement", "(LSmallCourt$Claim;LSmallCourt$Act;)I"⟩, 20), (⟨"SmallCourt", "sumOfSplit", "(LSmallCourt$Claim;LSmallCourt$Act;)I"⟩, 20), (⟨"SmallCourt", "openInstalments", "(LSmallCourt$Person;)I"⟩, 20), (⟨"SmallCourt$Claim", "owedOn", "(I)I"⟩, 19)]
theorem lw_r2 : ∀ q ∈ lw_privs_2, lw_okq q := List.forall_mem_cons.mpr ⟨lw_p16, List.forall_mem_cons.mpr ⟨lw_p17, List.forall_mem_cons.mpr ⟨lw_p18, List.forall_mem_cons.mpr ⟨lw_p19, List.forall_mem_cons.mpr ⟨lw_p20, List.forall_mem_cons.mpr ⟨lw_p21, List.forall_mem_cons.mpr ⟨lw_p22, List.forall_mem_cons.mpr ⟨lw_p23, List.forall_mem_cons.mpr ⟨lw_p24, List.forall_mem_cons.mpr ⟨lw_p25, List.forall_mem_cons.mpr ⟨lw_p26, List.forall_mem_cons.mpr ⟨lw_p27, List.forall_mem_cons.mpr ⟨lw_p28, List.forall_mem_cons.mpr ⟨lw_p29, List.forall_mem_cons.mpr ⟨lw_p30, List.forall_mem_cons.mpr ⟨lw_p31, fun _ h => absurd h List.not_mem_nil⟩⟩⟩⟩⟩⟩⟩⟩⟩⟩⟩⟩⟩⟩⟩⟩
theorem lw_p32 : lw_okq (⟨"SmallCourt$Claim", "stateAheadOfOrder", "(I)I"⟩, 19) := ⟨⟨by decide +kernel, by decide +kernel⟩, List.mem_of_getElem? (i := 623) (by decide +kernel), List.mem_of_getElem? (i := 816) (by decide +kernel), List.mem_of_getElem? (i := 817) (by decide +kernel)⟩
theorem lw_p33 : lw_okq (⟨"SmallCourt$Plan", "leastFrom", "(I)I"⟩, 13) := ⟨⟨by decide +kernel, by decide +kernel⟩, List.mem_of_getElem? (i := 160) (by decide +kernel), List.mem_of_getElem? (i := 869) (by decide +kernel), List.mem_of_getElem? (i := 870) (by decide +kernel)⟩
theorem lw_p34 : lw_okq (⟨"SmallCourt$Plan", "tryFrom", "(IIII)V"⟩, 13) := ⟨⟨by decide +kernel, by decide +kernel⟩, List.mem_of_getElem? (i := 160) (by decide +kernel), List.mem_of_getElem? (i := 874) (by decide +kernel), List.mem_of_getElem? (i := 875) (by decide +kernel)⟩
theorem lw_p35 : lw_okq (⟨"SmallCourt$Plan", "keepIfBetter", "(II)V"⟩, 13) := ⟨⟨by decide +kernel, by decide +kernel⟩, List.mem_of_getElem? (i := 160) (by decide +kernel), List.mem_of_getElem? (i := 878) (by decide +kernel), List.mem_of_getElem? (i := 879) (by decide +kernel)⟩
theorem lw_p36 : lw_okq (⟨"SmallCourt$Rings", "goOn", "(II)V"⟩, 8) := ⟨⟨by decide +kernel, by decide +kernel⟩, List.mem_of_getElem? (i := 211) (by decide +kernel), List.mem_of_getElem? (i := 906) (by decide +kernel), List.mem_of_getElem? (i := 907) (by decide +kernel)⟩
theorem lw_p37 : lw_okq (⟨"SmallCourt$Rings", "keepIfBetter", "(II)V"⟩, 8) := ⟨⟨by decide +kernel, by decide +kernel⟩, List.mem_of_getElem? (i := 211) (by decide +kernel), List.mem_of_getElem? (i := 911) (by decide +kernel), List.mem_of_getElem? (i := 912) (by decide +kernel)⟩
theorem lw_p38 : lw_okq (⟨"SmallCourt$Rings", "isInRing", "(II)Z"⟩, 8) := ⟨⟨by decide +kernel, by decide +kernel⟩, List.mem_of_getElem? (i := 211) (by decide +kernel), List.mem_of_getElem? (i := 916) (by decide +kernel), List.mem_of_getElem? (i := 917) (by decide +kernel)⟩
theorem lw_p39 : lw_okq (⟨"SmallCourt", "ringNeeds", "()I"⟩, 20) := ⟨⟨by decide +kernel, by decide +kernel⟩, List.mem_of_getElem? (i := 19) (by decide +kernel), List.mem_of_getElem? (i := 920) (by decide +kernel), List.mem_of_getElem? (i := 921) (by decide +kernel)⟩
theorem lw_p40 : lw_okq (⟨"SmallCourt$Rings", "placeAfter", "(I)I"⟩, 8) := ⟨⟨by decide +kernel, by decide +kernel⟩, List.mem_of_getElem? (i := 211) (by decide +kernel), List.mem_of_getElem? (i := 928) (by decide +kernel), List.mem_of_getElem? (i := 929) (by decide +kernel)⟩
theorem lw_p41 : lw_okq (⟨"SmallCourt", "takeOffRing", "()I"⟩, 20) := ⟨⟨by decide +kernel, by decide +kernel⟩, List.mem_of_getElem? (i := 19) (by decide +kernel), List.mem_of_getElem? (i := 932) (by decide +kernel), List.mem_of_getElem? (i := 933) (by decide +kernel)⟩
theorem lw_p42 : lw_okq (⟨"SmallCourt$Walk", "fromCourt", "(I)I"⟩, 5) := ⟨⟨by decide +kernel, by decide +kernel⟩, List.mem_of_getElem? (i := 246) (by decide +kernel), List.mem_of_getElem? (i := 967) (by decide +kernel), List.mem_of_getElem? (i := 968) (by decide +kernel)⟩
theorem lw_p43 : lw_okq (⟨"SmallCourt$Walk", "leastOn", "(II)I"⟩, 5) := ⟨⟨by decide +kernel, by decide +kernel⟩, List.mem_of_getElem? (i := 246) (by decide +kernel), List.mem_of_getElem? (i := 972) (by decide +kernel), List.mem_of_getElem? (i := 973) (by decide +kernel)⟩
theorem lw_p44 : lw_okq (⟨"SmallCourt$Walk", "stepsBy", "(III)I"⟩, 5) := ⟨⟨by decide +kernel, by decide +kernel⟩, List.mem_of_getElem? (i := 246) (by decide +kernel), List.mem_of_getElem? (i := 977) (by decide +kernel), List.mem_of_getElem? (i := 978) (by decide +kernel)⟩
theorem lw_p45 : lw_okq (⟨"SmallCourt$Walk", "retrace", "(I)V"⟩, 5) := ⟨⟨by decide +kernel, by decide +kernel⟩, List.mem_of_getElem? (i := 246) (by decide +kernel), List.mem_of_getElem? (i := 985) (by decide +kernel), List.mem_of_getElem? (i := 986) (by decide +kernel)⟩
theorem lw_p46 : lw_okq (⟨"SmallCourt$Walk", "firstOnWay", "(III)I"⟩, 5) := ⟨⟨by decide +kernel, by decide +kernel⟩, List.mem_of_getElem? (i := 246) (by decide +kernel), List.mem_of_getElem? (i := 989) (by decide +kernel), List.mem_of_getElem? (i := 990) (by decide +kernel)⟩
theorem lw_p47 : lw_okq (⟨"SmallCourt", "livingJudges", "()I"⟩, 20) := ⟨⟨by decide +kernel, by decide +kernel⟩, List.mem_of_getElem? (i := 19) (by decide +kernel), List.mem_of_getElem? (i := 1017) (by decide +kernel), List.mem_of_getElem? (i := 1018) (by decide +kernel)⟩
def lw_privs_3 : List (MethodName × Nat) := [(⟨"SmallCourt$Claim", "stateAheadOfOrder", "(I)I"⟩, 19), (⟨"SmallCourt$Plan", "leastFrom", "(I)I"⟩, 13), (⟨"SmallCourt$Plan", "tryFrom", "(IIII)V"⟩, 13), (⟨"SmallCourt$Plan", "keepIfBetter", "(II)V"⟩, 13), (⟨"SmallCourt$Rings", "goOn", "(II)V"⟩, 8), (⟨"SmallCourt$Rings", "keepIfBetter", "(II)V"⟩, 8), (⟨"SmallCourt$Rings", "isInRing", "(II)Z"⟩, 8), (⟨"SmallCourt", "ringNeeds", "()I"⟩, 20), (⟨"SmallCourt$Rings", "placeAfter", "(I)I"⟩, 8), (⟨"SmallCourt", "takeOffRing", "()I"⟩, 20), (⟨"SmallCourt$Walk", "fromCourt", "(I)I"⟩, 5), (⟨"SmallCourt$Walk", "leastOn", "(II)I"⟩, 5), (⟨"SmallCourt$Walk", "stepsBy", "(III)I"⟩, 5), (⟨"SmallCourt$Walk", "retrace", "(I)V"⟩, 5), (⟨"SmallCourt$Walk", "firstOnWay", "(III)I"⟩, 5), (⟨"SmallCourt", "livingJudges", "()I"⟩, 20)]
theorem lw_r3 : ∀ q ∈ lw_privs_3, lw_okq q := List.forall_mem_cons.mpr ⟨lw_p32, List.forall_mem_cons.mpr ⟨lw_p33, List.forall_mem_cons.mpr ⟨lw_p34, List.forall_mem_cons.mpr ⟨lw_p35, List.forall_mem_cons.mpr ⟨lw_p36, List.forall_mem_cons.mpr ⟨lw_p37, List.forall_mem_cons.mpr ⟨lw_p38, List.forall_mem_cons.mpr ⟨lw_p39, List.forall_mem_cons.mpr ⟨lw_p40, List.forall_mem_cons.mpr ⟨lw_p41, List.forall_mem_cons.mpr ⟨lw_p42, List.forall_mem_cons.mpr ⟨lw_p43, List.forall_mem_cons.mpr ⟨lw_p44, List.forall_mem_cons.mpr ⟨lw_p45, List.forall_mem_cons.mpr ⟨lw_p46, List.forall_mem_cons.mpr ⟨lw_p47, fun _ h => absurd h List.not_mem_nil⟩⟩⟩⟩⟩⟩⟩⟩⟩⟩⟩⟩⟩⟩⟩⟩
theorem lw_p48 : lw_okq (⟨"SmallCourtModel", "clears", "()V"⟩, 98) := ⟨⟨by decide +kernel, by decide +kernel⟩, List.mem_of_getElem? (i := 1021) (by decide +kernel), List.mem_of_getElem? (i := 1030) (by decide +kernel), List.mem_of_getElem? (i := 1031) (by decide +kernel)⟩
theorem lw_p49 : lw_okq (⟨"SmallCourtModel", "withoutProof", "()V"⟩, 98) := ⟨⟨by decide +kernel, by decide +kernel⟩, List.mem_of_getElem? (i := 1021) (by decide +kernel), List.mem_of_getElem? (i := 1034) (by decide +kernel), List.mem_of_getElem? (i := 1035) (by decide +kernel)⟩
theorem lw_p50 : lw_okq (⟨"SmallCourtModel", "writes", "(I)V"⟩, 98) := ⟨⟨by decide +kernel, by decide +kernel⟩, List.mem_of_getElem? (i := 1021) (by decide +kernel), List.mem_of_getElem? (i := 1043) (by decide +kernel), List.mem_of_getElem? (i := 1044) (by decide +kernel)⟩
theorem lw_p51 : lw_okq (⟨"SmallCourtModel", "keepsProof", "(I)V"⟩, 98) := ⟨⟨by decide +kernel, by decide +kernel⟩, List.mem_of_getElem? (i := 1021) (by decide +kernel), List.mem_of_getElem? (i := 1047) (by decide +kernel), List.mem_of_getElem? (i := 1048) (by decide +kernel)⟩
theorem lw_p52 : lw_okq (⟨"SmallCourtModel", "four", "(I)V"⟩, 98) := ⟨⟨by decide +kernel, by decide +kernel⟩, List.mem_of_getElem? (i := 1021) (by decide +kernel), List.mem_of_getElem? (i := 1358) (by decide +kernel), List.mem_of_getElem? (i := 1359) (by decide +kernel)⟩
theorem lw_p53 : lw_okq (⟨"SmallCourtModel", "see", "()I"⟩, 98) := ⟨⟨by decide +kernel, by decide +kernel⟩, List.mem_of_getElem? (i := 1021) (by decide +kernel), List.mem_of_getElem? (i := 1373) (by decide +kernel), List.mem_of_getElem? (i := 1374) (by decide +kernel)⟩
theorem lw_p54 : lw_okq (⟨"SmallCourtModel", "clause", "()Z"⟩, 98) := ⟨⟨by decide +kernel, by decide +kernel⟩, List.mem_of_getElem? (i := 1021) (by decide +kernel), List.mem_of_getElem? (i := 1377) (by decide +kernel), List.mem_of_getElem? (i := 1378) (by decide +kernel)⟩
theorem lw_p55 : lw_okq (⟨"SmallCourtModel", "wordHere", "()I"⟩, 98) := ⟨⟨by decide +kernel, by decide +kernel⟩, List.mem_of_getElem? (i := 1021) (by decide +kernel), List.mem_of_getElem? (i := 1381) (by decide +kernel), List.mem_of_getElem? (i := 1382) (by decide +kernel)⟩
theorem lw_p56 : lw_okq (⟨"SmallCourtModel", "fails", "(II)Z"⟩, 98) := ⟨⟨by decide +kernel, by decide +kernel⟩, List.mem_of_getElem? (i := 1021) (by decide +kernel), List.mem_of_getElem? (i := 1385) (by decide +kernel), List.mem_of_getElem? (i := 1386) (by decide +kernel)⟩
theorem lw_p57 : lw_okq (⟨"SmallCourtModel", "isNew", "(II)Z"⟩, 98) := ⟨⟨by decide +kernel, by decide +kernel⟩, List.mem_of_getElem? (i := 1021) (by decide +kernel), List.mem_of_getElem? (i := 1389) (by decide +kernel), List.mem_of_getElem? (i := 1390) (by decide +kernel)⟩
theorem lw_p58 : lw_okq (⟨"SmallCourtModel", "either", "()Z"⟩, 98) := ⟨⟨by decide +kernel, by decide +kernel⟩, List.mem_of_getElem? (i := 1021) (by decide +kernel), List.mem_of_getElem? (i := 1393) (by decide +kernel), List.mem_of_getElem? (i := 1394) (by decide +kernel)⟩
theorem lw_p59 : lw_okq (⟨"SmallCourtModel", "begins", "()Z"⟩, 98) := ⟨⟨by decide +kernel, by decide +kernel⟩, List.mem_of_getElem? (i := 1021) (by decide +kernel), List.mem_of_getElem? (i := 1397) (by decide +kernel), List.mem_of_getElem? (i := 1398) (by decide +kernel)⟩
theorem lw_p60 : lw_okq (⟨"SmallCourtModel", "compare", "(I)Z"⟩, 98) := ⟨⟨by decide +kernel, by decide +kernel⟩, List.mem_of_getElem? (i := 1021) (by decide +kernel), List.mem_of_getElem? (i := 1401) (by decide +kernel), List.mem_of_getElem? (i := 1402) (by decide +kernel)⟩
theorem lw_p61 : lw_okq (⟨"SmallCourtModel", "number", "(II)Z"⟩, 98) := ⟨⟨by decide +kernel, by decide +kernel⟩, List.mem_of_getElem? (i := 1021) (by decide +kernel), List.mem_of_getElem? (i := 1408) (by decide +kernel), List.mem_of_getElem? (i := 1409) (by decide +kernel)⟩
theorem lw_p62 : lw_okq (⟨"SmallCourtModel", "deep", "()I"⟩, 98) := ⟨⟨by decide +kernel, by decide +kernel⟩, List.mem_of_getElem? (i := 1021) (by decide +kernel), List.mem_of_getElem? (i := 1412) (by decide +kernel), List.mem_of_getElem? (i := 1413) (by decide +kernel)⟩
theorem lw_p63 : lw_okq (⟨"SmallCourtModel", "closesNots", "()V"⟩, 98) := ⟨⟨by decide +kernel, by decide +kernel⟩, List.mem_of_getElem? (i := 1021) (by decide +kernel), List.mem_of_getElem? (i := 1416) (by decide +kernel), List.mem_of_getElem? (i := 1417) (by decide +kernel)⟩
def lw_privs_4 : List (MethodName × Nat) := [(⟨"SmallCourtModel", "clears", "()V"⟩, 98), (⟨"SmallCourtModel", "withoutProof", "()V"⟩, 98), (⟨"SmallCourtModel", "writes", "(I)V"⟩, 98), (⟨"SmallCourtModel", "keepsProof", "(I)V"⟩, 98), (⟨"SmallCourtModel", "four", "(I)V"⟩, 98), (⟨"SmallCourtModel", "see", "()I"⟩, 98), (⟨"SmallCourtModel", "clause", "()Z"⟩, 98), (⟨"SmallCourtModel", "wordHere", "()I"⟩, 98), (⟨"SmallCourtModel", "fails", "(II)Z"⟩, 98), (⟨"SmallCourtModel", "isNew", "(II)Z"⟩, 98), (⟨"SmallCourtModel", "either", "()Z"⟩, 98), (⟨"SmallCourtModel", "begins", "()Z"⟩, 98), (⟨"SmallCourtModel", "compare", "(I)Z"⟩, 98), (⟨"SmallCourtModel", "number", "(II)Z"⟩, 98), (⟨"SmallCourtModel", "deep", "()I"⟩, 98), (⟨"SmallCourtModel", "closesNots", "()V"⟩, 98)]
theorem lw_r4 : ∀ q ∈ lw_privs_4, lw_okq q := List.forall_mem_cons.mpr ⟨lw_p48, List.forall_mem_cons.mpr ⟨lw_p49, List.forall_mem_cons.mpr ⟨lw_p50, List.forall_mem_cons.mpr ⟨lw_p51, List.forall_mem_cons.mpr ⟨lw_p52, List.forall_mem_cons.mpr ⟨lw_p53, List.forall_mem_cons.mpr ⟨lw_p54, List.forall_mem_cons.mpr ⟨lw_p55, List.forall_mem_cons.mpr ⟨lw_p56, List.forall_mem_cons.mpr ⟨lw_p57, List.forall_mem_cons.mpr ⟨lw_p58, List.forall_mem_cons.mpr ⟨lw_p59, List.forall_mem_cons.mpr ⟨lw_p60, List.forall_mem_cons.mpr ⟨lw_p61, List.forall_mem_cons.mpr ⟨lw_p62, List.forall_mem_cons.mpr ⟨lw_p63, fun _ h => absurd h List.not_mem_nil⟩⟩⟩⟩⟩⟩⟩⟩⟩⟩⟩⟩⟩⟩⟩⟩
theorem lw_p64 : lw_okq (⟨"SmallCourtModel", "closesDown", "(I)V"⟩, 98) := ⟨⟨by decide +kernel, by decide +kernel⟩, List.mem_of_getElem? (i := 1021) (by decide +kernel), List.mem_of_getElem? (i := 1420) (by decide +kernel), List.mem_of_getElem? (i := 1421) (by decide +kernel)⟩
theorem lw_p65 : lw_okq (⟨"SmallCourtModel", "inForce", "(I)I"⟩, 98) := ⟨⟨by decide +kernel, by decide +kernel⟩, List.mem_of_getElem? (i := 1021) (by decide +kernel), List.mem_of_getElem? (i := 1434) (by decide +kernel), List.mem_of_getElem? (i := 1435) (by decide +kernel)⟩
theorem lw_p66 : lw_okq (⟨"SmallCourtModel", "ruleOf", "(II)I"⟩, 98) := ⟨⟨by decide +kernel, by decide +kernel⟩, List.mem_of_getElem? (i := 1021) (by decide +kernel), List.mem_of_getElem? (i := 1438) (by decide +kernel), List.mem_of_getElem? (i := 1439) (by decide +kernel)⟩
theorem lw_p67 : lw_okq (⟨"SmallCourtModel", "lives", "(IIIII)V"⟩, 98) := ⟨⟨by decide +kernel, by decide +kernel⟩, List.mem_of_getElem? (i := 1021) (by decide +kernel), List.mem_of_getElem? (i := 1449) (by decide +kernel), List.mem_of_getElem? (i := 1450) (by decide +kernel)⟩
theorem lw_p68 : lw_okq (⟨"SmallCourtModel", "isPerson", "(I)Z"⟩, 98) := ⟨⟨by decide +kernel, by decide +kernel⟩, List.mem_of_getElem? (i := 1021) (by decide +kernel), List.mem_of_getElem? (i := 1457) (by decide +kernel), List.mem_of_getElem? (i := 1458) (by decide +kernel)⟩
theorem lw_p69 : lw_okq (⟨"SmallCourtModel", "bookSum", "(III)I"⟩, 98) := ⟨⟨by decide +kernel, by decide +kernel⟩, List.mem_of_getElem? (i := 1021) (by decide +kernel), List.mem_of_getElem? (i := 1478) (by decide +kernel), List.mem_of_getElem? (i := 1479) (by decide +kernel)⟩
theorem lw_p70 : lw_okq (⟨"SmallCourtModel", "alike", "(III)I"⟩, 98) := ⟨⟨by decide +kernel, by decide +kernel⟩, List.mem_of_getElem? (i := 1021) (by decide +kernel), List.mem_of_getElem? (i := 1482) (by decide +kernel), List.mem_of_getElem? (i := 1483) (by decide +kernel)⟩
theorem lw_p71 : lw_okq (⟨"SmallCourtModel", "areTwins", "(II)Z"⟩, 98) := ⟨⟨by decide +kernel, by decide +kernel⟩, List.mem_of_getElem? (i := 1021) (by decide +kernel), List.mem_of_getElem? (i := 1486) (by decide +kernel), List.mem_of_getElem? (i := 1487) (by decide +kernel)⟩
theorem lw_p72 : lw_okq (⟨"SmallCourtModel", "disorder", "(I)I"⟩, 98) := ⟨⟨by decide +kernel, by decide +kernel⟩, List.mem_of_getElem? (i := 1021) (by decide +kernel), List.mem_of_getElem? (i := 1490) (by decide +kernel), List.mem_of_getElem? (i := 1491) (by decide +kernel)⟩
theorem lw_p73 : lw_okq (⟨"SmallCourtModel", "isClaim", "(I)Z"⟩, 98) := ⟨⟨by decide +kernel, by decide +kernel⟩, List.mem_of_getElem? (i := 1021) (by decide +kernel), List.mem_of_getElem? (i := 1502) (by decide +kernel), List.mem_of_getElem? (i := 1503) (by decide +kernel)⟩
theorem lw_p74 : lw_okq (⟨"SmallCourtModel", "sits", "(I)I"⟩, 98) := ⟨⟨by decide +kernel, by decide +kernel⟩, List.mem_of_getElem? (i := 1021) (by decide +kernel), List.mem_of_getElem? (i := 1510) (by decide +kernel), List.mem_of_getElem? (i := 1511) (by decide +kernel)⟩
theorem lw_p75 : lw_okq (⟨"SmallCourtModel", "isKinOf", "(II)Z"⟩, 98) := ⟨⟨by decide +kernel, by decide +kernel⟩, List.mem_of_getElem? (i := 1021) (by decide +kernel), List.mem_of_getElem? (i := 1514) (by decide +kernel), List.mem_of_getElem? (i := 1515) (by decide +kernel)⟩
theorem lw_p76 : lw_okq (⟨"SmallCourtModel", "draws", "(III)V"⟩, 98) := ⟨⟨by decide +kernel, by decide +kernel⟩, List.mem_of_getElem? (i := 1021) (by decide +kernel), List.mem_of_getElem? (i := 1518) (by decide +kernel), List.mem_of_getElem? (i := 1519) (by decide +kernel)⟩
theorem lw_p77 : lw_okq (⟨"SmallCourtModel", "judges", "(II)I"⟩, 98) := ⟨⟨by decide +kernel, by decide +kernel⟩, List.mem_of_getElem? (i := 1021) (by decide +kernel), List.mem_of_getElem? (i := 1522) (by decide +kernel), List.mem_of_getElem? (i := 1523) (by decide +kernel)⟩
theorem lw_p78 : lw_okq (⟨"SmallCourtModel", "isSplit", "(II)Z"⟩, 98) := ⟨⟨by decide +kernel, by decide +kernel⟩, List.mem_of_getElem? (i := 1021) (by decide +kernel), List.mem_of_getElem? (i := 1526) (by decide +kernel), List.mem_of_getElem? (i := 1527) (by decide +kernel)⟩
theorem lw_p79 : lw_okq (⟨"SmallCourtModel", "isProved", "(II)Z"⟩, 98) := ⟨⟨by decide +kernel, by decide +kernel⟩, List.mem_of_getElem? (i := 1021) (by decide +kernel), List.mem_of_getElem? (i := 1530) (by decide +kernel), List.mem_of_getElem? (i := 1531) (by decide +kernel)⟩
def lw_privs_5 : List (MethodName × Nat) := [(⟨"SmallCourtModel", "closesDown", "(I)V"⟩, 98), (⟨"SmallCourtModel", "inForce", "(I)I"⟩, 98), (⟨"SmallCourtModel", "ruleOf", "(II)I"⟩, 98), (⟨"SmallCourtModel", "lives", "(IIIII)V"⟩, 98), (⟨"SmallCourtModel", "isPerson", "(I)Z"⟩, 98), (⟨"SmallCourtModel", "bookSum", "(III)I"⟩, 98), (⟨"SmallCourtModel", "alike", "(III)I"⟩, 98), (⟨"SmallCourtModel", "areTwins", "(II)Z"⟩, 98), (⟨"SmallCourtModel", "disorder", "(I)I"⟩, 98), (⟨"SmallCourtModel", "isClaim", "(I)Z"⟩, 98), (⟨"SmallCourtModel", "sits", "(I)I"⟩, 98), (⟨"SmallCourtModel", "isKinOf", "(II)Z"⟩, 98), (⟨"SmallCourtModel", "draws", "(III)V"⟩, 98), (⟨"SmallCourtModel", "judges", "(II)I"⟩, 98), (⟨"SmallCourtModel", "isSplit", "(II)Z"⟩, 98), (⟨"SmallCourtModel", "isProved", "(II)Z"⟩, 98)]
theorem lw_r5 : ∀ q ∈ lw_privs_5, lw_okq q := List.forall_mem_cons.mpr ⟨lw_p64, List.forall_mem_cons.mpr ⟨lw_p65, List.forall_mem_cons.mpr ⟨lw_p66, List.forall_mem_cons.mpr ⟨lw_p67, List.forall_mem_cons.mpr ⟨lw_p68, List.forall_mem_cons.mpr ⟨lw_p69, List.forall_mem_cons.mpr ⟨lw_p70, List.forall_mem_cons.mpr ⟨lw_p71, List.forall_mem_cons.mpr ⟨lw_p72, List.forall_mem_cons.mpr ⟨lw_p73, List.forall_mem_cons.mpr ⟨lw_p74, List.forall_mem_cons.mpr ⟨lw_p75, List.forall_mem_cons.mpr ⟨lw_p76, List.forall_mem_cons.mpr ⟨lw_p77, List.forall_mem_cons.mpr ⟨lw_p78, List.forall_mem_cons.mpr ⟨lw_p79, fun _ h => absurd h List.not_mem_nil⟩⟩⟩⟩⟩⟩⟩⟩⟩⟩⟩⟩⟩⟩⟩⟩
theorem lw_p80 : lw_okq (⟨"SmallCourtModel", "isSo", "(II)Z"⟩, 98) := ⟨⟨by decide +kernel, by decide +kernel⟩, List.mem_of_getElem? (i := 1021) (by decide +kernel), List.mem_of_getElem? (i := 1534) (by decide +kernel), List.mem_of_getElem? (i := 1535) (by decide +kernel)⟩
theorem lw_p81 : lw_okq (⟨"SmallCourtModel", "isOpen", "(I)Z"⟩, 98) := ⟨⟨by decide +kernel, by decide +kernel⟩, List.mem_of_getElem? (i := 1021) (by decide +kernel), List.mem_of_getElem? (i := 1542) (by decide +kernel), List.mem_of_getElem? (i := 1543) (by decide +kernel)⟩
theorem lw_p82 : lw_okq (⟨"SmallCourtModel", "looks", "(III)V"⟩, 98) := ⟨⟨by decide +kernel, by decide +kernel⟩, List.mem_of_getElem? (i := 1021) (by decide +kernel), List.mem_of_getElem? (i := 1546) (by decide +kernel), List.mem_of_getElem? (i := 1547) (by decide +kernel)⟩
theorem lw_p83 : lw_okq (⟨"SmallCourtModel", "means", "(II)I"⟩, 98) := ⟨⟨by decide +kernel, by decide +kernel⟩, List.mem_of_getElem? (i := 1021) (by decide +kernel), List.mem_of_getElem? (i := 1550) (by decide +kernel), List.mem_of_getElem? (i := 1551) (by decide +kernel)⟩
theorem lw_p84 : lw_okq (⟨"SmallCourtModel", "pays", "(III)I"⟩, 98) := ⟨⟨by decide +kernel, by decide +kernel⟩, List.mem_of_getElem? (i := 1021) (by decide +kernel), List.mem_of_getElem? (i := 1558) (by decide +kernel), List.mem_of_getElem? (i := 1559) (by decide +kernel)⟩
theorem lw_p85 : lw_okq (⟨"SmallCourtModel", "weeksOf", "(III)I"⟩, 98) := ⟨⟨by decide +kernel, by decide +kernel⟩, List.mem_of_getElem? (i := 1021) (by decide +kernel), List.mem_of_getElem? (i := 1587) (by decide +kernel), List.mem_of_getElem? (i := 1588) (by decide +kernel)⟩
theorem lw_p86 : lw_okq (⟨"SmallCourtModel", "debts", "()V"⟩, 98) := ⟨⟨by decide +kernel, by decide +kernel⟩, List.mem_of_getElem? (i := 1021) (by decide +kernel), List.mem_of_getElem? (i := 1599) (by decide +kernel), List.mem_of_getElem? (i := 1600) (by decide +kernel)⟩
theorem lw_p87 : lw_okq (⟨"SmallCourtModel", "finds", "()V"⟩, 98) := ⟨⟨by decide +kernel, by decide +kernel⟩, List.mem_of_getElem? (i := 1021) (by decide +kernel), List.mem_of_getElem? (i := 1603) (by decide +kernel), List.mem_of_getElem? (i := 1604) (by decide +kernel)⟩
theorem lw_p88 : lw_okq (⟨"SmallCourtModel", "offers", "(II)V"⟩, 98) := ⟨⟨by decide +kernel, by decide +kernel⟩, List.mem_of_getElem? (i := 1021) (by decide +kernel), List.mem_of_getElem? (i := 1607) (by decide +kernel), List.mem_of_getElem? (i := 1608) (by decide +kernel)⟩
theorem lw_p89 : lw_okq (⟨"SmallCourtModel", "takes", "(IIIZ)I"⟩, 98) := ⟨⟨by decide +kernel, by decide +kernel⟩, List.mem_of_getElem? (i := 1021) (by decide +kernel), List.mem_of_getElem? (i := 1614) (by decide +kernel), List.mem_of_getElem? (i := 1615) (by decide +kernel)⟩
theorem lw_p90 : lw_okq (⟨"SmallCourtModel", "far", "(II)I"⟩, 98) := ⟨⟨by decide +kernel, by decide +kernel⟩, List.mem_of_getElem? (i := 1021) (by decide +kernel), List.mem_of_getElem? (i := 1630) (by decide +kernel), List.mem_of_getElem? (i := 1631) (by decide +kernel)⟩
theorem lw_p91 : lw_okq (⟨"SmallCourtModel", "habits", "(I)V"⟩, 98) := ⟨⟨by decide +kernel, by decide +kernel⟩, List.mem_of_getElem? (i := 1021) (by decide +kernel), List.mem_of_getElem? (i := 1645) (by decide +kernel), List.mem_of_getElem? (i := 1646) (by decide +kernel)⟩
theorem lw_p92 : lw_okq (⟨"SmallCourtModel", "isRare", "(II)Z"⟩, 98) := ⟨⟨by decide +kernel, by decide +kernel⟩, List.mem_of_getElem? (i := 1021) (by decide +kernel), List.mem_of_getElem? (i := 1649) (by decide +kernel), List.mem_of_getElem? (i := 1650) (by decide +kernel)⟩
def lw_privs_6 : List (MethodName × Nat) := [(⟨"SmallCourtModel", "isSo", "(II)Z"⟩, 98), (⟨"SmallCourtModel", "isOpen", "(I)Z"⟩, 98), (⟨"SmallCourtModel", "looks", "(III)V"⟩, 98), (⟨"SmallCourtModel", "means", "(II)I"⟩, 98), (⟨"SmallCourtModel", "pays", "(III)I"⟩, 98), (⟨"SmallCourtModel", "weeksOf", "(III)I"⟩, 98), (⟨"SmallCourtModel", "debts", "()V"⟩, 98), (⟨"SmallCourtModel", "finds", "()V"⟩, 98), (⟨"SmallCourtModel", "offers", "(II)V"⟩, 98), (⟨"SmallCourtModel", "takes", "(IIIZ)I"⟩, 98), (⟨"SmallCourtModel", "far", "(II)I"⟩, 98), (⟨"SmallCourtModel", "habits", "(I)V"⟩, 98), (⟨"SmallCourtModel", "isRare", "(II)Z"⟩, 98)]
theorem lw_r6 : ∀ q ∈ lw_privs_6, lw_okq q := List.forall_mem_cons.mpr ⟨lw_p80, List.forall_mem_cons.mpr ⟨lw_p81, List.forall_mem_cons.mpr ⟨lw_p82, List.forall_mem_cons.mpr ⟨lw_p83, List.forall_mem_cons.mpr ⟨lw_p84, List.forall_mem_cons.mpr ⟨lw_p85, List.forall_mem_cons.mpr ⟨lw_p86, List.forall_mem_cons.mpr ⟨lw_p87, List.forall_mem_cons.mpr ⟨lw_p88, List.forall_mem_cons.mpr ⟨lw_p89, List.forall_mem_cons.mpr ⟨lw_p90, List.forall_mem_cons.mpr ⟨lw_p91, List.forall_mem_cons.mpr ⟨lw_p92, fun _ h => absurd h List.not_mem_nil⟩⟩⟩⟩⟩⟩⟩⟩⟩⟩⟩⟩⟩
def lw_privs : List (MethodName × Nat) := lw_privs_1 ++ (lw_privs_2 ++ (lw_privs_3 ++ (lw_privs_4 ++ (lw_privs_5 ++ (lw_privs_6)))))
def lw_tbl : List Cond := k2_sels lw_privs ++ tables_1
theorem lw_privs_ok : ∀ q ∈ lw_privs, lw_okq q := by
  show ∀ q ∈ lw_privs_1 ++ (lw_privs_2 ++ (lw_privs_3 ++ (lw_privs_4 ++ (lw_privs_5 ++ (lw_privs_6))))), lw_okq q
  exact List.forall_mem_append.mpr ⟨lw_r1, List.forall_mem_append.mpr ⟨lw_r2, List.forall_mem_append.mpr ⟨lw_r3, List.forall_mem_append.mpr ⟨lw_r4, List.forall_mem_append.mpr ⟨lw_r5, lw_r6⟩⟩⟩⟩⟩
-- ===== end of PART A; then your names; then what follows =====
end
section
/-! ===== BEGIN words of one list among another's, by their places ===== -/
/-! ===== END ===== -/

/-! ===== BEGIN printed: names, fields, word lists, decode rows ===== -/
def RX0 : String := "SmallCourt$Act"
def TX0 : u_T := fun k => match k with
  | 0 => ("SmallCourt$Act", "number", "I", true)
  | 1 => ("SmallCourt$Act", "day", "I", true)
  | 2 => ("SmallCourt$Act", "told", "[I", true)
  | 3 => ("SmallCourt$Act", "proof", "[I", true)
  | _ => ("SmallCourt$Act", "proofLength", "I", false)
def tyX0 : Nat → FieldType := fun k => match k with
  | 0 => .int
  | 1 => .int
  | 2 => .array .int
  | 3 => .array .int
  | _ => .int
theorem nmX0 : ∀ a, a < 5 → ∀ b, b < 5 → a ≠ b → (TX0 a).2.1 ≠ (TX0 b).2.1 := by decide +kernel
theorem tyX0_ok : ∀ k, k < 5 → parseFieldDescriptor (TX0 k).2.2.1 = some (tyX0 k) := by decide +kernel
abbrev cX0_init : ByteArray := prog_2_method_1_code
def yX0_init : MethodName := ⟨RX0, "<init>", "(II)V"⟩
abbrev cX0_term : ByteArray := prog_2_method_2_code
def yX0_term : MethodName := ⟨RX0, "term", "(IIZI)I"⟩
abbrev cX0_addProof : ByteArray := prog_2_method_3_code
def yX0_addProof : MethodName := ⟨RX0, "addProof", "(I)V"⟩
abbrev cX0_proves : ByteArray := prog_2_method_4_code
def yX0_proves : MethodName := ⟨RX0, "proves", "([I)Z"⟩
abbrev cX0_holds : ByteArray := prog_2_method_5_code
def yX0_holds : MethodName := ⟨RX0, "holds", "(I[I)Z"⟩
def RX1 : String := "SmallCourt$Books"
def TX1 : u_T := fun k => match k with
  | 0 => ("SmallCourt$Books", "count", "I", false)
  | 1 => ("SmallCourt$Books", "owner", "[I", true)
  | 2 => ("SmallCourt$Books", "with", "[I", true)
  | 3 => ("SmallCourt$Books", "day", "[I", true)
  | 4 => ("SmallCourt$Books", "kind", "[I", true)
  | 5 => ("SmallCourt$Books", "sum", "[I", true)
  | 6 => ("SmallCourt$Books", "byDay", "[I", true)
  | _ => ("SmallCourt$Books", "taken", "[Z", true)
def tyX1 : Nat → FieldType := fun k => match k with
  | 0 => .int
  | 1 => .array .int
  | 2 => .array .int
  | 3 => .array .int
  | 4 => .array .int
  | 5 => .array .int
  | 6 => .array .int
  | _ => .array .boolean
theorem nmX1 : ∀ a, a < 8 → ∀ b, b < 8 → a ≠ b → (TX1 a).2.1 ≠ (TX1 b).2.1 := by decide +kernel
theorem tyX1_ok : ∀ k, k < 8 → parseFieldDescriptor (TX1 k).2.2.1 = some (tyX1 k) := by decide +kernel
abbrev cX1_init : ByteArray := prog_3_method_1_code
def yX1_init : MethodName := ⟨RX1, "<init>", "()V"⟩
abbrev cX1_addLine : ByteArray := prog_3_method_2_code
def yX1_addLine : MethodName := ⟨RX1, "addLine", "(IIIII)V"⟩
abbrev cX1_sumWith : ByteArray := prog_3_method_3_code
def yX1_sumWith : MethodName := ⟨RX1, "sumWith", "(III)I"⟩
abbrev cX1_isLine : ByteArray := prog_3_method_4_code
def yX1_isLine : MethodName := ⟨RX1, "isLine", "(IIII)Z"⟩
abbrev cX1_twinPairs : ByteArray := prog_3_method_5_code
def yX1_twinPairs : MethodName := ⟨RX1, "twinPairs", "(III)I"⟩
abbrev cX1_takeTwin : ByteArray := prog_3_method_6_code
def yX1_takeTwin : MethodName := ⟨RX1, "takeTwin", "(II)Z"⟩
abbrev cX1_areTwins : ByteArray := prog_3_method_7_code
def yX1_areTwins : MethodName := ⟨RX1, "areTwins", "(II)Z"⟩
abbrev cX1_disorder : ByteArray := prog_3_method_8_code
def yX1_disorder : MethodName := ⟨RX1, "disorder", "(I)I"⟩
def RX2 : String := "SmallCourt$Claim"
def TX2 : u_T := fun k => match k with
  | 0 => ("SmallCourt$Claim", "number", "I", true)
  | 1 => ("SmallCourt$Claim", "plaintiff", "LSmallCourt$Person;", true)
  | 2 => ("SmallCourt$Claim", "defendant", "LSmallCourt$Person;", true)
  | 3 => ("SmallCourt$Claim", "act", "LSmallCourt$Act;", true)
  | 4 => ("SmallCourt$Claim", "facts", "[I", true)
  | 5 => ("SmallCourt$Claim", "bench", "[I", true)
  | 6 => ("SmallCourt$Claim", "sum", "I", false)
  | 7 => ("SmallCourt$Claim", "from", "I", false)
  | 8 => ("SmallCourt$Claim", "filed", "I", false)
  | 9 => ("SmallCourt$Claim", "tries", "I", false)
  | 10 => ("SmallCourt$Claim", "found", "I", false)
  | 11 => ("SmallCourt$Claim", "heard", "I", false)
  | 12 => ("SmallCourt$Claim", "judged", "I", false)
  | 13 => ("SmallCourt$Claim", "ordered", "I", false)
  | 14 => ("SmallCourt$Claim", "weekly", "I", false)
  | 15 => ("SmallCourt$Claim", "owed", "I", false)
  | 16 => ("SmallCourt$Claim", "seized", "I", false)
  | 17 => ("SmallCourt$Claim", "worth", "I", false)
  | _ => ("SmallCourt$Claim", "served", "I", false)
def tyX2 : Nat → FieldType := fun k => match k with
  | 0 => .int
  | 1 => .object "SmallCourt$Person"
  | 2 => .object "SmallCourt$Person"
  | 3 => .object "SmallCourt$Act"
  | 4 => .array .int
  | 5 => .array .int
  | 6 => .int
  | 7 => .int
  | 8 => .int
  | 9 => .int
  | 10 => .int
  | 11 => .int
  | 12 => .int
  | 13 => .int
  | 14 => .int
  | 15 => .int
  | 16 => .int
  | 17 => .int
  | _ => .int
theorem nmX2 : ∀ a, a < 19 → ∀ b, b < 19 → a ≠ b → (TX2 a).2.1 ≠ (TX2 b).2.1 := by decide +kernel
theorem tyX2_ok : ∀ k, k < 19 → parseFieldDescriptor (TX2 k).2.2.1 = some (tyX2 k) := by decide +kernel
abbrev cX2_init : ByteArray := prog_4_method_1_code
def yX2_init : MethodName := ⟨RX2, "<init>", "(ILSmallCourt$Person;LSmallCourt$Person;LSmallCourt$Act;)V"⟩
abbrev cX2_isOnBench : ByteArray := prog_4_method_2_code
def yX2_isOnBench : MethodName := ⟨RX2, "isOnBench", "(I)Z"⟩
abbrev cX2_costsBy : ByteArray := prog_4_method_3_code
def yX2_costsBy : MethodName := ⟨RX2, "costsBy", "(LSmallCourt$Act;Z)I"⟩
abbrev cX2_isOpen : ByteArray := prog_4_method_4_code
def yX2_isOpen : MethodName := ⟨RX2, "isOpen", "(LSmallCourt$Payments;I)Z"⟩
abbrev cX2_stateOn : ByteArray := prog_4_method_5_code
def yX2_stateOn : MethodName := ⟨RX2, "stateOn", "(LSmallCourt$Payments;II)I"⟩
abbrev cX2_stateAheadOfOrder : ByteArray := prog_4_method_6_code
def yX2_stateAheadOfOrder : MethodName := ⟨RX2, "stateAheadOfOrder", "(I)I"⟩
abbrev cX2_restOn : ByteArray := prog_4_method_7_code
def yX2_restOn : MethodName := ⟨RX2, "restOn", "(LSmallCourt$Payments;II)I"⟩
abbrev cX2_overOn : ByteArray := prog_4_method_8_code
def yX2_overOn : MethodName := ⟨RX2, "overOn", "(LSmallCourt$Payments;II)I"⟩
abbrev cX2_missedOn : ByteArray := prog_4_method_9_code
def yX2_missedOn : MethodName := ⟨RX2, "missedOn", "(LSmallCourt$Payments;II)I"⟩
abbrev cX2_balanceOn : ByteArray := prog_4_method_10_code
def yX2_balanceOn : MethodName := ⟨RX2, "balanceOn", "(LSmallCourt$Payments;II)I"⟩
abbrev cX2_paidOn : ByteArray := prog_4_method_11_code
def yX2_paidOn : MethodName := ⟨RX2, "paidOn", "(LSmallCourt$Payments;II)I"⟩
abbrev cX2_owedOn : ByteArray := prog_4_method_12_code
def yX2_owedOn : MethodName := ⟨RX2, "owedOn", "(I)I"⟩
abbrev cX2_isDone : ByteArray := prog_4_method_13_code
def yX2_isDone : MethodName := ⟨RX2, "isDone", "(II)Z"⟩
def RX3 : String := "SmallCourt$Payments"
def TX3 : u_T := fun k => match k with
  | 0 => ("SmallCourt$Payments", "count", "I", false)
  | 1 => ("SmallCourt$Payments", "struck", "[I", true)
  | 2 => ("SmallCourt$Payments", "of", "[I", true)
  | 3 => ("SmallCourt$Payments", "day", "[I", true)
  | 4 => ("SmallCourt$Payments", "known", "[I", true)
  | _ => ("SmallCourt$Payments", "sum", "[I", true)
def tyX3 : Nat → FieldType := fun k => match k with
  | 0 => .int
  | 1 => .array .int
  | 2 => .array .int
  | 3 => .array .int
  | 4 => .array .int
  | _ => .array .int
theorem nmX3 : ∀ a, a < 6 → ∀ b, b < 6 → a ≠ b → (TX3 a).2.1 ≠ (TX3 b).2.1 := by decide +kernel
theorem tyX3_ok : ∀ k, k < 6 → parseFieldDescriptor (TX3 k).2.2.1 = some (tyX3 k) := by decide +kernel
abbrev cX3_init : ByteArray := prog_5_method_1_code
def yX3_init : MethodName := ⟨RX3, "<init>", "()V"⟩
abbrev cX3_addPayment : ByteArray := prog_5_method_2_code
def yX3_addPayment : MethodName := ⟨RX3, "addPayment", "(IIII)I"⟩
abbrev cX3_sumFor : ByteArray := prog_5_method_3_code
def yX3_sumFor : MethodName := ⟨RX3, "sumFor", "(III)I"⟩
def RX4 : String := "SmallCourt$Person"
def TX4 : u_T := fun k => match k with
  | 0 => ("SmallCourt$Person", "number", "I", true)
  | 1 => ("SmallCourt$Person", "born", "I", true)
  | 2 => ("SmallCourt$Person", "kin", "I", true)
  | 3 => ("SmallCourt$Person", "earns", "I", false)
  | 4 => ("SmallCourt$Person", "heads", "I", false)
  | 5 => ("SmallCourt$Person", "x", "I", false)
  | 6 => ("SmallCourt$Person", "y", "I", false)
  | 7 => ("SmallCourt$Person", "dead", "Z", false)
  | 8 => ("SmallCourt$Person", "isJudge", "Z", false)
  | _ => ("SmallCourt$Person", "wasJudge", "Z", false)
def tyX4 : Nat → FieldType := fun k => match k with
  | 0 => .int
  | 1 => .int
  | 2 => .int
  | 3 => .int
  | 4 => .int
  | 5 => .int
  | 6 => .int
  | 7 => .boolean
  | 8 => .boolean
  | _ => .boolean
theorem nmX4 : ∀ a, a < 10 → ∀ b, b < 10 → a ≠ b → (TX4 a).2.1 ≠ (TX4 b).2.1 := by decide +kernel
theorem tyX4_ok : ∀ k, k < 10 → parseFieldDescriptor (TX4 k).2.2.1 = some (tyX4 k) := by decide +kernel
abbrev cX4_init : ByteArray := prog_6_method_1_code
def yX4_init : MethodName := ⟨RX4, "<init>", "(III)V"⟩
abbrev cX4_tell : ByteArray := prog_6_method_2_code
def yX4_tell : MethodName := ⟨RX4, "tell", "(IIII)V"⟩
abbrev cX4_meansBy : ByteArray := prog_6_method_3_code
def yX4_meansBy : MethodName := ⟨RX4, "meansBy", "(LSmallCourt$Act;)I"⟩
abbrev cX4_maySit : ByteArray := prog_6_method_4_code
def yX4_maySit : MethodName := ⟨RX4, "maySit", "(LSmallCourt$Claim;)Z"⟩
abbrev cX4_isKinOf : ByteArray := prog_6_method_5_code
def yX4_isKinOf : MethodName := ⟨RX4, "isKinOf", "(LSmallCourt$Person;)Z"⟩
def RX5 : String := "SmallCourt$Plan"
def TX5 : u_T := fun k => match k with
  | 0 => ("SmallCourt$Plan", "open", "I", false)
  | 1 => ("SmallCourt$Plan", "told", "I", false)
  | 2 => ("SmallCourt$Plan", "claims", "[I", true)
  | 3 => ("SmallCourt$Plan", "weekly", "[I", true)
  | 4 => ("SmallCourt$Plan", "weeks", "[I", true)
  | 5 => ("SmallCourt$Plan", "opened", "[I", true)
  | 6 => ("SmallCourt$Plan", "rest", "[I", true)
  | 7 => ("SmallCourt$Plan", "least", "[I", true)
  | 8 => ("SmallCourt$Plan", "tried", "[I", true)
  | 9 => ("SmallCourt$Plan", "unit", "I", false)
  | 10 => ("SmallCourt$Plan", "means", "I", false)
  | 11 => ("SmallCourt$Plan", "bestLast", "I", false)
  | _ => ("SmallCourt$Plan", "bestAll", "I", false)
def tyX5 : Nat → FieldType := fun k => match k with
  | 0 => .int
  | 1 => .int
  | 2 => .array .int
  | 3 => .array .int
  | 4 => .array .int
  | 5 => .array .int
  | 6 => .array .int
  | 7 => .array .int
  | 8 => .array .int
  | 9 => .int
  | 10 => .int
  | 11 => .int
  | _ => .int
theorem nmX5 : ∀ a, a < 13 → ∀ b, b < 13 → a ≠ b → (TX5 a).2.1 ≠ (TX5 b).2.1 := by decide +kernel
theorem tyX5_ok : ∀ k, k < 13 → parseFieldDescriptor (TX5 k).2.2.1 = some (tyX5 k) := by decide +kernel
abbrev cX5_init : ByteArray := prog_7_method_1_code
def yX5_init : MethodName := ⟨RX5, "<init>", "()V"⟩
abbrev cX5_clear : ByteArray := prog_7_method_2_code
def yX5_clear : MethodName := ⟨RX5, "clear", "(II)V"⟩
abbrev cX5_addOpen : ByteArray := prog_7_method_3_code
def yX5_addOpen : MethodName := ⟨RX5, "addOpen", "(LSmallCourt$Claim;I)V"⟩
abbrev cX5_settle : ByteArray := prog_7_method_4_code
def yX5_settle : MethodName := ⟨RX5, "settle", "()I"⟩
abbrev cX5_leastFrom : ByteArray := prog_7_method_5_code
def yX5_leastFrom : MethodName := ⟨RX5, "leastFrom", "(I)I"⟩
abbrev cX5_tryFrom : ByteArray := prog_7_method_6_code
def yX5_tryFrom : MethodName := ⟨RX5, "tryFrom", "(IIII)V"⟩
abbrev cX5_keepIfBetter : ByteArray := prog_7_method_7_code
def yX5_keepIfBetter : MethodName := ⟨RX5, "keepIfBetter", "(II)V"⟩
def RX6 : String := "SmallCourt$Reader"
def TX6 : u_T := fun k => match k with
  | 0 => ("SmallCourt$Reader", "text", "[B", false)
  | 1 => ("SmallCourt$Reader", "length", "I", false)
  | 2 => ("SmallCourt$Reader", "at", "I", false)
  | 3 => ("SmallCourt$Reader", "fault", "I", false)
  | 4 => ("SmallCourt$Reader", "toldOnce", "I", false)
  | 5 => ("SmallCourt$Reader", "terms", "I", false)
  | _ => ("SmallCourt$Reader", "into", "LSmallCourt$Act;", false)
def tyX6 : Nat → FieldType := fun k => match k with
  | 0 => .array .byte
  | 1 => .int
  | 2 => .int
  | 3 => .int
  | 4 => .int
  | 5 => .int
  | _ => .object "SmallCourt$Act"
theorem nmX6 : ∀ a, a < 7 → ∀ b, b < 7 → a ≠ b → (TX6 a).2.1 ≠ (TX6 b).2.1 := by decide +kernel
theorem tyX6_ok : ∀ k, k < 7 → parseFieldDescriptor (TX6 k).2.2.1 = some (tyX6 k) := by decide +kernel
abbrev cX6_init : ByteArray := prog_8_method_1_code
def yX6_init : MethodName := ⟨RX6, "<init>", "()V"⟩
abbrev cX6_readAct : ByteArray := prog_8_method_2_code
def yX6_readAct : MethodName := ⟨RX6, "readAct", "([BILSmallCourt$Act;)I"⟩
abbrev cX6_isAnotherClause : ByteArray := prog_8_method_3_code
def yX6_isAnotherClause : MethodName := ⟨RX6, "isAnotherClause", "()Z"⟩
abbrev cX6_readClause : ByteArray := prog_8_method_4_code
def yX6_readClause : MethodName := ⟨RX6, "readClause", "()Z"⟩
abbrev cX6_readCost : ByteArray := prog_8_method_5_code
def yX6_readCost : MethodName := ⟨RX6, "readCost", "()Z"⟩
abbrev cX6_tellOnce : ByteArray := prog_8_method_6_code
def yX6_tellOnce : MethodName := ⟨RX6, "tellOnce", "(II)Z"⟩
abbrev cX6_readTold : ByteArray := prog_8_method_7_code
def yX6_readTold : MethodName := ⟨RX6, "readTold", "(I)Z"⟩
abbrev cX6_readEither : ByteArray := prog_8_method_8_code
def yX6_readEither : MethodName := ⟨RX6, "readEither", "(I)Z"⟩
abbrev cX6_readOne : ByteArray := prog_8_method_9_code
def yX6_readOne : MethodName := ⟨RX6, "readOne", "(I)Z"⟩
abbrev cX6_readTerm : ByteArray := prog_8_method_10_code
def yX6_readTerm : MethodName := ⟨RX6, "readTerm", "()Z"⟩
abbrev cX6_readSign : ByteArray := prog_8_method_11_code
def yX6_readSign : MethodName := ⟨RX6, "readSign", "()I"⟩
abbrev cX6_readWord : ByteArray := prog_8_method_12_code
def yX6_readWord : MethodName := ⟨RX6, "readWord", "(Ljava/lang/String;)I"⟩
abbrev cX6_isNextWord : ByteArray := prog_8_method_13_code
def yX6_isNextWord : MethodName := ⟨RX6, "isNextWord", "(Ljava/lang/String;)Z"⟩
abbrev cX6_isSlot : ByteArray := prog_8_method_14_code
def yX6_isSlot : MethodName := ⟨RX6, "isSlot", "(Ljava/lang/String;II)Z"⟩
abbrev cX6_wordEnd : ByteArray := prog_8_method_15_code
def yX6_wordEnd : MethodName := ⟨RX6, "wordEnd", "()I"⟩
abbrev cX6_readNumber : ByteArray := prog_8_method_16_code
def yX6_readNumber : MethodName := ⟨RX6, "readNumber", "()I"⟩
abbrev cX6_isDigit : ByteArray := prog_8_method_17_code
def yX6_isDigit : MethodName := ⟨RX6, "isDigit", "(I)Z"⟩
abbrev cX6_isByte : ByteArray := prog_8_method_18_code
def yX6_isByte : MethodName := ⟨RX6, "isByte", "(C)Z"⟩
abbrev cX6_skipBlanks : ByteArray := prog_8_method_19_code
def yX6_skipBlanks : MethodName := ⟨RX6, "skipBlanks", "()V"⟩
abbrev cX6_refuse : ByteArray := prog_8_method_20_code
def yX6_refuse : MethodName := ⟨RX6, "refuse", "(II)Z"⟩
def RX7 : String := "SmallCourt$Rings"
def TX7 : u_T := fun k => match k with
  | 0 => ("SmallCourt$Rings", "count", "I", false)
  | 1 => ("SmallCourt$Rings", "bestLength", "I", false)
  | 2 => ("SmallCourt$Rings", "bestLeast", "I", false)
  | 3 => ("SmallCourt$Rings", "leasts", "[I", true)
  | 4 => ("SmallCourt$Rings", "size", "I", false)
  | 5 => ("SmallCourt$Rings", "owes", "[I", true)
  | 6 => ("SmallCourt$Rings", "ring", "[I", true)
  | _ => ("SmallCourt$Rings", "best", "[I", true)
def tyX7 : Nat → FieldType := fun k => match k with
  | 0 => .int
  | 1 => .int
  | 2 => .int
  | 3 => .array .int
  | 4 => .int
  | 5 => .array .int
  | 6 => .array .int
  | _ => .array .int
theorem nmX7 : ∀ a, a < 8 → ∀ b, b < 8 → a ≠ b → (TX7 a).2.1 ≠ (TX7 b).2.1 := by decide +kernel
theorem tyX7_ok : ∀ k, k < 8 → parseFieldDescriptor (TX7 k).2.2.1 = some (tyX7 k) := by decide +kernel
abbrev cX7_init : ByteArray := prog_9_method_1_code
def yX7_init : MethodName := ⟨RX7, "<init>", "()V"⟩
abbrev cX7_clear : ByteArray := prog_9_method_2_code
def yX7_clear : MethodName := ⟨RX7, "clear", "(I)V"⟩
abbrev cX7_owe : ByteArray := prog_9_method_3_code
def yX7_owe : MethodName := ⟨RX7, "owe", "(III)V"⟩
abbrev cX7_findBest : ByteArray := prog_9_method_4_code
def yX7_findBest : MethodName := ⟨RX7, "findBest", "()Z"⟩
abbrev cX7_goOn : ByteArray := prog_9_method_5_code
def yX7_goOn : MethodName := ⟨RX7, "goOn", "(II)V"⟩
abbrev cX7_isInRing : ByteArray := prog_9_method_6_code
def yX7_isInRing : MethodName := ⟨RX7, "isInRing", "(II)Z"⟩
abbrev cX7_keepIfBetter : ByteArray := prog_9_method_7_code
def yX7_keepIfBetter : MethodName := ⟨RX7, "keepIfBetter", "(II)V"⟩
abbrev cX7_isDebt : ByteArray := prog_9_method_8_code
def yX7_isDebt : MethodName := ⟨RX7, "isDebt", "(ILSmallCourt$Claim;)Z"⟩
abbrev cX7_placeAfter : ByteArray := prog_9_method_9_code
def yX7_placeAfter : MethodName := ⟨RX7, "placeAfter", "(I)I"⟩
abbrev cX7_takeOff : ByteArray := prog_9_method_10_code
def yX7_takeOff : MethodName := ⟨RX7, "takeOff", "()V"⟩
def RX8 : String := "SmallCourt$Walk"
def TX8 : u_T := fun k => match k with
  | 0 => ("SmallCourt$Walk", "listed", "I", false)
  | 1 => ("SmallCourt$Walk", "walked", "I", false)
  | 2 => ("SmallCourt$Walk", "latest", "[I", true)
  | 3 => ("SmallCourt$Walk", "list", "[LSmallCourt$Claim;", true)
  | _ => ("SmallCourt$Walk", "left", "[I", true)
def tyX8 : Nat → FieldType := fun k => match k with
  | 0 => .int
  | 1 => .int
  | 2 => .array .int
  | 3 => .array (.object "SmallCourt$Claim")
  | _ => .array .int
theorem nmX8 : ∀ a, a < 5 → ∀ b, b < 5 → a ≠ b → (TX8 a).2.1 ≠ (TX8 b).2.1 := by decide +kernel
theorem tyX8_ok : ∀ k, k < 5 → parseFieldDescriptor (TX8 k).2.2.1 = some (tyX8 k) := by decide +kernel
abbrev cX8_init : ByteArray := prog_10_method_1_code
def yX8_init : MethodName := ⟨RX8, "<init>", "()V"⟩
abbrev cX8_isListed : ByteArray := prog_10_method_2_code
def yX8_isListed : MethodName := ⟨RX8, "isListed", "(LSmallCourt$Claim;)Z"⟩
abbrev cX8_putOnList : ByteArray := prog_10_method_3_code
def yX8_putOnList : MethodName := ⟨RX8, "putOnList", "(LSmallCourt$Claim;)V"⟩
abbrev cX8_walkList : ByteArray := prog_10_method_4_code
def yX8_walkList : MethodName := ⟨RX8, "walkList", "()I"⟩
abbrev cX8_leastOn : ByteArray := prog_10_method_5_code
def yX8_leastOn : MethodName := ⟨RX8, "leastOn", "(II)I"⟩
abbrev cX8_retrace : ByteArray := prog_10_method_6_code
def yX8_retrace : MethodName := ⟨RX8, "retrace", "(I)V"⟩
abbrev cX8_firstOnWay : ByteArray := prog_10_method_7_code
def yX8_firstOnWay : MethodName := ⟨RX8, "firstOnWay", "(III)I"⟩
abbrev cX8_stepsBy : ByteArray := prog_10_method_8_code
def yX8_stepsBy : MethodName := ⟨RX8, "stepsBy", "(III)I"⟩
abbrev cX8_isIn : ByteArray := prog_10_method_9_code
def yX8_isIn : MethodName := ⟨RX8, "isIn", "(II)Z"⟩
abbrev cX8_fromCourt : ByteArray := prog_10_method_10_code
def yX8_fromCourt : MethodName := ⟨RX8, "fromCourt", "(I)I"⟩
abbrev cX8_between : ByteArray := prog_10_method_11_code
def yX8_between : MethodName := ⟨RX8, "between", "(LSmallCourt$Person;LSmallCourt$Person;)I"⟩
def RX9 : String := "SmallCourt"
def TX9 : u_T := fun k => match k with
  | 0 => ("SmallCourt", "tape", "[B", true)
  | 1 => ("SmallCourt", "tapeLength", "I", false)
  | 2 => ("SmallCourt", "now", "I", false)
  | 3 => ("SmallCourt", "reader", "LSmallCourt$Reader;", true)
  | 4 => ("SmallCourt", "without", "LSmallCourt$Act;", true)
  | 5 => ("SmallCourt", "acts", "[LSmallCourt$Act;", true)
  | 6 => ("SmallCourt", "actCount", "I", false)
  | 7 => ("SmallCourt", "persons", "[LSmallCourt$Person;", true)
  | 8 => ("SmallCourt", "personCount", "I", false)
  | 9 => ("SmallCourt", "books", "LSmallCourt$Books;", true)
  | 10 => ("SmallCourt", "claims", "[LSmallCourt$Claim;", true)
  | 11 => ("SmallCourt", "claimCount", "I", false)
  | 12 => ("SmallCourt", "heard", "[LSmallCourt$Claim;", true)
  | 13 => ("SmallCourt", "heardCount", "I", false)
  | 14 => ("SmallCourt", "payments", "LSmallCourt$Payments;", true)
  | 15 => ("SmallCourt", "fit", "[I", true)
  | 16 => ("SmallCourt", "rests", "[I", true)
  | 17 => ("SmallCourt", "planning", "LSmallCourt$Plan;", true)
  | 18 => ("SmallCourt", "rings", "LSmallCourt$Rings;", true)
  | _ => ("SmallCourt", "walking", "LSmallCourt$Walk;", true)
def tyX9 : Nat → FieldType := fun k => match k with
  | 0 => .array .byte
  | 1 => .int
  | 2 => .int
  | 3 => .object "SmallCourt$Reader"
  | 4 => .object "SmallCourt$Act"
  | 5 => .array (.object "SmallCourt$Act")
  | 6 => .int
  | 7 => .array (.object "SmallCourt$Person")
  | 8 => .int
  | 9 => .object "SmallCourt$Books"
  | 10 => .array (.object "SmallCourt$Claim")
  | 11 => .int
  | 12 => .array (.object "SmallCourt$Claim")
  | 13 => .int
  | 14 => .object "SmallCourt$Payments"
  | 15 => .array .int
  | 16 => .array .int
  | 17 => .object "SmallCourt$Plan"
  | 18 => .object "SmallCourt$Rings"
  | _ => .object "SmallCourt$Walk"
theorem nmX9 : ∀ a, a < 20 → ∀ b, b < 20 → a ≠ b → (TX9 a).2.1 ≠ (TX9 b).2.1 := by decide +kernel
theorem tyX9_ok : ∀ k, k < 20 → parseFieldDescriptor (TX9 k).2.2.1 = some (tyX9 k) := by decide +kernel
abbrev cX9_init : ByteArray := prog_1_method_1_code
def yX9_init : MethodName := ⟨RX9, "<init>", "()V"⟩
abbrev cX9_clock : ByteArray := prog_1_method_2_code
def yX9_clock : MethodName := ⟨RX9, "clock", "(I)Z"⟩
abbrev cX9_feed : ByteArray := prog_1_method_3_code
def yX9_feed : MethodName := ⟨RX9, "feed", "(IIIII)I"⟩
abbrev cX9_feedBytes : ByteArray := prog_1_method_4_code
def yX9_feedBytes : MethodName := ⟨RX9, "feedBytes", "(I)V"⟩
abbrev cX9_end : ByteArray := prog_1_method_5_code
def yX9_end : MethodName := ⟨RX9, "end", "(I)I"⟩
abbrev cX9_act : ByteArray := prog_1_method_6_code
def yX9_act : MethodName := ⟨RX9, "act", "(I)I"⟩
abbrev cX9_force : ByteArray := prog_1_method_7_code
def yX9_force : MethodName := ⟨RX9, "force", "(II)I"⟩
abbrev cX9_inForce : ByteArray := prog_1_method_8_code
def yX9_inForce : MethodName := ⟨RX9, "inForce", "(I)LSmallCourt$Act;"⟩
abbrev cX9_person : ByteArray := prog_1_method_9_code
def yX9_person : MethodName := ⟨RX9, "person", "(IIIIII)I"⟩
abbrev cX9_anew : ByteArray := prog_1_method_10_code
def yX9_anew : MethodName := ⟨RX9, "anew", "(IIIII)Z"⟩
abbrev cX9_dies : ByteArray := prog_1_method_11_code
def yX9_dies : MethodName := ⟨RX9, "dies", "(I)Z"⟩
abbrev cX9_judge : ByteArray := prog_1_method_12_code
def yX9_judge : MethodName := ⟨RX9, "judge", "(IZ)Z"⟩
abbrev cX9_line : ByteArray := prog_1_method_13_code
def yX9_line : MethodName := ⟨RX9, "line", "(IIIII)I"⟩
abbrev cX9_book : ByteArray := prog_1_method_14_code
def yX9_book : MethodName := ⟨RX9, "book", "(IIII)I"⟩
abbrev cX9_file : ByteArray := prog_1_method_15_code
def yX9_file : MethodName := ⟨RX9, "file", "(IIIIZI)I"⟩
abbrev cX9_summons : ByteArray := prog_1_method_16_code
def yX9_summons : MethodName := ⟨RX9, "summons", "(IZ)I"⟩
abbrev cX9_hear : ByteArray := prog_1_method_17_code
def yX9_hear : MethodName := ⟨RX9, "hear", "(IZZI)I"⟩
abbrev cX9_drawBench : ByteArray := prog_1_method_18_code
def yX9_drawBench : MethodName := ⟨RX9, "drawBench", "(LSmallCourt$Claim;I)Z"⟩
abbrev cX9_judgement : ByteArray := prog_1_method_19_code
def yX9_judgement : MethodName := ⟨RX9, "judgement", "(LSmallCourt$Claim;LSmallCourt$Act;)I"⟩
abbrev cX9_sumOfSplit : ByteArray := prog_1_method_20_code
def yX9_sumOfSplit : MethodName := ⟨RX9, "sumOfSplit", "(LSmallCourt$Claim;LSmallCourt$Act;)I"⟩
abbrev cX9_order : ByteArray := prog_1_method_21_code
def yX9_order : MethodName := ⟨RX9, "order", "(II)I"⟩
abbrev cX9_openInstalments : ByteArray := prog_1_method_22_code
def yX9_openInstalments : MethodName := ⟨RX9, "openInstalments", "(LSmallCourt$Person;)I"⟩
abbrev cX9_pay : ByteArray := prog_1_method_23_code
def yX9_pay : MethodName := ⟨RX9, "pay", "(III)I"⟩
abbrev cX9_strike : ByteArray := prog_1_method_24_code
def yX9_strike : MethodName := ⟨RX9, "strike", "(I)Z"⟩
abbrev cX9_seize : ByteArray := prog_1_method_25_code
def yX9_seize : MethodName := ⟨RX9, "seize", "(II)I"⟩
abbrev cX9_gaol : ByteArray := prog_1_method_26_code
def yX9_gaol : MethodName := ⟨RX9, "gaol", "(I)I"⟩
abbrev cX9_claim : ByteArray := prog_1_method_27_code
def yX9_claim : MethodName := ⟨RX9, "claim", "(II)I"⟩
abbrev cX9_state : ByteArray := prog_1_method_28_code
def yX9_state : MethodName := ⟨RX9, "state", "(IIII)I"⟩
abbrev cX9_plan : ByteArray := prog_1_method_29_code
def yX9_plan : MethodName := ⟨RX9, "plan", "(II)I"⟩
abbrev cX9_planned : ByteArray := prog_1_method_30_code
def yX9_planned : MethodName := ⟨RX9, "planned", "(II)I"⟩
abbrev cX9_net : ByteArray := prog_1_method_31_code
def yX9_net : MethodName := ⟨RX9, "net", "()I"⟩
abbrev cX9_ringNeeds : ByteArray := prog_1_method_32_code
def yX9_ringNeeds : MethodName := ⟨RX9, "ringNeeds", "()I"⟩
abbrev cX9_takeOffRing : ByteArray := prog_1_method_33_code
def yX9_takeOffRing : MethodName := ⟨RX9, "takeOffRing", "()I"⟩
abbrev cX9_netted : ByteArray := prog_1_method_34_code
def yX9_netted : MethodName := ⟨RX9, "netted", "(I)I"⟩
abbrev cX9_list : ByteArray := prog_1_method_35_code
def yX9_list : MethodName := ⟨RX9, "list", "(I)I"⟩
abbrev cX9_walk : ByteArray := prog_1_method_36_code
def yX9_walk : MethodName := ⟨RX9, "walk", "()I"⟩
abbrev cX9_walked : ByteArray := prog_1_method_37_code
def yX9_walked : MethodName := ⟨RX9, "walked", "(I)I"⟩
abbrev cX9_habit : ByteArray := prog_1_method_38_code
def yX9_habit : MethodName := ⟨RX9, "habit", "(II)I"⟩
abbrev cX9_isBeyondDoubt : ByteArray := prog_1_method_39_code
def yX9_isBeyondDoubt : MethodName := ⟨RX9, "isBeyondDoubt", "(II)Z"⟩
abbrev cX9_other : ByteArray := prog_1_method_40_code
def yX9_other : MethodName := ⟨RX9, "other", "(II)I"⟩
abbrev cX9_count : ByteArray := prog_1_method_41_code
def yX9_count : MethodName := ⟨RX9, "count", "(I)I"⟩
abbrev cX9_livingJudges : ByteArray := prog_1_method_42_code
def yX9_livingJudges : MethodName := ⟨RX9, "livingJudges", "()I"⟩
abbrev cX9_personAt : ByteArray := prog_1_method_43_code
def yX9_personAt : MethodName := ⟨RX9, "personAt", "(I)LSmallCourt$Person;"⟩
abbrev cX9_claimAt : ByteArray := prog_1_method_44_code
def yX9_claimAt : MethodName := ⟨RX9, "claimAt", "(I)LSmallCourt$Claim;"⟩
abbrev cX9_areTwo : ByteArray := prog_1_method_45_code
def yX9_areTwo : MethodName := ⟨RX9, "areTwo", "(II)Z"⟩
abbrev cX9_isDay : ByteArray := prog_1_method_46_code
def yX9_isDay : MethodName := ⟨RX9, "isDay", "(I)Z"⟩
abbrev cX9_isHousehold : ByteArray := prog_1_method_47_code
def yX9_isHousehold : MethodName := ⟨RX9, "isHousehold", "(IIII)Z"⟩
abbrev cX9_isWithin : ByteArray := prog_1_method_48_code
def yX9_isWithin : MethodName := ⟨RX9, "isWithin", "(III)Z"⟩
abbrev cX9_roundUp : ByteArray := prog_1_method_49_code
def yX9_roundUp : MethodName := ⟨RX9, "roundUp", "(II)I"⟩
def RX10 : String := "SmallCourtModel"
def TX10 : u_T := fun k => match k with
  | 0 => ("SmallCourtModel", "now", "I", false)
  | 1 => ("SmallCourtModel", "acts", "I", false)
  | 2 => ("SmallCourtModel", "actDay", "[I", true)
  | 3 => ("SmallCourtModel", "rule", "[I", true)
  | 4 => ("SmallCourtModel", "proofSteps", "[I", true)
  | 5 => ("SmallCourtModel", "proof", "[I", true)
  | 6 => ("SmallCourtModel", "tape", "[B", true)
  | 7 => ("SmallCourtModel", "taped", "I", false)
  | 8 => ("SmallCourtModel", "next", "I", false)
  | 9 => ("SmallCourtModel", "fault", "I", false)
  | 10 => ("SmallCourtModel", "said", "I", false)
  | 11 => ("SmallCourtModel", "wordSize", "I", false)
  | 12 => ("SmallCourtModel", "read", "[I", true)
  | 13 => ("SmallCourtModel", "seen", "I", false)
  | 14 => ("SmallCourtModel", "steps", "I", false)
  | 15 => ("SmallCourtModel", "step", "[I", true)
  | 16 => ("SmallCourtModel", "compares", "I", false)
  | 17 => ("SmallCourtModel", "open", "[I", true)
  | 18 => ("SmallCourtModel", "opened", "I", false)
  | 19 => ("SmallCourtModel", "words", "[B", true)
  | 20 => ("SmallCourtModel", "persons", "I", false)
  | 21 => ("SmallCourtModel", "born", "[I", true)
  | 22 => ("SmallCourtModel", "earns", "[I", true)
  | 23 => ("SmallCourtModel", "heads", "[I", true)
  | 24 => ("SmallCourtModel", "doorX", "[I", true)
  | 25 => ("SmallCourtModel", "doorY", "[I", true)
  | 26 => ("SmallCourtModel", "kin", "[I", true)
  | 27 => ("SmallCourtModel", "isDead", "[Z", true)
  | 28 => ("SmallCourtModel", "isJudge", "[Z", true)
  | 29 => ("SmallCourtModel", "lines", "I", false)
  | 30 => ("SmallCourtModel", "lineOf", "[I", true)
  | 31 => ("SmallCourtModel", "lineWith", "[I", true)
  | 32 => ("SmallCourtModel", "lineDay", "[I", true)
  | 33 => ("SmallCourtModel", "lineKind", "[I", true)
  | 34 => ("SmallCourtModel", "lineSum", "[I", true)
  | 35 => ("SmallCourtModel", "isTwin", "[Z", true)
  | 36 => ("SmallCourtModel", "claims", "I", false)
  | 37 => ("SmallCourtModel", "by", "[I", true)
  | 38 => ("SmallCourtModel", "against", "[I", true)
  | 39 => ("SmallCourtModel", "sum", "[I", true)
  | 40 => ("SmallCourtModel", "owedFrom", "[I", true)
  | 41 => ("SmallCourtModel", "hasNote", "[Z", true)
  | 42 => ("SmallCourtModel", "witnesses", "[I", true)
  | 43 => ("SmallCourtModel", "filed", "[I", true)
  | 44 => ("SmallCourtModel", "place", "[I", true)
  | 45 => ("SmallCourtModel", "tries", "[I", true)
  | 46 => ("SmallCourtModel", "found", "[I", true)
  | 47 => ("SmallCourtModel", "heard", "[I", true)
  | 48 => ("SmallCourtModel", "ordered", "[I", true)
  | 49 => ("SmallCourtModel", "seized", "[I", true)
  | 50 => ("SmallCourtModel", "served", "[I", true)
  | 51 => ("SmallCourtModel", "judged", "[I", true)
  | 52 => ("SmallCourtModel", "bench", "[I", true)
  | 53 => ("SmallCourtModel", "fact", "[I", true)
  | 54 => ("SmallCourtModel", "weekly", "[I", true)
  | 55 => ("SmallCourtModel", "owed", "[I", true)
  | 56 => ("SmallCourtModel", "goods", "[I", true)
  | 57 => ("SmallCourtModel", "heardMany", "I", false)
  | 58 => ("SmallCourtModel", "heardOf", "[I", true)
  | 59 => ("SmallCourtModel", "payments", "I", false)
  | 60 => ("SmallCourtModel", "payOf", "[I", true)
  | 61 => ("SmallCourtModel", "payDay", "[I", true)
  | 62 => ("SmallCourtModel", "paySum", "[I", true)
  | 63 => ("SmallCourtModel", "payKnown", "[I", true)
  | 64 => ("SmallCourtModel", "payStruck", "[I", true)
  | 65 => ("SmallCourtModel", "sitting", "[I", true)
  | 66 => ("SmallCourtModel", "stack", "[Z", true)
  | 67 => ("SmallCourtModel", "isPaid", "I", false)
  | 68 => ("SmallCourtModel", "isRest", "I", false)
  | 69 => ("SmallCourtModel", "isOver", "I", false)
  | 70 => ("SmallCourtModel", "isMissed", "I", false)
  | 71 => ("SmallCourtModel", "isState", "I", false)
  | 72 => ("SmallCourtModel", "planMany", "I", false)
  | 73 => ("SmallCourtModel", "planClaim", "[I", true)
  | 74 => ("SmallCourtModel", "planWeekly", "[I", true)
  | 75 => ("SmallCourtModel", "few", "I", false)
  | 76 => ("SmallCourtModel", "fewOf", "[I", true)
  | 77 => ("SmallCourtModel", "fewRest", "[I", true)
  | 78 => ("SmallCourtModel", "fewLeast", "[I", true)
  | 79 => ("SmallCourtModel", "more", "[I", true)
  | 80 => ("SmallCourtModel", "bestMore", "[I", true)
  | 81 => ("SmallCourtModel", "planWeeks", "[I", true)
  | 82 => ("SmallCourtModel", "debt", "[I", true)
  | 83 => ("SmallCourtModel", "hasNetted", "Z", false)
  | 84 => ("SmallCourtModel", "ringMany", "I", false)
  | 85 => ("SmallCourtModel", "ringLeast", "[I", true)
  | 86 => ("SmallCourtModel", "bestLeast", "I", false)
  | 87 => ("SmallCourtModel", "bestSize", "I", false)
  | 88 => ("SmallCourtModel", "bestRing", "[I", true)
  | 89 => ("SmallCourtModel", "ring", "[I", true)
  | 90 => ("SmallCourtModel", "listed", "I", false)
  | 91 => ("SmallCourtModel", "list", "[I", true)
  | 92 => ("SmallCourtModel", "walkedMany", "I", false)
  | 93 => ("SmallCourtModel", "walked", "[I", true)
  | 94 => ("SmallCourtModel", "home", "[I", true)
  | 95 => ("SmallCourtModel", "habitMany", "I", false)
  | 96 => ("SmallCourtModel", "habitProved", "I", false)
  | _ => ("SmallCourtModel", "ways", "[J", true)
def tyX10 : Nat → FieldType := fun k => match k with
  | 0 => .int
  | 1 => .int
  | 2 => .array .int
  | 3 => .array .int
  | 4 => .array .int
  | 5 => .array .int
  | 6 => .array .byte
  | 7 => .int
  | 8 => .int
  | 9 => .int
  | 10 => .int
  | 11 => .int
  | 12 => .array .int
  | 13 => .int
  | 14 => .int
  | 15 => .array .int
  | 16 => .int
  | 17 => .array .int
  | 18 => .int
  | 19 => .array .byte
  | 20 => .int
  | 21 => .array .int
  | 22 => .array .int
  | 23 => .array .int
  | 24 => .array .int
  | 25 => .array .int
  | 26 => .array .int
  | 27 => .array .boolean
  | 28 => .array .boolean
  | 29 => .int
  | 30 => .array .int
  | 31 => .array .int
  | 32 => .array .int
  | 33 => .array .int
  | 34 => .array .int
  | 35 => .array .boolean
  | 36 => .int
  | 37 => .array .int
  | 38 => .array .int
  | 39 => .array .int
  | 40 => .array .int
  | 41 => .array .boolean
  | 42 => .array .int
  | 43 => .array .int
  | 44 => .array .int
  | 45 => .array .int
  | 46 => .array .int
  | 47 => .array .int
  | 48 => .array .int
  | 49 => .array .int
  | 50 => .array .int
  | 51 => .array .int
  | 52 => .array .int
  | 53 => .array .int
  | 54 => .array .int
  | 55 => .array .int
  | 56 => .array .int
  | 57 => .int
  | 58 => .array .int
  | 59 => .int
  | 60 => .array .int
  | 61 => .array .int
  | 62 => .array .int
  | 63 => .array .int
  | 64 => .array .int
  | 65 => .array .int
  | 66 => .array .boolean
  | 67 => .int
  | 68 => .int
  | 69 => .int
  | 70 => .int
  | 71 => .int
  | 72 => .int
  | 73 => .array .int
  | 74 => .array .int
  | 75 => .int
  | 76 => .array .int
  | 77 => .array .int
  | 78 => .array .int
  | 79 => .array .int
  | 80 => .array .int
  | 81 => .array .int
  | 82 => .array .int
  | 83 => .boolean
  | 84 => .int
  | 85 => .array .int
  | 86 => .int
  | 87 => .int
  | 88 => .array .int
  | 89 => .array .int
  | 90 => .int
  | 91 => .array .int
  | 92 => .int
  | 93 => .array .int
  | 94 => .array .int
  | 95 => .int
  | 96 => .int
  | _ => .array .long
theorem nmX10 : ∀ a, a < 98 → ∀ b, b < 98 → a ≠ b → (TX10 a).2.1 ≠ (TX10 b).2.1 := by decide +kernel
theorem tyX10_ok : ∀ k, k < 98 → parseFieldDescriptor (TX10 k).2.2.1 = some (tyX10 k) := by decide +kernel
abbrev cX10_init : ByteArray := prog_12_method_1_code
def yX10_init : MethodName := ⟨RX10, "<init>", "()V"⟩
abbrev cX10_in : ByteArray := prog_12_method_2_code
def yX10_in : MethodName := ⟨RX10, "in", "(III)Z"⟩
abbrev cX10_isDay : ByteArray := prog_12_method_3_code
def yX10_isDay : MethodName := ⟨RX10, "isDay", "(I)Z"⟩
abbrev cX10_clock : ByteArray := prog_12_method_4_code
def yX10_clock : MethodName := ⟨RX10, "clock", "(I)Z"⟩
abbrev cX10_without : ByteArray := prog_12_method_5_code
def yX10_without : MethodName := ⟨RX10, "without", "(I)I"⟩
abbrev cX10_leastOf : ByteArray := prog_12_method_6_code
def yX10_leastOf : MethodName := ⟨RX10, "leastOf", "(I)I"⟩
abbrev cX10_mostOf : ByteArray := prog_12_method_7_code
def yX10_mostOf : MethodName := ⟨RX10, "mostOf", "(I)I"⟩
abbrev cX10_four : ByteArray := prog_12_method_8_code
def yX10_four : MethodName := ⟨RX10, "four", "(I)V"⟩
abbrev cX10_feed : ByteArray := prog_12_method_9_code
def yX10_feed : MethodName := ⟨RX10, "feed", "(IIIII)I"⟩
abbrev cX10_end : ByteArray := prog_12_method_10_code
def yX10_end : MethodName := ⟨RX10, "end", "(I)I"⟩
abbrev cX10_fails : ByteArray := prog_12_method_11_code
def yX10_fails : MethodName := ⟨RX10, "fails", "(II)Z"⟩
abbrev cX10_see : ByteArray := prog_12_method_12_code
def yX10_see : MethodName := ⟨RX10, "see", "()I"⟩
abbrev cX10_wordHere : ByteArray := prog_12_method_13_code
def yX10_wordHere : MethodName := ⟨RX10, "wordHere", "()I"⟩
abbrev cX10_number : ByteArray := prog_12_method_14_code
def yX10_number : MethodName := ⟨RX10, "number", "(II)Z"⟩
abbrev cX10_writes : ByteArray := prog_12_method_15_code
def yX10_writes : MethodName := ⟨RX10, "writes", "(I)V"⟩
abbrev cX10_deep : ByteArray := prog_12_method_16_code
def yX10_deep : MethodName := ⟨RX10, "deep", "()I"⟩
abbrev cX10_isFact : ByteArray := prog_12_method_17_code
def yX10_isFact : MethodName := ⟨RX10, "isFact", "(I)Z"⟩
abbrev cX10_compareOf : ByteArray := prog_12_method_18_code
def yX10_compareOf : MethodName := ⟨RX10, "compareOf", "(III)I"⟩
abbrev cX10_compare : ByteArray := prog_12_method_19_code
def yX10_compare : MethodName := ⟨RX10, "compare", "(I)Z"⟩
abbrev cX10_begins : ByteArray := prog_12_method_20_code
def yX10_begins : MethodName := ⟨RX10, "begins", "()Z"⟩
abbrev cX10_closesNots : ByteArray := prog_12_method_21_code
def yX10_closesNots : MethodName := ⟨RX10, "closesNots", "()V"⟩
abbrev cX10_closesDown : ByteArray := prog_12_method_22_code
def yX10_closesDown : MethodName := ⟨RX10, "closesDown", "(I)V"⟩
abbrev cX10_clears : ByteArray := prog_12_method_23_code
def yX10_clears : MethodName := ⟨RX10, "clears", "()V"⟩
abbrev cX10_withoutProof : ByteArray := prog_12_method_24_code
def yX10_withoutProof : MethodName := ⟨RX10, "withoutProof", "()V"⟩
abbrev cX10_keepsProof : ByteArray := prog_12_method_25_code
def yX10_keepsProof : MethodName := ⟨RX10, "keepsProof", "(I)V"⟩
abbrev cX10_either : ByteArray := prog_12_method_26_code
def yX10_either : MethodName := ⟨RX10, "either", "()Z"⟩
abbrev cX10_isNew : ByteArray := prog_12_method_27_code
def yX10_isNew : MethodName := ⟨RX10, "isNew", "(II)Z"⟩
abbrev cX10_clause : ByteArray := prog_12_method_28_code
def yX10_clause : MethodName := ⟨RX10, "clause", "()Z"⟩
abbrev cX10_act : ByteArray := prog_12_method_29_code
def yX10_act : MethodName := ⟨RX10, "act", "(I)I"⟩
abbrev cX10_inForce : ByteArray := prog_12_method_30_code
def yX10_inForce : MethodName := ⟨RX10, "inForce", "(I)I"⟩
abbrev cX10_ruleOf : ByteArray := prog_12_method_31_code
def yX10_ruleOf : MethodName := ⟨RX10, "ruleOf", "(II)I"⟩
abbrev cX10_force : ByteArray := prog_12_method_32_code
def yX10_force : MethodName := ⟨RX10, "force", "(II)I"⟩
abbrev cX10_isPerson : ByteArray := prog_12_method_33_code
def yX10_isPerson : MethodName := ⟨RX10, "isPerson", "(I)Z"⟩
abbrev cX10_areLives : ByteArray := prog_12_method_34_code
def yX10_areLives : MethodName := ⟨RX10, "areLives", "(IIII)Z"⟩
abbrev cX10_person : ByteArray := prog_12_method_35_code
def yX10_person : MethodName := ⟨RX10, "person", "(IIIIII)I"⟩
abbrev cX10_lives : ByteArray := prog_12_method_36_code
def yX10_lives : MethodName := ⟨RX10, "lives", "(IIIII)V"⟩
abbrev cX10_anew : ByteArray := prog_12_method_37_code
def yX10_anew : MethodName := ⟨RX10, "anew", "(IIIII)Z"⟩
abbrev cX10_dies : ByteArray := prog_12_method_38_code
def yX10_dies : MethodName := ⟨RX10, "dies", "(I)Z"⟩
abbrev cX10_judge : ByteArray := prog_12_method_39_code
def yX10_judge : MethodName := ⟨RX10, "judge", "(IZ)Z"⟩
abbrev cX10_line : ByteArray := prog_12_method_40_code
def yX10_line : MethodName := ⟨RX10, "line", "(IIIII)I"⟩
abbrev cX10_bookSum : ByteArray := prog_12_method_41_code
def yX10_bookSum : MethodName := ⟨RX10, "bookSum", "(III)I"⟩
abbrev cX10_disorder : ByteArray := prog_12_method_42_code
def yX10_disorder : MethodName := ⟨RX10, "disorder", "(I)I"⟩
abbrev cX10_areTwins : ByteArray := prog_12_method_43_code
def yX10_areTwins : MethodName := ⟨RX10, "areTwins", "(II)Z"⟩
abbrev cX10_alike : ByteArray := prog_12_method_44_code
def yX10_alike : MethodName := ⟨RX10, "alike", "(III)I"⟩
abbrev cX10_book : ByteArray := prog_12_method_45_code
def yX10_book : MethodName := ⟨RX10, "book", "(IIII)I"⟩
abbrev cX10_isClaim : ByteArray := prog_12_method_46_code
def yX10_isClaim : MethodName := ⟨RX10, "isClaim", "(I)Z"⟩
abbrev cX10_file : ByteArray := prog_12_method_47_code
def yX10_file : MethodName := ⟨RX10, "file", "(IIIIZI)I"⟩
abbrev cX10_summons : ByteArray := prog_12_method_48_code
def yX10_summons : MethodName := ⟨RX10, "summons", "(IZ)I"⟩
abbrev cX10_isKinOf : ByteArray := prog_12_method_49_code
def yX10_isKinOf : MethodName := ⟨RX10, "isKinOf", "(II)Z"⟩
abbrev cX10_isSo : ByteArray := prog_12_method_50_code
def yX10_isSo : MethodName := ⟨RX10, "isSo", "(II)Z"⟩
abbrev cX10_isProved : ByteArray := prog_12_method_51_code
def yX10_isProved : MethodName := ⟨RX10, "isProved", "(II)Z"⟩
abbrev cX10_isSplit : ByteArray := prog_12_method_52_code
def yX10_isSplit : MethodName := ⟨RX10, "isSplit", "(II)Z"⟩
abbrev cX10_judges : ByteArray := prog_12_method_53_code
def yX10_judges : MethodName := ⟨RX10, "judges", "(II)I"⟩
abbrev cX10_sits : ByteArray := prog_12_method_54_code
def yX10_sits : MethodName := ⟨RX10, "sits", "(I)I"⟩
abbrev cX10_draws : ByteArray := prog_12_method_55_code
def yX10_draws : MethodName := ⟨RX10, "draws", "(III)V"⟩
abbrev cX10_hear : ByteArray := prog_12_method_56_code
def yX10_hear : MethodName := ⟨RX10, "hear", "(IZZI)I"⟩
abbrev cX10_looks : ByteArray := prog_12_method_57_code
def yX10_looks : MethodName := ⟨RX10, "looks", "(III)V"⟩
abbrev cX10_isOpen : ByteArray := prog_12_method_58_code
def yX10_isOpen : MethodName := ⟨RX10, "isOpen", "(I)Z"⟩
abbrev cX10_means : ByteArray := prog_12_method_59_code
def yX10_means : MethodName := ⟨RX10, "means", "(II)I"⟩
abbrev cX10_order : ByteArray := prog_12_method_60_code
def yX10_order : MethodName := ⟨RX10, "order", "(II)I"⟩
abbrev cX10_pays : ByteArray := prog_12_method_61_code
def yX10_pays : MethodName := ⟨RX10, "pays", "(III)I"⟩
abbrev cX10_pay : ByteArray := prog_12_method_62_code
def yX10_pay : MethodName := ⟨RX10, "pay", "(III)I"⟩
abbrev cX10_strike : ByteArray := prog_12_method_63_code
def yX10_strike : MethodName := ⟨RX10, "strike", "(I)Z"⟩
abbrev cX10_seize : ByteArray := prog_12_method_64_code
def yX10_seize : MethodName := ⟨RX10, "seize", "(II)I"⟩
abbrev cX10_gaol : ByteArray := prog_12_method_65_code
def yX10_gaol : MethodName := ⟨RX10, "gaol", "(I)I"⟩
abbrev cX10_claim : ByteArray := prog_12_method_66_code
def yX10_claim : MethodName := ⟨RX10, "claim", "(II)I"⟩
abbrev cX10_state : ByteArray := prog_12_method_67_code
def yX10_state : MethodName := ⟨RX10, "state", "(IIII)I"⟩
abbrev cX10_weeksOf : ByteArray := prog_12_method_68_code
def yX10_weeksOf : MethodName := ⟨RX10, "weeksOf", "(III)I"⟩
abbrev cX10_plan : ByteArray := prog_12_method_69_code
def yX10_plan : MethodName := ⟨RX10, "plan", "(II)I"⟩
abbrev cX10_planned : ByteArray := prog_12_method_70_code
def yX10_planned : MethodName := ⟨RX10, "planned", "(II)I"⟩
abbrev cX10_debts : ByteArray := prog_12_method_71_code
def yX10_debts : MethodName := ⟨RX10, "debts", "()V"⟩
abbrev cX10_offers : ByteArray := prog_12_method_72_code
def yX10_offers : MethodName := ⟨RX10, "offers", "(II)V"⟩
abbrev cX10_lesser : ByteArray := prog_12_method_73_code
def yX10_lesser : MethodName := ⟨RX10, "lesser", "(II)I"⟩
abbrev cX10_finds : ByteArray := prog_12_method_74_code
def yX10_finds : MethodName := ⟨RX10, "finds", "()V"⟩
abbrev cX10_takes : ByteArray := prog_12_method_75_code
def yX10_takes : MethodName := ⟨RX10, "takes", "(IIIZ)I"⟩
abbrev cX10_net : ByteArray := prog_12_method_76_code
def yX10_net : MethodName := ⟨RX10, "net", "()I"⟩
abbrev cX10_netted : ByteArray := prog_12_method_77_code
def yX10_netted : MethodName := ⟨RX10, "netted", "(I)I"⟩
abbrev cX10_list : ByteArray := prog_12_method_78_code
def yX10_list : MethodName := ⟨RX10, "list", "(I)I"⟩
abbrev cX10_stepsBetween : ByteArray := prog_12_method_79_code
def yX10_stepsBetween : MethodName := ⟨RX10, "stepsBetween", "(IIII)I"⟩
abbrev cX10_far : ByteArray := prog_12_method_80_code
def yX10_far : MethodName := ⟨RX10, "far", "(II)I"⟩
abbrev cX10_walk : ByteArray := prog_12_method_81_code
def yX10_walk : MethodName := ⟨RX10, "walk", "()I"⟩
abbrev cX10_walked : ByteArray := prog_12_method_82_code
def yX10_walked : MethodName := ⟨RX10, "walked", "(I)I"⟩
abbrev cX10_habits : ByteArray := prog_12_method_83_code
def yX10_habits : MethodName := ⟨RX10, "habits", "(I)V"⟩
abbrev cX10_isRare : ByteArray := prog_12_method_84_code
def yX10_isRare : MethodName := ⟨RX10, "isRare", "(II)Z"⟩
abbrev cX10_habit : ByteArray := prog_12_method_85_code
def yX10_habit : MethodName := ⟨RX10, "habit", "(II)I"⟩
abbrev cX10_other : ByteArray := prog_12_method_86_code
def yX10_other : MethodName := ⟨RX10, "other", "(II)I"⟩
abbrev cX10_count : ByteArray := prog_12_method_87_code
def yX10_count : MethodName := ⟨RX10, "count", "(I)I"⟩
def RJ0 : String := "java/lang/String"
abbrev cJ0_length_8abf5 : ByteArray := prog_14_method_54_code
def yJ0_length_8abf5 : MethodName := ⟨RJ0, "length", "()I"⟩
abbrev cJ0_charAt_5068e : ByteArray := prog_14_method_56_code
def yJ0_charAt_5068e : MethodName := ⟨RJ0, "charAt", "(I)C"⟩
abbrev cJ0_coder_7d493 : ByteArray := prog_14_method_152_code
def yJ0_coder_7d493 : MethodName := ⟨RJ0, "coder", "()B"⟩
abbrev cJ0_isLatin1_aae02 : ByteArray := prog_14_method_154_code
def yJ0_isLatin1_aae02 : MethodName := ⟨RJ0, "isLatin1", "()Z"⟩
abbrev cJ0_checkIndex_df160 : ByteArray := prog_14_method_155_code
def yJ0_checkIndex_df160 : MethodName := ⟨RJ0, "checkIndex", "(II)V"⟩
def RJ1 : String := "java/lang/StringLatin1"
abbrev cJ1_charAt_3b067 : ByteArray := prog_15_method_2_code
def yJ1_charAt_3b067 : MethodName := ⟨RJ1, "charAt", "([BI)C"⟩
def RJ3 : String := "jdk/internal/util/Preconditions"
abbrev cJ3_checkIndex_8e157 : ByteArray := prog_18_method_11_code
def yJ3_checkIndex_8e157 : MethodName := ⟨RJ3, "checkIndex", "(IILjava/util/function/BiFunction;)I"⟩
abbrev cL_law : ByteArray := code
abbrev vwCl : List vw_C := [(RX0, TX0, 5), (RX1, TX1, 8), (RX2, TX2, 19), (RX3, TX3, 6), (RX4, TX4, 10), (RX5, TX5, 13), (RX6, TX6, 7), (RX7, TX7, 8), (RX8, TX8, 5), (RX9, TX9, 20), (RX10, TX10, 98)]
end
section
/-! A CODE'S BYTES, by windows: reading an instruction without walking the whole code -/
def hz_at (c : ByteArray) (p b : Nat) : Prop := ∃ h : p < c.size, (c[p]'h).toNat = b
theorem hz_u1 {c : ByteArray} {p b : Nat} (h : hz_at c p b) : (Reader.u1 : Decoder Nat) c p = .ok (b, p + 1) := by
  obtain ⟨h1, h2⟩ := h
  subst h2
  have e : (Reader.u1 : Decoder Nat) c p = (if h : p < c.size then (do set (p + 1); Pure.pure (c[p]'h).toNat : Decoder Nat) else throw (HasTruncated.truncated p)) c p := rfl
  rw [e, dif_pos h1]
  rfl
section HZDK
variable {c : ByteArray} {pc op b0 b1 : Nat} {i : Instr} {K : Nat → Decoder Instr}
theorem hz_dk {n : Nat} (h : (Decoder.instr pc) c pc = .ok (i, pc + n)) : decode c pc = .ok (i, n) := by
  show (Except.bind ((Decoder.instr pc) c pc) fun z => .ok (z.1, z.2 - pc)) = _
  rw [h]
  show Except.ok (i, pc + n - pc) = _
  rw [Nat.add_sub_cancel_left]
theorem dk_1 (hK : Decoder.instr pc = (Reader.u1 >>= K)) (h0 : hz_at c pc op) (hi : K op = Pure.pure i) : decode c pc = .ok (i, 1) := hz_dk (by
  rw [hK]
  show (Except.bind ((Reader.u1 : Decoder Nat) c pc) fun z => K z.1 c z.2) = _
  rw [hz_u1 h0]
  show K op c (pc + 1) = _
  rw [hi]; rfl)
theorem dk_b {K2 : Nat → Decoder Instr} (hK : Decoder.instr pc = (Reader.u1 >>= K)) (h0 : hz_at c pc op) (h1 : hz_at c (pc + 1) b0) (hi : K op = (Reader.u1 >>= K2)) (hj : K2 b0 = Pure.pure i) : decode c pc = .ok (i, 2) := hz_dk (by
  rw [hK]
  show (Except.bind ((Reader.u1 : Decoder Nat) c pc) fun z => K z.1 c z.2) = _
  rw [hz_u1 h0]
  show K op c (pc + 1) = _
  rw [hi]
  show (Except.bind ((Reader.u1 : Decoder Nat) c (pc + 1)) fun z => K2 z.1 c z.2) = _
  rw [hz_u1 h1]
  show K2 b0 c (pc + 1 + 1) = _
  rw [hj]; rfl)
theorem dk_s1 {v : Int} (f : Int → Instr) (hK : Decoder.instr pc = (Reader.u1 >>= K)) (h0 : hz_at c pc op) (h1 : hz_at c (pc + 1) b0) (hi : K op = (Reader.s1 >>= fun x => Pure.pure (f x))) (e : Reader.signed 8 b0 = v) : decode c pc = .ok (f v, 2) := hz_dk (by
  rw [hK]
  show (Except.bind ((Reader.u1 : Decoder Nat) c pc) fun z => K z.1 c z.2) = _
  rw [hz_u1 h0]
  show K op c (pc + 1) = _
  rw [hi]
  show (Except.bind (Except.bind ((Reader.u1 : Decoder Nat) c (pc + 1)) fun z => .ok (Reader.signed 8 z.1, z.2)) fun z => .ok (f z.1, z.2)) = _
  rw [hz_u1 h1]
  show Except.ok (f (Reader.signed 8 b0), pc + 1 + 1) = _
  rw [e])
theorem dk_u2 {v : Nat} (f : Nat → Instr) (hK : Decoder.instr pc = (Reader.u1 >>= K)) (h0 : hz_at c pc op) (h1 : hz_at c (pc + 1) b0) (h2 : hz_at c (pc + 2) b1) (hi : K op = (Reader.u2 >>= fun x => Pure.pure (f x))) (e : b0 * 256 + b1 = v) : decode c pc = .ok (f v, 3) := hz_dk (by
  rw [hK]
  show (Except.bind ((Reader.u1 : Decoder Nat) c pc) fun z => K z.1 c z.2) = _
  rw [hz_u1 h0]
  show K op c (pc + 1) = _
  rw [hi]
  show (Except.bind (Except.bind ((Reader.u1 : Decoder Nat) c (pc + 1)) fun z => Except.bind ((Reader.u1 : Decoder Nat) c z.2) fun y => .ok (z.1 * 256 + y.1, y.2)) fun z => .ok (f z.1, z.2)) = _
  rw [hz_u1 h1]
  show (Except.bind (Except.bind ((Reader.u1 : Decoder Nat) c (pc + 2)) fun y => .ok (b0 * 256 + y.1, y.2)) fun z => .ok (f z.1, z.2)) = _
  rw [hz_u1 h2]
  show Except.ok (f (b0 * 256 + b1), pc + 2 + 1) = _
  rw [e])
theorem dk_s2 {v : Int} (f : Int → Instr) (hK : Decoder.instr pc = (Reader.u1 >>= K)) (h0 : hz_at c pc op) (h1 : hz_at c (pc + 1) b0) (h2 : hz_at c (pc + 2) b1) (hi : K op = (Reader.s2 >>= fun x => Pure.pure (f x))) (e : Reader.signed 16 (b0 * 256 + b1) = v) : decode c pc = .ok (f v, 3) := hz_dk (by
  rw [hK]
  show (Except.bind ((Reader.u1 : Decoder Nat) c pc) fun z => K z.1 c z.2) = _
  rw [hz_u1 h0]
  show K op c (pc + 1) = _
  rw [hi]
  show (Except.bind (Except.bind (Except.bind ((Reader.u1 : Decoder Nat) c (pc + 1)) fun z => Except.bind ((Reader.u1 : Decoder Nat) c z.2) fun y => .ok (z.1 * 256 + y.1, y.2)) fun z => .ok (Reader.signed 16 z.1, z.2)) fun z => .ok (f z.1, z.2)) = _
  rw [hz_u1 h1]
  show (Except.bind (Except.bind (Except.bind ((Reader.u1 : Decoder Nat) c (pc + 2)) fun y => .ok (b0 * 256 + y.1, y.2)) fun z => .ok (Reader.signed 16 z.1, z.2)) fun z => .ok (f z.1, z.2)) = _
  rw [hz_u1 h2]
  show Except.ok (f (Reader.signed 16 (b0 * 256 + b1)), pc + 2 + 1) = _
  rw [e])
theorem dk_ii {v : Int} (hK : Decoder.instr pc = (Reader.u1 >>= K)) (h0 : hz_at c pc op) (h1 : hz_at c (pc + 1) b0) (h2 : hz_at c (pc + 2) b1) (hi : K op = (Reader.u1 >>= fun a => Reader.s1 >>= fun x => Pure.pure (.iinc a x))) (e : Reader.signed 8 b1 = v) : decode c pc = .ok (.iinc b0 v, 3) := hz_dk (by
  rw [hK]
  show (Except.bind ((Reader.u1 : Decoder Nat) c pc) fun z => K z.1 c z.2) = _
  rw [hz_u1 h0]
  show K op c (pc + 1) = _
  rw [hi]
  show (Except.bind ((Reader.u1 : Decoder Nat) c (pc + 1)) fun z => Except.bind (Except.bind ((Reader.u1 : Decoder Nat) c z.2) fun y => .ok (Reader.signed 8 y.1, y.2)) fun y => .ok (Instr.iinc z.1 y.1, y.2)) = _
  rw [hz_u1 h1]
  show (Except.bind (Except.bind ((Reader.u1 : Decoder Nat) c (pc + 2)) fun y => .ok (Reader.signed 8 y.1, y.2)) fun y => .ok (Instr.iinc b0 y.1, y.2)) = _
  rw [hz_u1 h2]
  show Except.ok (Instr.iinc b0 (Reader.signed 8 b1), pc + 2 + 1) = _
  rw [e])
end HZDK
theorem dq_42 {c : ByteArray} {pc : Nat} (h0 : hz_at c pc 42) : decode c pc = .ok (.aload_n 0, 1) := dk_1 rfl h0 rfl
theorem dq_183 {c : ByteArray} {pc : Nat} {b0 b1 v : Nat} (h0 : hz_at c pc 183) (h1 : hz_at c (pc + 1) b0) (h2 : hz_at c (pc + 2) b1) (e : b0 * 256 + b1 = v) : decode c pc = .ok (.invokespecial v, 3) := dk_u2 (fun v => .invokespecial v) rfl h0 h1 h2 rfl e
theorem dq_16 {c : ByteArray} {pc : Nat} {b : Nat} {v : Int} (h0 : hz_at c pc 16) (h1 : hz_at c (pc + 1) b) (e : Reader.signed 8 b = v) : decode c pc = .ok (.bipush v, 2) := dk_s1 (fun v => .bipush v) rfl h0 h1 rfl e
theorem dq_181 {c : ByteArray} {pc : Nat} {b0 b1 v : Nat} (h0 : hz_at c pc 181) (h1 : hz_at c (pc + 1) b0) (h2 : hz_at c (pc + 2) b1) (e : b0 * 256 + b1 = v) : decode c pc = .ok (.putfield v, 3) := dk_u2 (fun v => .putfield v) rfl h0 h1 h2 rfl e
theorem dq_17 {c : ByteArray} {pc : Nat} {b0 b1 : Nat} {v : Int} (h0 : hz_at c pc 17) (h1 : hz_at c (pc + 1) b0) (h2 : hz_at c (pc + 2) b1) (e : Reader.signed 16 (b0 * 256 + b1) = v) : decode c pc = .ok (.sipush v, 3) := dk_s2 (fun v => .sipush v) rfl h0 h1 h2 rfl e
theorem dq_27 {c : ByteArray} {pc : Nat} (h0 : hz_at c pc 27) : decode c pc = .ok (.iload_n 1, 1) := dk_1 rfl h0 rfl
theorem dq_28 {c : ByteArray} {pc : Nat} (h0 : hz_at c pc 28) : decode c pc = .ok (.iload_n 2, 1) := dk_1 rfl h0 rfl
theorem dq_178 {c : ByteArray} {pc : Nat} {b0 b1 v : Nat} (h0 : hz_at c pc 178) (h1 : hz_at c (pc + 1) b0) (h2 : hz_at c (pc + 2) b1) (e : b0 * 256 + b1 = v) : decode c pc = .ok (.getstatic v, 3) := dk_u2 (fun v => .getstatic v) rfl h0 h1 h2 rfl e
theorem dq_3 {c : ByteArray} {pc : Nat} (h0 : hz_at c pc 3) : decode c pc = .ok (.iconst 0, 1) := dk_1 rfl h0 rfl
theorem dq_180 {c : ByteArray} {pc : Nat} {b0 b1 v : Nat} (h0 : hz_at c pc 180) (h1 : hz_at c (pc + 1) b0) (h2 : hz_at c (pc + 2) b1) (e : b0 * 256 + b1 = v) : decode c pc = .ok (.getfield v, 3) := dk_u2 (fun v => .getfield v) rfl h0 h1 h2 rfl e
theorem dq_184 {c : ByteArray} {pc : Nat} {b0 b1 v : Nat} (h0 : hz_at c pc 184) (h1 : hz_at c (pc + 1) b0) (h2 : hz_at c (pc + 2) b1) (e : b0 * 256 + b1 = v) : decode c pc = .ok (.invokestatic v, 3) := dk_u2 (fun v => .invokestatic v) rfl h0 h1 h2 rfl e
theorem dq_5 {c : ByteArray} {pc : Nat} (h0 : hz_at c pc 5) : decode c pc = .ok (.iconst 2, 1) := dk_1 rfl h0 rfl
theorem dq_4 {c : ByteArray} {pc : Nat} (h0 : hz_at c pc 4) : decode c pc = .ok (.iconst 1, 1) := dk_1 rfl h0 rfl
theorem dq_79 {c : ByteArray} {pc : Nat} (h0 : hz_at c pc 79) : decode c pc = .ok (.iastore, 1) := dk_1 rfl h0 rfl
theorem dq_2 {c : ByteArray} {pc : Nat} (h0 : hz_at c pc 2) : decode c pc = .ok (.iconst (-1), 1) := dk_1 rfl h0 rfl
theorem dq_6 {c : ByteArray} {pc : Nat} (h0 : hz_at c pc 6) : decode c pc = .ok (.iconst 3, 1) := dk_1 rfl h0 rfl
theorem dq_177 {c : ByteArray} {pc : Nat} (h0 : hz_at c pc 177) : decode c pc = .ok (.return_, 1) := dk_1 rfl h0 rfl
theorem dq_26 {c : ByteArray} {pc : Nat} (h0 : hz_at c pc 26) : decode c pc = .ok (.iload_n 0, 1) := dk_1 rfl h0 rfl
theorem dq_120 {c : ByteArray} {pc : Nat} (h0 : hz_at c pc 120) : decode c pc = .ok (.ishl, 1) := dk_1 rfl h0 rfl
theorem dq_128 {c : ByteArray} {pc : Nat} (h0 : hz_at c pc 128) : decode c pc = .ok (.ior, 1) := dk_1 rfl h0 rfl
theorem dq_153 {c : ByteArray} {pc : Nat} {b0 b1 : Nat} {v : Int} (h0 : hz_at c pc 153) (h1 : hz_at c (pc + 1) b0) (h2 : hz_at c (pc + 2) b1) (e : Reader.signed 16 (b0 * 256 + b1) = v) : decode c pc = .ok (.ifCond .eq v, 3) := dk_s2 (fun v => .ifCond .eq v) rfl h0 h1 h2 rfl e
theorem dq_167 {c : ByteArray} {pc : Nat} {b0 b1 : Nat} {v : Int} (h0 : hz_at c pc 167) (h1 : hz_at c (pc + 1) b0) (h2 : hz_at c (pc + 2) b1) (e : Reader.signed 16 (b0 * 256 + b1) = v) : decode c pc = .ok (.goto v, 3) := dk_s2 (fun v => .goto v) rfl h0 h1 h2 rfl e
theorem dq_29 {c : ByteArray} {pc : Nat} (h0 : hz_at c pc 29) : decode c pc = .ok (.iload_n 3, 1) := dk_1 rfl h0 rfl
theorem dq_172 {c : ByteArray} {pc : Nat} (h0 : hz_at c pc 172) : decode c pc = .ok (.ireturn, 1) := dk_1 rfl h0 rfl
theorem dq_162 {c : ByteArray} {pc : Nat} {b0 b1 : Nat} {v : Int} (h0 : hz_at c pc 162) (h1 : hz_at c (pc + 1) b0) (h2 : hz_at c (pc + 2) b1) (e : Reader.signed 16 (b0 * 256 + b1) = v) : decode c pc = .ok (.if_icmp .ge v, 3) := dk_s2 (fun v => .if_icmp .ge v) rfl h0 h1 h2 rfl e
theorem dq_89 {c : ByteArray} {pc : Nat} (h0 : hz_at c pc 89) : decode c pc = .ok (.dup, 1) := dk_1 rfl h0 rfl
theorem dq_96 {c : ByteArray} {pc : Nat} (h0 : hz_at c pc 96) : decode c pc = .ok (.iadd, 1) := dk_1 rfl h0 rfl
theorem dq_61 {c : ByteArray} {pc : Nat} (h0 : hz_at c pc 61) : decode c pc = .ok (.istore_n 2, 1) := dk_1 rfl h0 rfl
theorem dq_62 {c : ByteArray} {pc : Nat} (h0 : hz_at c pc 62) : decode c pc = .ok (.istore_n 3, 1) := dk_1 rfl h0 rfl
theorem dq_126 {c : ByteArray} {pc : Nat} (h0 : hz_at c pc 126) : decode c pc = .ok (.iand, 1) := dk_1 rfl h0 rfl
theorem dq_54 {c : ByteArray} {pc : Nat} {b : Nat} (h0 : hz_at c pc 54) (h1 : hz_at c (pc + 1) b) : decode c pc = .ok (.istore b, 2) := dk_b rfl h0 h1 rfl rfl
theorem dq_122 {c : ByteArray} {pc : Nat} (h0 : hz_at c pc 122) : decode c pc = .ok (.ishr, 1) := dk_1 rfl h0 rfl
theorem dq_46 {c : ByteArray} {pc : Nat} (h0 : hz_at c pc 46) : decode c pc = .ok (.iaload, 1) := dk_1 rfl h0 rfl
theorem dq_130 {c : ByteArray} {pc : Nat} (h0 : hz_at c pc 130) : decode c pc = .ok (.ixor, 1) := dk_1 rfl h0 rfl
theorem dq_21 {c : ByteArray} {pc : Nat} {b : Nat} (h0 : hz_at c pc 21) (h1 : hz_at c (pc + 1) b) : decode c pc = .ok (.iload b, 2) := dk_b rfl h0 h1 rfl rfl
theorem dq_43 {c : ByteArray} {pc : Nat} (h0 : hz_at c pc 43) : decode c pc = .ok (.aload_n 1, 1) := dk_1 rfl h0 rfl
theorem dq_132 {c : ByteArray} {pc : Nat} {b0 b1 : Nat} {v : Int} (h0 : hz_at c pc 132) (h1 : hz_at c (pc + 1) b0) (h2 : hz_at c (pc + 2) b1) (e : Reader.signed 8 b1 = v) : decode c pc = .ok (.iinc b0 v, 3) := dk_ii rfl h0 h1 h2 rfl e
theorem dq_160 {c : ByteArray} {pc : Nat} {b0 b1 : Nat} {v : Int} (h0 : hz_at c pc 160) (h1 : hz_at c (pc + 1) b0) (h2 : hz_at c (pc + 2) b1) (e : Reader.signed 16 (b0 * 256 + b1) = v) : decode c pc = .ok (.if_icmp .ne v, 3) := dk_s2 (fun v => .if_icmp .ne v) rfl h0 h1 h2 rfl e
theorem dq_7 {c : ByteArray} {pc : Nat} (h0 : hz_at c pc 7) : decode c pc = .ok (.iconst 4, 1) := dk_1 rfl h0 rfl
theorem dq_161 {c : ByteArray} {pc : Nat} {b0 b1 : Nat} {v : Int} (h0 : hz_at c pc 161) (h1 : hz_at c (pc + 1) b0) (h2 : hz_at c (pc + 2) b1) (e : Reader.signed 16 (b0 * 256 + b1) = v) : decode c pc = .ok (.if_icmp .lt v, 3) := dk_s2 (fun v => .if_icmp .lt v) rfl h0 h1 h2 rfl e
theorem dq_158 {c : ByteArray} {pc : Nat} {b0 b1 : Nat} {v : Int} (h0 : hz_at c pc 158) (h1 : hz_at c (pc + 1) b0) (h2 : hz_at c (pc + 2) b1) (e : Reader.signed 16 (b0 * 256 + b1) = v) : decode c pc = .ok (.ifCond .le v, 3) := dk_s2 (fun v => .ifCond .le v) rfl h0 h1 h2 rfl e
theorem dq_100 {c : ByteArray} {pc : Nat} (h0 : hz_at c pc 100) : decode c pc = .ok (.isub, 1) := dk_1 rfl h0 rfl
theorem dq_164 {c : ByteArray} {pc : Nat} {b0 b1 : Nat} {v : Int} (h0 : hz_at c pc 164) (h1 : hz_at c (pc + 1) b0) (h2 : hz_at c (pc + 2) b1) (e : Reader.signed 16 (b0 * 256 + b1) = v) : decode c pc = .ok (.if_icmp .le v, 3) := dk_s2 (fun v => .if_icmp .le v) rfl h0 h1 h2 rfl e
theorem dq_182 {c : ByteArray} {pc : Nat} {b0 b1 v : Nat} (h0 : hz_at c pc 182) (h1 : hz_at c (pc + 1) b0) (h2 : hz_at c (pc + 2) b1) (e : b0 * 256 + b1 = v) : decode c pc = .ok (.invokevirtual v, 3) := dk_u2 (fun v => .invokevirtual v) rfl h0 h1 h2 rfl e
theorem dq_116 {c : ByteArray} {pc : Nat} (h0 : hz_at c pc 116) : decode c pc = .ok (.ineg, 1) := dk_1 rfl h0 rfl
theorem dq_163 {c : ByteArray} {pc : Nat} {b0 b1 : Nat} {v : Int} (h0 : hz_at c pc 163) (h1 : hz_at c (pc + 1) b0) (h2 : hz_at c (pc + 2) b1) (e : Reader.signed 16 (b0 * 256 + b1) = v) : decode c pc = .ok (.if_icmp .gt v, 3) := dk_s2 (fun v => .if_icmp .gt v) rfl h0 h1 h2 rfl e
theorem dq_84 {c : ByteArray} {pc : Nat} (h0 : hz_at c pc 84) : decode c pc = .ok (.bastore, 1) := dk_1 rfl h0 rfl
theorem dq_51 {c : ByteArray} {pc : Nat} (h0 : hz_at c pc 51) : decode c pc = .ok (.baload, 1) := dk_1 rfl h0 rfl
theorem dq_154 {c : ByteArray} {pc : Nat} {b0 b1 : Nat} {v : Int} (h0 : hz_at c pc 154) (h1 : hz_at c (pc + 1) b0) (h2 : hz_at c (pc + 2) b1) (e : Reader.signed 16 (b0 * 256 + b1) = v) : decode c pc = .ok (.ifCond .ne v, 3) := dk_s2 (fun v => .ifCond .ne v) rfl h0 h1 h2 rfl e
theorem dq_44 {c : ByteArray} {pc : Nat} (h0 : hz_at c pc 44) : decode c pc = .ok (.aload_n 2, 1) := dk_1 rfl h0 rfl
theorem dq_45 {c : ByteArray} {pc : Nat} (h0 : hz_at c pc 45) : decode c pc = .ok (.aload_n 3, 1) := dk_1 rfl h0 rfl
theorem dq_25 {c : ByteArray} {pc : Nat} {b : Nat} (h0 : hz_at c pc 25) (h1 : hz_at c (pc + 1) b) : decode c pc = .ok (.aload b, 2) := dk_b rfl h0 h1 rfl rfl
theorem dq_159 {c : ByteArray} {pc : Nat} {b0 b1 : Nat} {v : Int} (h0 : hz_at c pc 159) (h1 : hz_at c (pc + 1) b0) (h2 : hz_at c (pc + 2) b1) (e : Reader.signed 16 (b0 * 256 + b1) = v) : decode c pc = .ok (.if_icmp .eq v, 3) := dk_s2 (fun v => .if_icmp .eq v) rfl h0 h1 h2 rfl e
theorem dq_104 {c : ByteArray} {pc : Nat} (h0 : hz_at c pc 104) : decode c pc = .ok (.imul, 1) := dk_1 rfl h0 rfl
theorem dq_8 {c : ByteArray} {pc : Nat} (h0 : hz_at c pc 8) : decode c pc = .ok (.iconst 5, 1) := dk_1 rfl h0 rfl
theorem dq_108 {c : ByteArray} {pc : Nat} (h0 : hz_at c pc 108) : decode c pc = .ok (.idiv, 1) := dk_1 rfl h0 rfl
theorem dq_18 {c : ByteArray} {pc : Nat} {b : Nat} (h0 : hz_at c pc 18) (h1 : hz_at c (pc + 1) b) : decode c pc = .ok (.ldc b, 2) := dk_b rfl h0 h1 rfl rfl
theorem dq_60 {c : ByteArray} {pc : Nat} (h0 : hz_at c pc 60) : decode c pc = .ok (.istore_n 1, 1) := dk_1 rfl h0 rfl
theorem dq_155 {c : ByteArray} {pc : Nat} {b0 b1 : Nat} {v : Int} (h0 : hz_at c pc 155) (h1 : hz_at c (pc + 1) b0) (h2 : hz_at c (pc + 2) b1) (e : Reader.signed 16 (b0 * 256 + b1) = v) : decode c pc = .ok (.ifCond .lt v, 3) := dk_s2 (fun v => .ifCond .lt v) rfl h0 h1 h2 rfl e
theorem dq_190 {c : ByteArray} {pc : Nat} (h0 : hz_at c pc 190) : decode c pc = .ok (.arraylength, 1) := dk_1 rfl h0 rfl
theorem dq_156 {c : ByteArray} {pc : Nat} {b0 b1 : Nat} {v : Int} (h0 : hz_at c pc 156) (h1 : hz_at c (pc + 1) b0) (h2 : hz_at c (pc + 2) b1) (e : Reader.signed 16 (b0 * 256 + b1) = v) : decode c pc = .ok (.ifCond .ge v, 3) := dk_s2 (fun v => .ifCond .ge v) rfl h0 h1 h2 rfl e
theorem dq_92 {c : ByteArray} {pc : Nat} (h0 : hz_at c pc 92) : decode c pc = .ok (.dup2, 1) := dk_1 rfl h0 rfl
theorem dq_189 {c : ByteArray} {pc : Nat} {b0 b1 v : Nat} (h0 : hz_at c pc 189) (h1 : hz_at c (pc + 1) b0) (h2 : hz_at c (pc + 2) b1) (e : b0 * 256 + b1 = v) : decode c pc = .ok (.anewarray v, 3) := dk_u2 (fun v => .anewarray v) rfl h0 h1 h2 rfl e
theorem dq_50 {c : ByteArray} {pc : Nat} (h0 : hz_at c pc 50) : decode c pc = .ok (.aaload, 1) := dk_1 rfl h0 rfl
theorem dq_166 {c : ByteArray} {pc : Nat} {b0 b1 : Nat} {v : Int} (h0 : hz_at c pc 166) (h1 : hz_at c (pc + 1) b0) (h2 : hz_at c (pc + 2) b1) (e : Reader.signed 16 (b0 * 256 + b1) = v) : decode c pc = .ok (.if_acmp .ne v, 3) := dk_s2 (fun v => .if_acmp .ne v) rfl h0 h1 h2 rfl e
theorem dq_83 {c : ByteArray} {pc : Nat} (h0 : hz_at c pc 83) : decode c pc = .ok (.aastore, 1) := dk_1 rfl h0 rfl
theorem dq_77 {c : ByteArray} {pc : Nat} (h0 : hz_at c pc 77) : decode c pc = .ok (.astore_n 2, 1) := dk_1 rfl h0 rfl
theorem dq_187 {c : ByteArray} {pc : Nat} {b0 b1 v : Nat} (h0 : hz_at c pc 187) (h1 : hz_at c (pc + 1) b0) (h2 : hz_at c (pc + 2) b1) (e : b0 * 256 + b1 = v) : decode c pc = .ok (.new v, 3) := dk_u2 (fun v => .new v) rfl h0 h1 h2 rfl e
theorem dq_145 {c : ByteArray} {pc : Nat} (h0 : hz_at c pc 145) : decode c pc = .ok (.i2b, 1) := dk_1 rfl h0 rfl
theorem dq_78 {c : ByteArray} {pc : Nat} (h0 : hz_at c pc 78) : decode c pc = .ok (.astore_n 3, 1) := dk_1 rfl h0 rfl
theorem dq_176 {c : ByteArray} {pc : Nat} (h0 : hz_at c pc 176) : decode c pc = .ok (.areturn, 1) := dk_1 rfl h0 rfl
theorem dq_58 {c : ByteArray} {pc : Nat} {b : Nat} (h0 : hz_at c pc 58) (h1 : hz_at c (pc + 1) b) : decode c pc = .ok (.astore b, 2) := dk_b rfl h0 h1 rfl rfl
theorem dq_198 {c : ByteArray} {pc : Nat} {b0 b1 : Nat} {v : Int} (h0 : hz_at c pc 198) (h1 : hz_at c (pc + 1) b0) (h2 : hz_at c (pc + 2) b1) (e : Reader.signed 16 (b0 * 256 + b1) = v) : decode c pc = .ok (.ifnull v, 3) := dk_s2 (fun v => .ifnull v) rfl h0 h1 h2 rfl e
theorem dq_112 {c : ByteArray} {pc : Nat} (h0 : hz_at c pc 112) : decode c pc = .ok (.irem, 1) := dk_1 rfl h0 rfl
theorem dq_199 {c : ByteArray} {pc : Nat} {b0 b1 : Nat} {v : Int} (h0 : hz_at c pc 199) (h1 : hz_at c (pc + 1) b0) (h2 : hz_at c (pc + 2) b1) (e : Reader.signed 16 (b0 * 256 + b1) = v) : decode c pc = .ok (.ifnonnull v, 3) := dk_s2 (fun v => .ifnonnull v) rfl h0 h1 h2 rfl e
theorem dq_87 {c : ByteArray} {pc : Nat} (h0 : hz_at c pc 87) : decode c pc = .ok (.pop, 1) := dk_1 rfl h0 rfl
theorem dq_9 {c : ByteArray} {pc : Nat} (h0 : hz_at c pc 9) : decode c pc = .ok (.lconst 0, 1) := dk_1 rfl h0 rfl
theorem dq_65 {c : ByteArray} {pc : Nat} (h0 : hz_at c pc 65) : decode c pc = .ok (.lstore_n 2, 1) := dk_1 rfl h0 rfl
theorem dq_10 {c : ByteArray} {pc : Nat} (h0 : hz_at c pc 10) : decode c pc = .ok (.lconst 1, 1) := dk_1 rfl h0 rfl
theorem dq_55 {c : ByteArray} {pc : Nat} {b : Nat} (h0 : hz_at c pc 55) (h1 : hz_at c (pc + 1) b) : decode c pc = .ok (.lstore b, 2) := dk_b rfl h0 h1 rfl rfl
theorem dq_32 {c : ByteArray} {pc : Nat} (h0 : hz_at c pc 32) : decode c pc = .ok (.lload_n 2, 1) := dk_1 rfl h0 rfl
theorem dq_22 {c : ByteArray} {pc : Nat} {b : Nat} (h0 : hz_at c pc 22) (h1 : hz_at c (pc + 1) b) : decode c pc = .ok (.lload b, 2) := dk_b rfl h0 h1 rfl rfl
theorem dq_97 {c : ByteArray} {pc : Nat} (h0 : hz_at c pc 97) : decode c pc = .ok (.ladd, 1) := dk_1 rfl h0 rfl
theorem dq_133 {c : ByteArray} {pc : Nat} (h0 : hz_at c pc 133) : decode c pc = .ok (.i2l, 1) := dk_1 rfl h0 rfl
theorem dq_105 {c : ByteArray} {pc : Nat} (h0 : hz_at c pc 105) : decode c pc = .ok (.lmul, 1) := dk_1 rfl h0 rfl
theorem dq_109 {c : ByteArray} {pc : Nat} (h0 : hz_at c pc 109) : decode c pc = .ok (.ldiv, 1) := dk_1 rfl h0 rfl
theorem dq_121 {c : ByteArray} {pc : Nat} (h0 : hz_at c pc 121) : decode c pc = .ok (.lshl, 1) := dk_1 rfl h0 rfl
theorem dq_20 {c : ByteArray} {pc : Nat} {b0 b1 v : Nat} (h0 : hz_at c pc 20) (h1 : hz_at c (pc + 1) b0) (h2 : hz_at c (pc + 2) b1) (e : b0 * 256 + b1 = v) : decode c pc = .ok (.ldc2_w v, 3) := dk_u2 (fun v => .ldc2_w v) rfl h0 h1 h2 rfl e
theorem dq_148 {c : ByteArray} {pc : Nat} (h0 : hz_at c pc 148) : decode c pc = .ok (.lcmp, 1) := dk_1 rfl h0 rfl
theorem dq_157 {c : ByteArray} {pc : Nat} {b0 b1 : Nat} {v : Int} (h0 : hz_at c pc 157) (h1 : hz_at c (pc + 1) b0) (h2 : hz_at c (pc + 2) b1) (e : Reader.signed 16 (b0 * 256 + b1) = v) : decode c pc = .ok (.ifCond .gt v, 3) := dk_s2 (fun v => .ifCond .gt v) rfl h0 h1 h2 rfl e
theorem dq_19 {c : ByteArray} {pc : Nat} {b0 b1 v : Nat} (h0 : hz_at c pc 19) (h1 : hz_at c (pc + 1) b0) (h2 : hz_at c (pc + 2) b1) (e : b0 * 256 + b1 = v) : decode c pc = .ok (.ldc_w v, 3) := dk_u2 (fun v => .ldc_w v) rfl h0 h1 h2 rfl e
theorem dq_80 {c : ByteArray} {pc : Nat} (h0 : hz_at c pc 80) : decode c pc = .ok (.lastore, 1) := dk_1 rfl h0 rfl
theorem dq_47 {c : ByteArray} {pc : Nat} (h0 : hz_at c pc 47) : decode c pc = .ok (.laload, 1) := dk_1 rfl h0 rfl
theorem dq_66 {c : ByteArray} {pc : Nat} (h0 : hz_at c pc 66) : decode c pc = .ok (.lstore_n 3, 1) := dk_1 rfl h0 rfl
theorem dq_33 {c : ByteArray} {pc : Nat} (h0 : hz_at c pc 33) : decode c pc = .ok (.lload_n 3, 1) := dk_1 rfl h0 rfl
theorem dq_76 {c : ByteArray} {pc : Nat} (h0 : hz_at c pc 76) : decode c pc = .ok (.astore_n 1, 1) := dk_1 rfl h0 rfl
/-! THE BYTES AS A NUMBER -/
/-! A CODE'S BYTES as one number: byte p is N / 256 ^ p % 256 -/
def hz_N : List Nat → Nat
  | [] => 0
  | b :: l => b + 256 * hz_N l
def hz_cd (c : ByteArray) (N len : Nat) : Prop := c.data.toList.length = len ∧ hz_N (c.data.toList.map UInt8.toNat) = N
theorem hz_Ng : ∀ (l : List Nat) (p : Nat), (∀ b ∈ l, b < 256) → hz_N l / 256 ^ p = hz_N (l.drop p)
  | l, 0, _ => by rw [Nat.pow_zero, Nat.div_one]; rfl
  | [], p + 1, _ => by rw [List.drop_nil]; show 0 / _ = 0; exact Nat.zero_div _
  | b :: l, p + 1, h => by
    have hb : b < 256 := h b (List.mem_cons_self ..)
    have e : hz_N (b :: l) / 256 = hz_N l := by show (b + 256 * hz_N l) / 256 = _; omega
    rw [Nat.pow_succ, Nat.mul_comm, ← Nat.div_div_eq_div_mul, e]
    exact hz_Ng l p (fun x hx => h x (List.mem_cons_of_mem _ hx))
theorem hz_Nm : ∀ (l : List Nat), (∀ b ∈ l, b < 256) → 0 < l.length → l[0]? = some (hz_N l % 256)
  | [], _, h => absurd h (Nat.lt_irrefl 0)
  | b :: l, h, _ => by
    have hb : b < 256 := h b (List.mem_cons_self ..)
    show some b = some ((b + 256 * hz_N l) % 256)
    rw [show (b + 256 * hz_N l) % 256 = b by omega]
theorem hz_Nb {c : ByteArray} {N len p n : Nat} (w : hz_cd c N len) (hp : p < len) (e : N / 256 ^ p % 256 = n) : hz_at c p n := by
  obtain ⟨w1, w2⟩ := w
  have hl : ∀ b ∈ c.data.toList.map UInt8.toNat, b < 256 := fun b hb => by
    obtain ⟨x, _, rfl⟩ := List.mem_map.mp hb
    exact x.toNat_lt
  have e2 : (c.data.toList.map UInt8.toNat)[p]? = some n := by
    have h1 := hz_Nm ((c.data.toList.map UInt8.toNat).drop p) (fun b hb => hl b (List.mem_of_mem_drop hb)) (by rw [List.length_drop, List.length_map]; omega)
    rw [List.getElem?_drop, ← hz_Ng _ _ hl, w2, e] at h1
    exact h1
  rw [List.getElem?_map, Option.map_eq_some_iff] at e2
  obtain ⟨b, e3, e4⟩ := e2
  rw [Array.getElem?_toList] at e3
  obtain ⟨h5, h6⟩ := Array.getElem?_eq_some_iff.mp e3
  exact ⟨h5, by rw [← e4, ← h6]; rfl⟩
def hz_t (N len p n k v : Nat) : Bool := and (Nat.ble (Nat.add p n) len) (Nat.beq (Nat.mod (Nat.shiftRight N (Nat.mul 8 p)) k) v)
theorem hz_tp {N len p n k v : Nat} (h : hz_t N len p n k v = true) : p + n ≤ len ∧ N / 256 ^ p % k = v := by
  unfold hz_t at h
  rw [Bool.and_eq_true] at h
  refine ⟨Nat.le_of_ble_eq_true h.1, ?_⟩
  have h2 := Nat.eq_of_beq_eq_true h.2
  rw [← h2]
  show N / 256 ^ p % k = (N >>> (8 * p)) % k
  rw [Nat.shiftRight_eq_div_pow, Nat.pow_mul]
theorem hz_T1 {c : ByteArray} {N len p a : Nat} (w : hz_cd c N len) (h : hz_t N len p 1 256 a = true) : hz_at c p a := by
  obtain ⟨h1, h2⟩ := hz_tp h
  exact hz_Nb w (by omega) h2
theorem hz_pd (N p k : Nat) : N / 256 ^ (p + k) = N / 256 ^ p / 256 ^ k := by rw [Nat.pow_add, Nat.div_div_eq_div_mul]
theorem hz_T2 {c : ByteArray} {N len p v : Nat} (w : hz_cd c N len) (h : hz_t N len p 2 65536 v = true) : hz_at c p (v % 256) ∧ hz_at c (p + 1) (v / 256) := by
  obtain ⟨h1, h2⟩ := hz_tp h
  refine ⟨hz_Nb w (by omega) (by omega), hz_Nb w (by omega) ?_⟩
  rw [hz_pd, Nat.pow_one]; omega
theorem hz_T3 {c : ByteArray} {N len p v : Nat} (w : hz_cd c N len) (h : hz_t N len p 3 16777216 v = true) : hz_at c p (v % 256) ∧ hz_at c (p + 1) (v / 256 % 256) ∧ hz_at c (p + 2) (v / 65536) := by
  obtain ⟨h1, h2⟩ := hz_tp h
  refine ⟨hz_Nb w (by omega) (by omega), hz_Nb w (by omega) ?_, hz_Nb w (by omega) ?_⟩
  · rw [hz_pd, Nat.pow_one]; omega
  · rw [hz_pd, show (256 : Nat) ^ 2 = 65536 from rfl]; omega
theorem hz_W1 {c : ByteArray} {N len p a : Nat} (w : hz_cd c N len) (h : hz_t N len p 1 256 a = true) : hz_at c p a := hz_T1 w h
def hz_t2 (N len p a b : Nat) : Bool := and (Nat.ble a 255) (hz_t N len p 2 65536 (Nat.add a (Nat.mul 256 b)))
def hz_t3 (N len p a b0 b1 : Nat) : Bool := and (Nat.ble a 255) (and (Nat.ble b0 255) (hz_t N len p 3 16777216 (Nat.add a (Nat.add (Nat.mul 256 b0) (Nat.mul 65536 b1)))))
theorem hz_W2 {c : ByteArray} {N len p a b : Nat} (w : hz_cd c N len) (h : hz_t2 N len p a b = true) : hz_at c p a ∧ hz_at c (p + 1) b := by
  unfold hz_t2 at h
  rw [Bool.and_eq_true] at h
  have h1 := Nat.le_of_ble_eq_true h.1
  obtain ⟨h2, h3⟩ := hz_T2 w h.2
  have e1 : (Nat.add a (Nat.mul 256 b)) % 256 = a := by show (a + 256 * b) % 256 = a; omega
  have e2 : (Nat.add a (Nat.mul 256 b)) / 256 = b := by show (a + 256 * b) / 256 = b; omega
  rw [e1] at h2; rw [e2] at h3
  exact ⟨h2, h3⟩
theorem hz_W3 {c : ByteArray} {N len p a b0 b1 : Nat} (w : hz_cd c N len) (h : hz_t3 N len p a b0 b1 = true) : hz_at c p a ∧ hz_at c (p + 1) b0 ∧ hz_at c (p + 2) b1 := by
  unfold hz_t3 at h
  rw [Bool.and_eq_true, Bool.and_eq_true] at h
  have h1 := Nat.le_of_ble_eq_true h.1
  have h0 := Nat.le_of_ble_eq_true h.2.1
  obtain ⟨h2, h3, h4⟩ := hz_T3 w h.2.2
  have e0 : Nat.add a (Nat.add (Nat.mul 256 b0) (Nat.mul 65536 b1)) = a + (256 * b0 + 65536 * b1) := rfl
  rw [e0] at h2 h3 h4
  rw [show (a + (256 * b0 + 65536 * b1)) % 256 = a by omega] at h2
  rw [show (a + (256 * b0 + 65536 * b1)) / 256 % 256 = b0 by omega] at h3
  rw [show (a + (256 * b0 + 65536 * b1)) / 65536 = b1 by omega] at h4
  exact ⟨h2, h3, h4⟩
theorem hz_s8 {b : Nat} {v : Int} (h : Nat.ble b 127 = true) (e : Int.ofNat b = v) : Reader.signed 8 b = v := by
  have h1 := Nat.le_of_ble_eq_true h
  rw [← e]; unfold Reader.signed; rw [if_pos (by show b < 2 ^ 7; omega)]; rfl
theorem hz_s16 {b0 b1 : Nat} {v : Int} (h : Nat.ble (Nat.add (Nat.mul b0 256) b1) 32767 = true) (e : Int.ofNat (Nat.add (Nat.mul b0 256) b1) = v) : Reader.signed 16 (b0 * 256 + b1) = v := by
  have h1 : b0 * 256 + b1 ≤ 32767 := Nat.le_of_ble_eq_true h
  rw [← e]; unfold Reader.signed; rw [if_pos (by show b0 * 256 + b1 < 2 ^ 15; omega)]; rfl
theorem dw_2 {c : ByteArray} {N len pc : Nat} (w : hz_cd c N len) (h : hz_t N len pc 1 256 2 = true) : decode c pc = .ok (.iconst (-1), 1) := dq_2 (hz_W1 w h)
theorem dw_3 {c : ByteArray} {N len pc : Nat} (w : hz_cd c N len) (h : hz_t N len pc 1 256 3 = true) : decode c pc = .ok (.iconst 0, 1) := dq_3 (hz_W1 w h)
theorem dw_4 {c : ByteArray} {N len pc : Nat} (w : hz_cd c N len) (h : hz_t N len pc 1 256 4 = true) : decode c pc = .ok (.iconst 1, 1) := dq_4 (hz_W1 w h)
theorem dw_5 {c : ByteArray} {N len pc : Nat} (w : hz_cd c N len) (h : hz_t N len pc 1 256 5 = true) : decode c pc = .ok (.iconst 2, 1) := dq_5 (hz_W1 w h)
theorem dw_6 {c : ByteArray} {N len pc : Nat} (w : hz_cd c N len) (h : hz_t N len pc 1 256 6 = true) : decode c pc = .ok (.iconst 3, 1) := dq_6 (hz_W1 w h)
theorem dw_7 {c : ByteArray} {N len pc : Nat} (w : hz_cd c N len) (h : hz_t N len pc 1 256 7 = true) : decode c pc = .ok (.iconst 4, 1) := dq_7 (hz_W1 w h)
theorem dw_8 {c : ByteArray} {N len pc : Nat} (w : hz_cd c N len) (h : hz_t N len pc 1 256 8 = true) : decode c pc = .ok (.iconst 5, 1) := dq_8 (hz_W1 w h)
theorem dw_9 {c : ByteArray} {N len pc : Nat} (w : hz_cd c N len) (h : hz_t N len pc 1 256 9 = true) : decode c pc = .ok (.lconst 0, 1) := dq_9 (hz_W1 w h)
theorem dw_10 {c : ByteArray} {N len pc : Nat} (w : hz_cd c N len) (h : hz_t N len pc 1 256 10 = true) : decode c pc = .ok (.lconst 1, 1) := dq_10 (hz_W1 w h)
theorem dw_16 {c : ByteArray} {N len pc : Nat} {v : Int} (w : hz_cd c N len) (b : Nat) (h : hz_t2 N len pc 16 b = true) (h9 : Nat.ble b 127 = true) (e : Int.ofNat b = v) : decode c pc = .ok (.bipush v, 2) := dq_16 (hz_W2 w h).1 (hz_W2 w h).2 (hz_s8 h9 e)
theorem dn_16 {c : ByteArray} {N len pc : Nat} {v : Int} (w : hz_cd c N len) (b : Nat) (h : hz_t2 N len pc 16 b = true) (e : Reader.signed 8 b = v) : decode c pc = .ok (.bipush v, 2) := dq_16 (hz_W2 w h).1 (hz_W2 w h).2 e
theorem dw_17 {c : ByteArray} {N len pc : Nat} {v : Int} (w : hz_cd c N len) (b0 b1 : Nat) (h : hz_t3 N len pc 17 b0 b1 = true) (h9 : Nat.ble (Nat.add (Nat.mul b0 256) b1) 32767 = true) (e : Int.ofNat (Nat.add (Nat.mul b0 256) b1) = v) : decode c pc = .ok (.sipush v, 3) := dq_17 (hz_W3 w h).1 (hz_W3 w h).2.1 (hz_W3 w h).2.2 (hz_s16 h9 e)
theorem dn_17 {c : ByteArray} {N len pc : Nat} {v : Int} (w : hz_cd c N len) (b0 b1 : Nat) (h : hz_t3 N len pc 17 b0 b1 = true) (e : Reader.signed 16 (b0 * 256 + b1) = v) : decode c pc = .ok (.sipush v, 3) := dq_17 (hz_W3 w h).1 (hz_W3 w h).2.1 (hz_W3 w h).2.2 e
theorem dw_18 {c : ByteArray} {N len pc : Nat} (w : hz_cd c N len) (b : Nat) (h : hz_t2 N len pc 18 b = true) : decode c pc = .ok (.ldc b, 2) := dq_18 (hz_W2 w h).1 (hz_W2 w h).2
theorem dw_19 {c : ByteArray} {N len pc : Nat} {v : Nat} (w : hz_cd c N len) (b0 b1 : Nat) (h : hz_t3 N len pc 19 b0 b1 = true) (e : Nat.add (Nat.mul b0 256) b1 = v) : decode c pc = .ok (.ldc_w v, 3) := dq_19 (hz_W3 w h).1 (hz_W3 w h).2.1 (hz_W3 w h).2.2 e
theorem dw_20 {c : ByteArray} {N len pc : Nat} {v : Nat} (w : hz_cd c N len) (b0 b1 : Nat) (h : hz_t3 N len pc 20 b0 b1 = true) (e : Nat.add (Nat.mul b0 256) b1 = v) : decode c pc = .ok (.ldc2_w v, 3) := dq_20 (hz_W3 w h).1 (hz_W3 w h).2.1 (hz_W3 w h).2.2 e
theorem dw_21 {c : ByteArray} {N len pc : Nat} (w : hz_cd c N len) (b : Nat) (h : hz_t2 N len pc 21 b = true) : decode c pc = .ok (.iload b, 2) := dq_21 (hz_W2 w h).1 (hz_W2 w h).2
theorem dw_22 {c : ByteArray} {N len pc : Nat} (w : hz_cd c N len) (b : Nat) (h : hz_t2 N len pc 22 b = true) : decode c pc = .ok (.lload b, 2) := dq_22 (hz_W2 w h).1 (hz_W2 w h).2
theorem dw_25 {c : ByteArray} {N len pc : Nat} (w : hz_cd c N len) (b : Nat) (h : hz_t2 N len pc 25 b = true) : decode c pc = .ok (.aload b, 2) := dq_25 (hz_W2 w h).1 (hz_W2 w h).2
theorem dw_26 {c : ByteArray} {N len pc : Nat} (w : hz_cd c N len) (h : hz_t N len pc 1 256 26 = true) : decode c pc = .ok (.iload_n 0, 1) := dq_26 (hz_W1 w h)
theorem dw_27 {c : ByteArray} {N len pc : Nat} (w : hz_cd c N len) (h : hz_t N len pc 1 256 27 = true) : decode c pc = .ok (.iload_n 1, 1) := dq_27 (hz_W1 w h)
theorem dw_28 {c : ByteArray} {N len pc : Nat} (w : hz_cd c N len) (h : hz_t N len pc 1 256 28 = true) : decode c pc = .ok (.iload_n 2, 1) := dq_28 (hz_W1 w h)
theorem dw_29 {c : ByteArray} {N len pc : Nat} (w : hz_cd c N len) (h : hz_t N len pc 1 256 29 = true) : decode c pc = .ok (.iload_n 3, 1) := dq_29 (hz_W1 w h)
theorem dw_32 {c : ByteArray} {N len pc : Nat} (w : hz_cd c N len) (h : hz_t N len pc 1 256 32 = true) : decode c pc = .ok (.lload_n 2, 1) := dq_32 (hz_W1 w h)
theorem dw_33 {c : ByteArray} {N len pc : Nat} (w : hz_cd c N len) (h : hz_t N len pc 1 256 33 = true) : decode c pc = .ok (.lload_n 3, 1) := dq_33 (hz_W1 w h)
theorem dw_42 {c : ByteArray} {N len pc : Nat} (w : hz_cd c N len) (h : hz_t N len pc 1 256 42 = true) : decode c pc = .ok (.aload_n 0, 1) := dq_42 (hz_W1 w h)
theorem dw_43 {c : ByteArray} {N len pc : Nat} (w : hz_cd c N len) (h : hz_t N len pc 1 256 43 = true) : decode c pc = .ok (.aload_n 1, 1) := dq_43 (hz_W1 w h)
theorem dw_44 {c : ByteArray} {N len pc : Nat} (w : hz_cd c N len) (h : hz_t N len pc 1 256 44 = true) : decode c pc = .ok (.aload_n 2, 1) := dq_44 (hz_W1 w h)
theorem dw_45 {c : ByteArray} {N len pc : Nat} (w : hz_cd c N len) (h : hz_t N len pc 1 256 45 = true) : decode c pc = .ok (.aload_n 3, 1) := dq_45 (hz_W1 w h)
theorem dw_46 {c : ByteArray} {N len pc : Nat} (w : hz_cd c N len) (h : hz_t N len pc 1 256 46 = true) : decode c pc = .ok (.iaload, 1) := dq_46 (hz_W1 w h)
theorem dw_47 {c : ByteArray} {N len pc : Nat} (w : hz_cd c N len) (h : hz_t N len pc 1 256 47 = true) : decode c pc = .ok (.laload, 1) := dq_47 (hz_W1 w h)
theorem dw_50 {c : ByteArray} {N len pc : Nat} (w : hz_cd c N len) (h : hz_t N len pc 1 256 50 = true) : decode c pc = .ok (.aaload, 1) := dq_50 (hz_W1 w h)
theorem dw_51 {c : ByteArray} {N len pc : Nat} (w : hz_cd c N len) (h : hz_t N len pc 1 256 51 = true) : decode c pc = .ok (.baload, 1) := dq_51 (hz_W1 w h)
theorem dw_54 {c : ByteArray} {N len pc : Nat} (w : hz_cd c N len) (b : Nat) (h : hz_t2 N len pc 54 b = true) : decode c pc = .ok (.istore b, 2) := dq_54 (hz_W2 w h).1 (hz_W2 w h).2
theorem dw_55 {c : ByteArray} {N len pc : Nat} (w : hz_cd c N len) (b : Nat) (h : hz_t2 N len pc 55 b = true) : decode c pc = .ok (.lstore b, 2) := dq_55 (hz_W2 w h).1 (hz_W2 w h).2
theorem dw_58 {c : ByteArray} {N len pc : Nat} (w : hz_cd c N len) (b : Nat) (h : hz_t2 N len pc 58 b = true) : decode c pc = .ok (.astore b, 2) := dq_58 (hz_W2 w h).1 (hz_W2 w h).2
theorem dw_60 {c : ByteArray} {N len pc : Nat} (w : hz_cd c N len) (h : hz_t N len pc 1 256 60 = true) : decode c pc = .ok (.istore_n 1, 1) := dq_60 (hz_W1 w h)
theorem dw_61 {c : ByteArray} {N len pc : Nat} (w : hz_cd c N len) (h : hz_t N len pc 1 256 61 = true) : decode c pc = .ok (.istore_n 2, 1) := dq_61 (hz_W1 w h)
theorem dw_62 {c : ByteArray} {N len pc : Nat} (w : hz_cd c N len) (h : hz_t N len pc 1 256 62 = true) : decode c pc = .ok (.istore_n 3, 1) := dq_62 (hz_W1 w h)
theorem dw_65 {c : ByteArray} {N len pc : Nat} (w : hz_cd c N len) (h : hz_t N len pc 1 256 65 = true) : decode c pc = .ok (.lstore_n 2, 1) := dq_65 (hz_W1 w h)
theorem dw_66 {c : ByteArray} {N len pc : Nat} (w : hz_cd c N len) (h : hz_t N len pc 1 256 66 = true) : decode c pc = .ok (.lstore_n 3, 1) := dq_66 (hz_W1 w h)
theorem dw_76 {c : ByteArray} {N len pc : Nat} (w : hz_cd c N len) (h : hz_t N len pc 1 256 76 = true) : decode c pc = .ok (.astore_n 1, 1) := dq_76 (hz_W1 w h)
theorem dw_77 {c : ByteArray} {N len pc : Nat} (w : hz_cd c N len) (h : hz_t N len pc 1 256 77 = true) : decode c pc = .ok (.astore_n 2, 1) := dq_77 (hz_W1 w h)
theorem dw_78 {c : ByteArray} {N len pc : Nat} (w : hz_cd c N len) (h : hz_t N len pc 1 256 78 = true) : decode c pc = .ok (.astore_n 3, 1) := dq_78 (hz_W1 w h)
theorem dw_79 {c : ByteArray} {N len pc : Nat} (w : hz_cd c N len) (h : hz_t N len pc 1 256 79 = true) : decode c pc = .ok (.iastore, 1) := dq_79 (hz_W1 w h)
theorem dw_80 {c : ByteArray} {N len pc : Nat} (w : hz_cd c N len) (h : hz_t N len pc 1 256 80 = true) : decode c pc = .ok (.lastore, 1) := dq_80 (hz_W1 w h)
theorem dw_83 {c : ByteArray} {N len pc : Nat} (w : hz_cd c N len) (h : hz_t N len pc 1 256 83 = true) : decode c pc = .ok (.aastore, 1) := dq_83 (hz_W1 w h)
theorem dw_84 {c : ByteArray} {N len pc : Nat} (w : hz_cd c N len) (h : hz_t N len pc 1 256 84 = true) : decode c pc = .ok (.bastore, 1) := dq_84 (hz_W1 w h)
theorem dw_87 {c : ByteArray} {N len pc : Nat} (w : hz_cd c N len) (h : hz_t N len pc 1 256 87 = true) : decode c pc = .ok (.pop, 1) := dq_87 (hz_W1 w h)
theorem dw_89 {c : ByteArray} {N len pc : Nat} (w : hz_cd c N len) (h : hz_t N len pc 1 256 89 = true) : decode c pc = .ok (.dup, 1) := dq_89 (hz_W1 w h)
theorem dw_92 {c : ByteArray} {N len pc : Nat} (w : hz_cd c N len) (h : hz_t N len pc 1 256 92 = true) : decode c pc = .ok (.dup2, 1) := dq_92 (hz_W1 w h)
theorem dw_96 {c : ByteArray} {N len pc : Nat} (w : hz_cd c N len) (h : hz_t N len pc 1 256 96 = true) : decode c pc = .ok (.iadd, 1) := dq_96 (hz_W1 w h)
theorem dw_97 {c : ByteArray} {N len pc : Nat} (w : hz_cd c N len) (h : hz_t N len pc 1 256 97 = true) : decode c pc = .ok (.ladd, 1) := dq_97 (hz_W1 w h)
theorem dw_100 {c : ByteArray} {N len pc : Nat} (w : hz_cd c N len) (h : hz_t N len pc 1 256 100 = true) : decode c pc = .ok (.isub, 1) := dq_100 (hz_W1 w h)
theorem dw_104 {c : ByteArray} {N len pc : Nat} (w : hz_cd c N len) (h : hz_t N len pc 1 256 104 = true) : decode c pc = .ok (.imul, 1) := dq_104 (hz_W1 w h)
theorem dw_105 {c : ByteArray} {N len pc : Nat} (w : hz_cd c N len) (h : hz_t N len pc 1 256 105 = true) : decode c pc = .ok (.lmul, 1) := dq_105 (hz_W1 w h)
theorem dw_108 {c : ByteArray} {N len pc : Nat} (w : hz_cd c N len) (h : hz_t N len pc 1 256 108 = true) : decode c pc = .ok (.idiv, 1) := dq_108 (hz_W1 w h)
theorem dw_109 {c : ByteArray} {N len pc : Nat} (w : hz_cd c N len) (h : hz_t N len pc 1 256 109 = true) : decode c pc = .ok (.ldiv, 1) := dq_109 (hz_W1 w h)
theorem dw_112 {c : ByteArray} {N len pc : Nat} (w : hz_cd c N len) (h : hz_t N len pc 1 256 112 = true) : decode c pc = .ok (.irem, 1) := dq_112 (hz_W1 w h)
theorem dw_116 {c : ByteArray} {N len pc : Nat} (w : hz_cd c N len) (h : hz_t N len pc 1 256 116 = true) : decode c pc = .ok (.ineg, 1) := dq_116 (hz_W1 w h)
theorem dw_120 {c : ByteArray} {N len pc : Nat} (w : hz_cd c N len) (h : hz_t N len pc 1 256 120 = true) : decode c pc = .ok (.ishl, 1) := dq_120 (hz_W1 w h)
theorem dw_121 {c : ByteArray} {N len pc : Nat} (w : hz_cd c N len) (h : hz_t N len pc 1 256 121 = true) : decode c pc = .ok (.lshl, 1) := dq_121 (hz_W1 w h)
theorem dw_122 {c : ByteArray} {N len pc : Nat} (w : hz_cd c N len) (h : hz_t N len pc 1 256 122 = true) : decode c pc = .ok (.ishr, 1) := dq_122 (hz_W1 w h)
theorem dw_126 {c : ByteArray} {N len pc : Nat} (w : hz_cd c N len) (h : hz_t N len pc 1 256 126 = true) : decode c pc = .ok (.iand, 1) := dq_126 (hz_W1 w h)
theorem dw_128 {c : ByteArray} {N len pc : Nat} (w : hz_cd c N len) (h : hz_t N len pc 1 256 128 = true) : decode c pc = .ok (.ior, 1) := dq_128 (hz_W1 w h)
theorem dw_130 {c : ByteArray} {N len pc : Nat} (w : hz_cd c N len) (h : hz_t N len pc 1 256 130 = true) : decode c pc = .ok (.ixor, 1) := dq_130 (hz_W1 w h)
theorem dw_132 {c : ByteArray} {N len pc : Nat} {v : Int} (w : hz_cd c N len) (b0 b1 : Nat) (h : hz_t3 N len pc 132 b0 b1 = true) (h9 : Nat.ble b1 127 = true) (e : Int.ofNat b1 = v) : decode c pc = .ok (.iinc b0 v, 3) := dq_132 (hz_W3 w h).1 (hz_W3 w h).2.1 (hz_W3 w h).2.2 (hz_s8 h9 e)
theorem dn_132 {c : ByteArray} {N len pc : Nat} {v : Int} (w : hz_cd c N len) (b0 b1 : Nat) (h : hz_t3 N len pc 132 b0 b1 = true) (e : Reader.signed 8 b1 = v) : decode c pc = .ok (.iinc b0 v, 3) := dq_132 (hz_W3 w h).1 (hz_W3 w h).2.1 (hz_W3 w h).2.2 e
theorem dw_133 {c : ByteArray} {N len pc : Nat} (w : hz_cd c N len) (h : hz_t N len pc 1 256 133 = true) : decode c pc = .ok (.i2l, 1) := dq_133 (hz_W1 w h)
theorem dw_145 {c : ByteArray} {N len pc : Nat} (w : hz_cd c N len) (h : hz_t N len pc 1 256 145 = true) : decode c pc = .ok (.i2b, 1) := dq_145 (hz_W1 w h)
theorem dw_148 {c : ByteArray} {N len pc : Nat} (w : hz_cd c N len) (h : hz_t N len pc 1 256 148 = true) : decode c pc = .ok (.lcmp, 1) := dq_148 (hz_W1 w h)
theorem dw_153 {c : ByteArray} {N len pc : Nat} {v : Int} (w : hz_cd c N len) (b0 b1 : Nat) (h : hz_t3 N len pc 153 b0 b1 = true) (h9 : Nat.ble (Nat.add (Nat.mul b0 256) b1) 32767 = true) (e : Int.ofNat (Nat.add (Nat.mul b0 256) b1) = v) : decode c pc = .ok (.ifCond .eq v, 3) := dq_153 (hz_W3 w h).1 (hz_W3 w h).2.1 (hz_W3 w h).2.2 (hz_s16 h9 e)
theorem dn_153 {c : ByteArray} {N len pc : Nat} {v : Int} (w : hz_cd c N len) (b0 b1 : Nat) (h : hz_t3 N len pc 153 b0 b1 = true) (e : Reader.signed 16 (b0 * 256 + b1) = v) : decode c pc = .ok (.ifCond .eq v, 3) := dq_153 (hz_W3 w h).1 (hz_W3 w h).2.1 (hz_W3 w h).2.2 e
theorem dw_154 {c : ByteArray} {N len pc : Nat} {v : Int} (w : hz_cd c N len) (b0 b1 : Nat) (h : hz_t3 N len pc 154 b0 b1 = true) (h9 : Nat.ble (Nat.add (Nat.mul b0 256) b1) 32767 = true) (e : Int.ofNat (Nat.add (Nat.mul b0 256) b1) = v) : decode c pc = .ok (.ifCond .ne v, 3) := dq_154 (hz_W3 w h).1 (hz_W3 w h).2.1 (hz_W3 w h).2.2 (hz_s16 h9 e)
theorem dw_155 {c : ByteArray} {N len pc : Nat} {v : Int} (w : hz_cd c N len) (b0 b1 : Nat) (h : hz_t3 N len pc 155 b0 b1 = true) (h9 : Nat.ble (Nat.add (Nat.mul b0 256) b1) 32767 = true) (e : Int.ofNat (Nat.add (Nat.mul b0 256) b1) = v) : decode c pc = .ok (.ifCond .lt v, 3) := dq_155 (hz_W3 w h).1 (hz_W3 w h).2.1 (hz_W3 w h).2.2 (hz_s16 h9 e)
theorem dw_156 {c : ByteArray} {N len pc : Nat} {v : Int} (w : hz_cd c N len) (b0 b1 : Nat) (h : hz_t3 N len pc 156 b0 b1 = true) (h9 : Nat.ble (Nat.add (Nat.mul b0 256) b1) 32767 = true) (e : Int.ofNat (Nat.add (Nat.mul b0 256) b1) = v) : decode c pc = .ok (.ifCond .ge v, 3) := dq_156 (hz_W3 w h).1 (hz_W3 w h).2.1 (hz_W3 w h).2.2 (hz_s16 h9 e)
theorem dw_157 {c : ByteArray} {N len pc : Nat} {v : Int} (w : hz_cd c N len) (b0 b1 : Nat) (h : hz_t3 N len pc 157 b0 b1 = true) (h9 : Nat.ble (Nat.add (Nat.mul b0 256) b1) 32767 = true) (e : Int.ofNat (Nat.add (Nat.mul b0 256) b1) = v) : decode c pc = .ok (.ifCond .gt v, 3) := dq_157 (hz_W3 w h).1 (hz_W3 w h).2.1 (hz_W3 w h).2.2 (hz_s16 h9 e)
theorem dw_158 {c : ByteArray} {N len pc : Nat} {v : Int} (w : hz_cd c N len) (b0 b1 : Nat) (h : hz_t3 N len pc 158 b0 b1 = true) (h9 : Nat.ble (Nat.add (Nat.mul b0 256) b1) 32767 = true) (e : Int.ofNat (Nat.add (Nat.mul b0 256) b1) = v) : decode c pc = .ok (.ifCond .le v, 3) := dq_158 (hz_W3 w h).1 (hz_W3 w h).2.1 (hz_W3 w h).2.2 (hz_s16 h9 e)
theorem dw_159 {c : ByteArray} {N len pc : Nat} {v : Int} (w : hz_cd c N len) (b0 b1 : Nat) (h : hz_t3 N len pc 159 b0 b1 = true) (h9 : Nat.ble (Nat.add (Nat.mul b0 256) b1) 32767 = true) (e : Int.ofNat (Nat.add (Nat.mul b0 256) b1) = v) : decode c pc = .ok (.if_icmp .eq v, 3) := dq_159 (hz_W3 w h).1 (hz_W3 w h).2.1 (hz_W3 w h).2.2 (hz_s16 h9 e)
theorem dw_160 {c : ByteArray} {N len pc : Nat} {v : Int} (w : hz_cd c N len) (b0 b1 : Nat) (h : hz_t3 N len pc 160 b0 b1 = true) (h9 : Nat.ble (Nat.add (Nat.mul b0 256) b1) 32767 = true) (e : Int.ofNat (Nat.add (Nat.mul b0 256) b1) = v) : decode c pc = .ok (.if_icmp .ne v, 3) := dq_160 (hz_W3 w h).1 (hz_W3 w h).2.1 (hz_W3 w h).2.2 (hz_s16 h9 e)
theorem dn_160 {c : ByteArray} {N len pc : Nat} {v : Int} (w : hz_cd c N len) (b0 b1 : Nat) (h : hz_t3 N len pc 160 b0 b1 = true) (e : Reader.signed 16 (b0 * 256 + b1) = v) : decode c pc = .ok (.if_icmp .ne v, 3) := dq_160 (hz_W3 w h).1 (hz_W3 w h).2.1 (hz_W3 w h).2.2 e
theorem dw_161 {c : ByteArray} {N len pc : Nat} {v : Int} (w : hz_cd c N len) (b0 b1 : Nat) (h : hz_t3 N len pc 161 b0 b1 = true) (h9 : Nat.ble (Nat.add (Nat.mul b0 256) b1) 32767 = true) (e : Int.ofNat (Nat.add (Nat.mul b0 256) b1) = v) : decode c pc = .ok (.if_icmp .lt v, 3) := dq_161 (hz_W3 w h).1 (hz_W3 w h).2.1 (hz_W3 w h).2.2 (hz_s16 h9 e)
theorem dw_162 {c : ByteArray} {N len pc : Nat} {v : Int} (w : hz_cd c N len) (b0 b1 : Nat) (h : hz_t3 N len pc 162 b0 b1 = true) (h9 : Nat.ble (Nat.add (Nat.mul b0 256) b1) 32767 = true) (e : Int.ofNat (Nat.add (Nat.mul b0 256) b1) = v) : decode c pc = .ok (.if_icmp .ge v, 3) := dq_162 (hz_W3 w h).1 (hz_W3 w h).2.1 (hz_W3 w h).2.2 (hz_s16 h9 e)
theorem dw_163 {c : ByteArray} {N len pc : Nat} {v : Int} (w : hz_cd c N len) (b0 b1 : Nat) (h : hz_t3 N len pc 163 b0 b1 = true) (h9 : Nat.ble (Nat.add (Nat.mul b0 256) b1) 32767 = true) (e : Int.ofNat (Nat.add (Nat.mul b0 256) b1) = v) : decode c pc = .ok (.if_icmp .gt v, 3) := dq_163 (hz_W3 w h).1 (hz_W3 w h).2.1 (hz_W3 w h).2.2 (hz_s16 h9 e)
theorem dw_164 {c : ByteArray} {N len pc : Nat} {v : Int} (w : hz_cd c N len) (b0 b1 : Nat) (h : hz_t3 N len pc 164 b0 b1 = true) (h9 : Nat.ble (Nat.add (Nat.mul b0 256) b1) 32767 = true) (e : Int.ofNat (Nat.add (Nat.mul b0 256) b1) = v) : decode c pc = .ok (.if_icmp .le v, 3) := dq_164 (hz_W3 w h).1 (hz_W3 w h).2.1 (hz_W3 w h).2.2 (hz_s16 h9 e)
theorem dw_166 {c : ByteArray} {N len pc : Nat} {v : Int} (w : hz_cd c N len) (b0 b1 : Nat) (h : hz_t3 N len pc 166 b0 b1 = true) (h9 : Nat.ble (Nat.add (Nat.mul b0 256) b1) 32767 = true) (e : Int.ofNat (Nat.add (Nat.mul b0 256) b1) = v) : decode c pc = .ok (.if_acmp .ne v, 3) := dq_166 (hz_W3 w h).1 (hz_W3 w h).2.1 (hz_W3 w h).2.2 (hz_s16 h9 e)
theorem dw_167 {c : ByteArray} {N len pc : Nat} {v : Int} (w : hz_cd c N len) (b0 b1 : Nat) (h : hz_t3 N len pc 167 b0 b1 = true) (h9 : Nat.ble (Nat.add (Nat.mul b0 256) b1) 32767 = true) (e : Int.ofNat (Nat.add (Nat.mul b0 256) b1) = v) : decode c pc = .ok (.goto v, 3) := dq_167 (hz_W3 w h).1 (hz_W3 w h).2.1 (hz_W3 w h).2.2 (hz_s16 h9 e)
theorem dn_167 {c : ByteArray} {N len pc : Nat} {v : Int} (w : hz_cd c N len) (b0 b1 : Nat) (h : hz_t3 N len pc 167 b0 b1 = true) (e : Reader.signed 16 (b0 * 256 + b1) = v) : decode c pc = .ok (.goto v, 3) := dq_167 (hz_W3 w h).1 (hz_W3 w h).2.1 (hz_W3 w h).2.2 e
theorem dw_172 {c : ByteArray} {N len pc : Nat} (w : hz_cd c N len) (h : hz_t N len pc 1 256 172 = true) : decode c pc = .ok (.ireturn, 1) := dq_172 (hz_W1 w h)
theorem dw_176 {c : ByteArray} {N len pc : Nat} (w : hz_cd c N len) (h : hz_t N len pc 1 256 176 = true) : decode c pc = .ok (.areturn, 1) := dq_176 (hz_W1 w h)
theorem dw_177 {c : ByteArray} {N len pc : Nat} (w : hz_cd c N len) (h : hz_t N len pc 1 256 177 = true) : decode c pc = .ok (.return_, 1) := dq_177 (hz_W1 w h)
theorem dw_178 {c : ByteArray} {N len pc : Nat} {v : Nat} (w : hz_cd c N len) (b0 b1 : Nat) (h : hz_t3 N len pc 178 b0 b1 = true) (e : Nat.add (Nat.mul b0 256) b1 = v) : decode c pc = .ok (.getstatic v, 3) := dq_178 (hz_W3 w h).1 (hz_W3 w h).2.1 (hz_W3 w h).2.2 e
theorem dw_180 {c : ByteArray} {N len pc : Nat} {v : Nat} (w : hz_cd c N len) (b0 b1 : Nat) (h : hz_t3 N len pc 180 b0 b1 = true) (e : Nat.add (Nat.mul b0 256) b1 = v) : decode c pc = .ok (.getfield v, 3) := dq_180 (hz_W3 w h).1 (hz_W3 w h).2.1 (hz_W3 w h).2.2 e
theorem dw_181 {c : ByteArray} {N len pc : Nat} {v : Nat} (w : hz_cd c N len) (b0 b1 : Nat) (h : hz_t3 N len pc 181 b0 b1 = true) (e : Nat.add (Nat.mul b0 256) b1 = v) : decode c pc = .ok (.putfield v, 3) := dq_181 (hz_W3 w h).1 (hz_W3 w h).2.1 (hz_W3 w h).2.2 e
theorem dw_182 {c : ByteArray} {N len pc : Nat} {v : Nat} (w : hz_cd c N len) (b0 b1 : Nat) (h : hz_t3 N len pc 182 b0 b1 = true) (e : Nat.add (Nat.mul b0 256) b1 = v) : decode c pc = .ok (.invokevirtual v, 3) := dq_182 (hz_W3 w h).1 (hz_W3 w h).2.1 (hz_W3 w h).2.2 e
theorem dw_183 {c : ByteArray} {N len pc : Nat} {v : Nat} (w : hz_cd c N len) (b0 b1 : Nat) (h : hz_t3 N len pc 183 b0 b1 = true) (e : Nat.add (Nat.mul b0 256) b1 = v) : decode c pc = .ok (.invokespecial v, 3) := dq_183 (hz_W3 w h).1 (hz_W3 w h).2.1 (hz_W3 w h).2.2 e
theorem dw_184 {c : ByteArray} {N len pc : Nat} {v : Nat} (w : hz_cd c N len) (b0 b1 : Nat) (h : hz_t3 N len pc 184 b0 b1 = true) (e : Nat.add (Nat.mul b0 256) b1 = v) : decode c pc = .ok (.invokestatic v, 3) := dq_184 (hz_W3 w h).1 (hz_W3 w h).2.1 (hz_W3 w h).2.2 e
theorem dw_187 {c : ByteArray} {N len pc : Nat} {v : Nat} (w : hz_cd c N len) (b0 b1 : Nat) (h : hz_t3 N len pc 187 b0 b1 = true) (e : Nat.add (Nat.mul b0 256) b1 = v) : decode c pc = .ok (.new v, 3) := dq_187 (hz_W3 w h).1 (hz_W3 w h).2.1 (hz_W3 w h).2.2 e
theorem dw_189 {c : ByteArray} {N len pc : Nat} {v : Nat} (w : hz_cd c N len) (b0 b1 : Nat) (h : hz_t3 N len pc 189 b0 b1 = true) (e : Nat.add (Nat.mul b0 256) b1 = v) : decode c pc = .ok (.anewarray v, 3) := dq_189 (hz_W3 w h).1 (hz_W3 w h).2.1 (hz_W3 w h).2.2 e
theorem dw_190 {c : ByteArray} {N len pc : Nat} (w : hz_cd c N len) (h : hz_t N len pc 1 256 190 = true) : decode c pc = .ok (.arraylength, 1) := dq_190 (hz_W1 w h)
theorem dw_198 {c : ByteArray} {N len pc : Nat} {v : Int} (w : hz_cd c N len) (b0 b1 : Nat) (h : hz_t3 N len pc 198 b0 b1 = true) (h9 : Nat.ble (Nat.add (Nat.mul b0 256) b1) 32767 = true) (e : Int.ofNat (Nat.add (Nat.mul b0 256) b1) = v) : decode c pc = .ok (.ifnull v, 3) := dq_198 (hz_W3 w h).1 (hz_W3 w h).2.1 (hz_W3 w h).2.2 (hz_s16 h9 e)
theorem dw_199 {c : ByteArray} {N len pc : Nat} {v : Int} (w : hz_cd c N len) (b0 b1 : Nat) (h : hz_t3 N len pc 199 b0 b1 = true) (h9 : Nat.ble (Nat.add (Nat.mul b0 256) b1) 32767 = true) (e : Int.ofNat (Nat.add (Nat.mul b0 256) b1) = v) : decode c pc = .ok (.ifnonnull v, 3) := dq_199 (hz_W3 w h).1 (hz_W3 w h).2.1 (hz_W3 w h).2.2 (hz_s16 h9 e)
end
section
/-! THE STATE: tags, the tables of the classes -/
def P_ty (dA : Nat → ClassId) : hx_y := [(dA 0, .int), (dA 1, .byte), (dA 2, .boolean), (dA 3, .long), (dA 4, .object "SmallCourt$Act"), (dA 5, .object "SmallCourt$Person"), (dA 6, .object "SmallCourt$Claim")]
def P_wo : Nat → Int32 := fun j => match j with | 1 => 480 | 2 => 30 | 3 => 12 | 4 => 60 | 5 => 2 | 6 => 4 | 7 => 1 | 8 => 40 | 9 => 21 | _ => 0
/-! THE STATE, TYPED: the tables with intervals -/
def T_f0 : List hx_f := [.inl (-1, 7), .inl (-1, 7999), .inr (true, [11]), .inr (true, [12]), .inl (0, 160)]
def T_f1 : List hx_f := [.inl (0, 400), .inr (true, [13]), .inr (true, [14]), .inr (true, [15]), .inr (true, [16]), .inr (true, [17]), .inr (true, [18]), .inr (true, [19])]
def T_f2 : List hx_f := [.inl (0, 99), .inr (true, [4]), .inr (true, [4]), .inr (true, [0]), .inr (true, [20]), .inr (true, [21]), .inl (0, 9999), .inl (0, 7999), .inl (0, 7999), .inl (-2147483648, 2147483647), .inl (-1, 7999), .inl (-1, 7999), .inl (0, 5), .inl (-2147483648, 2147483647), .inl (-2147483648, 2147483647), .inl (-2147483648, 2147483647), .inl (-2147483648, 2147483647), .inl (-2147483648, 2147483647), .inl (-2147483648, 2147483647)]
def T_f3 : List hx_f := [.inl (0, 600), .inr (true, [22]), .inr (true, [23]), .inr (true, [24]), .inr (true, [25]), .inr (true, [26])]
def T_f4 : List hx_f := [.inl (0, 39), .inl (-30000, 7999), .inl (-1, 19), .inl (-2147483648, 2147483647), .inl (-2147483648, 2147483647), .inl (-2147483648, 2147483647), .inl (-2147483648, 2147483647), .inl (0, 1), .inl (0, 1), .inl (0, 1)]
def T_f5 : List hx_f := [.inl (0, 4), .inl (0, 4), .inr (true, [27]), .inr (true, [28]), .inr (true, [29]), .inr (true, [30]), .inr (true, [31]), .inr (true, [32]), .inr (true, [33]), .inl (-2147483648, 2147483647), .inl (-2147483648, 2147483647), .inl (-2147483648, 2147483647), .inl (-2147483648, 2147483647)]
def T_f6 : List hx_f := [.inr (true, [34, 42]), .inl (0, 400), .inl (0, 402), .inl (-2147483648, 2147483647), .inl (-2147483648, 2147483647), .inl (-2147483648, 2147483647), .inr (false, [0, 129])]
def T_f7 : List hx_f := [.inl (-1, 100), .inl (0, 4), .inl (-2147483648, 2147483647), .inr (true, [35]), .inl (0, 40), .inr (true, [36]), .inr (true, [37]), .inr (true, [38])]
def T_f8 : List hx_f := [.inl (0, 8), .inl (0, 8), .inr (true, [39]), .inr (true, [40]), .inr (true, [41])]
def T_f9 : List hx_f := [.inr (true, [42]), .inl (0, 400), .inl (0, 7999), .inr (true, [6]), .inr (true, [0]), .inr (true, [43]), .inl (0, 8), .inr (true, [44]), .inl (0, 40), .inr (true, [1]), .inr (true, [45]), .inl (0, 100), .inr (true, [46]), .inl (0, 100), .inr (true, [3]), .inr (true, [47]), .inr (true, [48]), .inr (true, [5]), .inr (true, [7]), .inr (true, [8])]
def T_f10 : List hx_f := [.inl (0, 7999), .inl (0, 8), .inr (true, [49]), .inr (true, [50]), .inr (true, [51]), .inr (true, [52]), .inr (true, [53]), .inl (0, 400), .inl (0, 402), .inl (-2147483648, 2147483647), .inl (0, 9999), .inl (0, 400), .inr (true, [54]), .inl (-2147483648, 2147483647), .inl (0, 128), .inr (true, [55]), .inl (0, 20), .inr (true, [56]), .inl (0, 128), .inr (true, [57]), .inl (0, 40), .inr (true, [58]), .inr (true, [59]), .inr (true, [60]), .inr (true, [61]), .inr (true, [62]), .inr (true, [63]), .inr (true, [64]), .inr (true, [65]), .inl (0, 400), .inr (true, [66]), .inr (true, [67]), .inr (true, [68]), .inr (true, [69]), .inr (true, [70]), .inr (true, [71]), .inl (0, 100), .inr (true, [72]), .inr (true, [73]), .inr (true, [74]), .inr (true, [75]), .inr (true, [76]), .inr (true, [77]), .inr (true, [78]), .inr (true, [79]), .inr (true, [80]), .inr (true, [81]), .inr (true, [82]), .inr (true, [83]), .inr (true, [84]), .inr (true, [85]), .inr (true, [86]), .inr (true, [87]), .inr (true, [88]), .inr (true, [89]), .inr (true, [90]), .inr (true, [91]), .inl (0, 100), .inr (true, [92]), .inl (0, 600), .inr (true, [93]), .inr (true, [94]), .inr (true, [95]), .inr (true, [96]), .inr (true, [97]), .inr (true, [98]), .inr (true, [99]), .inl (0, 366100000), .inl (0, 610000), .inl (-2147483648, 2147483647), .inl (-2147483648, 2147483647), .inl (0, 8), .inl (0, 4), .inr (true, [100]), .inr (true, [101]), .inl (0, 4), .inr (true, [102]), .inr (true, [103]), .inr (true, [104]), .inr (true, [105]), .inr (true, [106]), .inr (true, [107]), .inr (true, [108]), .inl (0, 1), .inl (0, 300), .inr (true, [109]), .inl (-2147483648, 2147483647), .inl (0, 4), .inr (true, [110]), .inr (true, [111]), .inl (0, 8), .inr (true, [112]), .inl (0, 8), .inr (true, [113]), .inr (true, [114]), .inl (0, 60), .inl (0, 60), .inr (true, [115])]
def T_r0 : List hx_f := [.inl (-2147483648, 2147483647), .inl (-2147483648, 2147483647), .inr (false, [11, 127]), .inr (false, [12, 128]), .inl (-2147483648, 2147483647)]
def T_r1 : List hx_f := [.inl (-2147483648, 2147483647), .inr (false, [13]), .inr (false, [14]), .inr (false, [15]), .inr (false, [16]), .inr (false, [17]), .inr (false, [18]), .inr (false, [19])]
def T_r2 : List hx_f := [.inl (-2147483648, 2147483647), .inr (false, [4]), .inr (false, [4]), .inr (false, [0]), .inr (false, [20]), .inr (false, [21]), .inl (-2147483648, 2147483647), .inl (-2147483648, 2147483647), .inl (-2147483648, 2147483647), .inl (-2147483648, 2147483647), .inl (-2147483648, 2147483647), .inl (-2147483648, 2147483647), .inl (-2147483648, 2147483647), .inl (-2147483648, 2147483647), .inl (-2147483648, 2147483647), .inl (-2147483648, 2147483647), .inl (-2147483648, 2147483647), .inl (-2147483648, 2147483647), .inl (-2147483648, 2147483647)]
def T_r3 : List hx_f := [.inl (-2147483648, 2147483647), .inr (false, [22]), .inr (false, [23]), .inr (false, [24]), .inr (false, [25]), .inr (false, [26])]
def T_r4 : List hx_f := [.inl (-2147483648, 2147483647), .inl (-2147483648, 2147483647), .inl (-2147483648, 2147483647), .inl (-2147483648, 2147483647), .inl (-2147483648, 2147483647), .inl (-2147483648, 2147483647), .inl (-2147483648, 2147483647), .inl (-2147483648, 2147483647), .inl (-2147483648, 2147483647), .inl (-2147483648, 2147483647)]
def T_r5 : List hx_f := [.inl (-2147483648, 2147483647), .inl (-2147483648, 2147483647), .inr (false, [27]), .inr (false, [28]), .inr (false, [29]), .inr (false, [30]), .inr (false, [31]), .inr (false, [32]), .inr (false, [33]), .inl (-2147483648, 2147483647), .inl (-2147483648, 2147483647), .inl (-2147483648, 2147483647), .inl (-2147483648, 2147483647)]
def T_r6 : List hx_f := [.inr (false, [34, 42]), .inl (-2147483648, 2147483647), .inl (-2147483648, 2147483647), .inl (-2147483648, 2147483647), .inl (-2147483648, 2147483647), .inl (-2147483648, 2147483647), .inr (false, [0, 129])]
def T_r7 : List hx_f := [.inl (-2147483648, 2147483647), .inl (-2147483648, 2147483647), .inl (-2147483648, 2147483647), .inr (false, [35]), .inl (-2147483648, 2147483647), .inr (false, [36]), .inr (false, [37]), .inr (false, [38])]
def T_r8 : List hx_f := [.inl (-2147483648, 2147483647), .inl (-2147483648, 2147483647), .inr (false, [39]), .inr (false, [40]), .inr (false, [41])]
def T_r9 : List hx_f := [.inr (false, [42]), .inl (-2147483648, 2147483647), .inl (-2147483648, 2147483647), .inr (false, [6]), .inr (false, [0]), .inr (false, [43]), .inl (-2147483648, 2147483647), .inr (false, [44]), .inl (-2147483648, 2147483647), .inr (false, [1]), .inr (false, [45]), .inl (-2147483648, 2147483647), .inr (false, [46]), .inl (-2147483648, 2147483647), .inr (false, [3]), .inr (false, [47]), .inr (false, [48]), .inr (false, [5]), .inr (false, [7]), .inr (false, [8])]
def T_r10 : List hx_f := [.inl (-2147483648, 2147483647), .inl (-2147483648, 2147483647), .inr (false, [49]), .inr (false, [50]), .inr (false, [51]), .inr (false, [52]), .inr (false, [53]), .inl (-2147483648, 2147483647), .inl (-2147483648, 2147483647), .inl (-2147483648, 2147483647), .inl (-2147483648, 2147483647), .inl (-2147483648, 2147483647), .inr (false, [54]), .inl (-2147483648, 2147483647), .inl (-2147483648, 2147483647), .inr (false, [55]), .inl (-2147483648, 2147483647), .inr (false, [56]), .inl (-2147483648, 2147483647), .inr (false, [57]), .inl (-2147483648, 2147483647), .inr (false, [58]), .inr (false, [59]), .inr (false, [60]), .inr (false, [61]), .inr (false, [62]), .inr (false, [63]), .inr (false, [64]), .inr (false, [65]), .inl (-2147483648, 2147483647), .inr (false, [66]), .inr (false, [67]), .inr (false, [68]), .inr (false, [69]), .inr (false, [70]), .inr (false, [71]), .inl (-2147483648, 2147483647), .inr (false, [72]), .inr (false, [73]), .inr (false, [74]), .inr (false, [75]), .inr (false, [76]), .inr (false, [77]), .inr (false, [78]), .inr (false, [79]), .inr (false, [80]), .inr (false, [81]), .inr (false, [82]), .inr (false, [83]), .inr (false, [84]), .inr (false, [85]), .inr (false, [86]), .inr (false, [87]), .inr (false, [88]), .inr (false, [89]), .inr (false, [90]), .inr (false, [91]), .inl (-2147483648, 2147483647), .inr (false, [92]), .inl (-2147483648, 2147483647), .inr (false, [93]), .inr (false, [94]), .inr (false, [95]), .inr (false, [96]), .inr (false, [97]), .inr (false, [98]), .inr (false, [99]), .inl (-2147483648, 2147483647), .inl (-2147483648, 2147483647), .inl (-2147483648, 2147483647), .inl (-2147483648, 2147483647), .inl (-2147483648, 2147483647), .inl (-2147483648, 2147483647), .inr (false, [100]), .inr (false, [101]), .inl (-2147483648, 2147483647), .inr (false, [102]), .inr (false, [103]), .inr (false, [104]), .inr (false, [105]), .inr (false, [106]), .inr (false, [107]), .inr (false, [108]), .inl (-2147483648, 2147483647), .inl (-2147483648, 2147483647), .inr (false, [109]), .inl (-2147483648, 2147483647), .inl (-2147483648, 2147483647), .inr (false, [110]), .inr (false, [111]), .inl (-2147483648, 2147483647), .inr (false, [112]), .inl (-2147483648, 2147483647), .inr (false, [113]), .inr (false, [114]), .inl (-2147483648, 2147483647), .inl (-2147483648, 2147483647), .inr (false, [115])]
def T_a0 : List hx_f := [.inl (-1, 7), .inl (-1, 7999), .inr (true, [11, 127]), .inr (true, [12, 128]), .inl (0, 160)]
def T_tb : List hx_d := [.inl (0, T_f0), .inl (1, T_f1), .inl (2, T_f2), .inl (3, T_f3), .inl (4, T_f4), .inl (5, T_f5), .inl (6, T_f6), .inl (7, T_f7), .inl (8, T_f8), .inl (9, T_f9), .inl (10, T_f10), .inr (0, 14, .inl (-2147483648, 2147483647)), .inr (0, 160, .inl (-2147483648, 2147483647)), .inr (0, 400, .inl (-2147483648, 2147483647)), .inr (0, 400, .inl (-2147483648, 2147483647)), .inr (0, 400, .inl (-2147483648, 2147483647)), .inr (0, 400, .inl (-2147483648, 2147483647)), .inr (0, 400, .inl (-2147483648, 2147483647)), .inr (0, 400, .inl (0, 399)), .inr (2, 400, .inl (0, 1)), .inr (0, 8, .inl (-2147483648, 2147483647)), .inr (0, 3, .inl (-2147483648, 2147483647)), .inr (0, 600, .inl (-2147483648, 2147483647)), .inr (0, 600, .inl (-2147483648, 2147483647)), .inr (0, 600, .inl (-2147483648, 2147483647)), .inr (0, 600, .inl (-2147483648, 2147483647)), .inr (0, 600, .inl (-2147483648, 2147483647)), .inr (0, 4, .inl (-2147483648, 2147483647)), .inr (0, 4, .inl (-2147483648, 2147483647)), .inr (0, 4, .inl (-2147483648, 2147483647)), .inr (0, 4, .inl (-2147483648, 2147483647)), .inr (0, 4, .inl (-2147483648, 2147483647)), .inr (0, 4, .inl (-2147483648, 2147483647)), .inr (0, 4, .inl (-2147483648, 2147483647)), .inr (1, 0, .inl (-128, 127)), .inr (0, 100, .inl (-2147483648, 2147483647)), .inr (0, 1600, .inl (-2147483648, 2147483647)), .inr (0, 4, .inl (0, 39)), .inr (0, 4, .inl (0, 39)), .inr (0, 8, .inl (-2147483648, 2147483647)), .inr (6, 8, .inr (false, [2])), .inr (0, 2048, .inl (-2147483648, 2147483647)), .inr (1, 400, .inl (-128, 127)), .inr (4, 8, .inr (false, [0])), .inr (5, 40, .inr (false, [4])), .inr (6, 100, .inr (false, [2])), .inr (6, 100, .inr (false, [2])), .inr (0, 40, .inl (-2147483648, 2147483647)), .inr (0, 100, .inl (-2147483648, 2147483647)), .inr (0, 9, .inl (-2147483648, 2147483647)), .inr (0, 117, .inl (0, 9999)), .inr (0, 9, .inl (0, 128)), .inr (0, 1152, .inl (-2147483648, 2147483647)), .inr (1, 400, .inl (-128, 127)), .inr (0, 13, .inl (0, 9999)), .inr (0, 128, .inl (-2147483648, 2147483647)), .inr (0, 128, .inl (0, 100)), .inr (1, 175, .inl (-128, 127)), .inr (0, 40, .inl (-30000, 7999)), .inr (0, 40, .inl (0, 9999)), .inr (0, 40, .inl (0, 20)), .inr (0, 40, .inl (0, 99)), .inr (0, 40, .inl (0, 99)), .inr (0, 40, .inl (-1, 19)), .inr (2, 40, .inl (0, 1)), .inr (2, 40, .inl (0, 1)), .inr (0, 400, .inl (-2147483648, 2147483647)), .inr (0, 400, .inl (-2147483648, 2147483647)), .inr (0, 400, .inl (-2147483648, 2147483647)), .inr (0, 400, .inl (-2147483648, 2147483647)), .inr (0, 400, .inl (-2147483648, 2147483647)), .inr (2, 400, .inl (0, 1)), .inr (0, 100, .inl (0, 39)), .inr (0, 100, .inl (0, 39)), .inr (0, 100, .inl (0, 9999)), .inr (0, 100, .inl (0, 7999)), .inr (2, 100, .inl (0, 1)), .inr (0, 100, .inl (0, 9)), .inr (0, 100, .inl (0, 7999)), .inr (0, 100, .inl (0, 8)), .inr (0, 100, .inl (0, 512)), .inr (0, 100, .inl (-1, 7999)), .inr (0, 100, .inl (-1, 7999)), .inr (0, 100, .inl (-1, 7999)), .inr (0, 100, .inl (-1, 7999)), .inr (0, 100, .inl (-1, 7999)), .inr (0, 100, .inl (0, 5)), .inr (0, 300, .inl (-2147483648, 2147483647)), .inr (0, 800, .inl (-2147483648, 2147483647)), .inr (0, 100, .inl (0, 9999)), .inr (0, 100, .inl (0, 600000)), .inr (0, 100, .inl (0, 9999)), .inr (0, 100, .inl (0, 99)), .inr (0, 600, .inl (-2147483648, 2147483647)), .inr (0, 600, .inl (-2147483648, 2147483647)), .inr (0, 600, .inl (0, 610000)), .inr (0, 600, .inl (-2147483648, 2147483647)), .inr (0, 600, .inl (-2147483648, 2147483647)), .inr (0, 40, .inl (0, 39)), .inr (2, 128, .inl (0, 1)), .inr (0, 4, .inl (-2147483648, 2147483647)), .inr (0, 4, .inl (-2147483648, 2147483647)), .inr (0, 4, .inl (0, 99)), .inr (0, 4, .inl (0, 2147483647)), .inr (0, 4, .inl (0, 9999)), .inr (0, 4, .inl (0, 12)), .inr (0, 4, .inl (0, 12)), .inr (0, 4, .inl (-2147483648, 2147483647)), .inr (0, 1600, .inl (-2147483648, 2147483647)), .inr (0, 300, .inl (-2147483648, 2147483647)), .inr (0, 4, .inl (0, 39)), .inr (0, 4, .inl (0, 39)), .inr (0, 8, .inl (0, 99)), .inr (0, 8, .inl (0, 99)), .inr (0, 2304, .inl (-2147483648, 2147483647)), .inr (3, 61, .lng), .inl (0, T_r0), .inl (1, T_r1), .inl (2, T_r2), .inl (3, T_r3), .inl (4, T_r4), .inl (5, T_r5), .inl (6, T_r6), .inl (7, T_r7), .inl (8, T_r8), .inl (9, T_r9), .inl (10, T_r10), .inr (0, 14, .inl (-2147483648, 2147483647)), .inr (0, 160, .inl (-2147483648, 2147483647)), .inl (0, T_a0)]
theorem tt_0 : T_tb[0]? = some (.inl (0, T_f0)) := rfl
theorem tt_1 : T_tb[1]? = some (.inl (1, T_f1)) := rfl
theorem tt_2 : T_tb[2]? = some (.inl (2, T_f2)) := rfl
theorem tt_3 : T_tb[3]? = some (.inl (3, T_f3)) := rfl
theorem tt_4 : T_tb[4]? = some (.inl (4, T_f4)) := rfl
theorem tt_5 : T_tb[5]? = some (.inl (5, T_f5)) := rfl
theorem tt_6 : T_tb[6]? = some (.inl (6, T_f6)) := rfl
theorem tt_7 : T_tb[7]? = some (.inl (7, T_f7)) := rfl
theorem tt_8 : T_tb[8]? = some (.inl (8, T_f8)) := rfl
theorem tt_9 : T_tb[9]? = some (.inl (9, T_f9)) := rfl
theorem tt_10 : T_tb[10]? = some (.inl (10, T_f10)) := rfl
theorem tt_11 : T_tb[11]? = some (.inr (0, 14, .inl (-2147483648, 2147483647))) := rfl
theorem tt_12 : T_tb[12]? = some (.inr (0, 160, .inl (-2147483648, 2147483647))) := rfl
theorem tt_13 : T_tb[13]? = some (.inr (0, 400, .inl (-2147483648, 2147483647))) := rfl
theorem tt_14 : T_tb[14]? = some (.inr (0, 400, .inl (-2147483648, 2147483647))) := rfl
theorem tt_15 : T_tb[15]? = some (.inr (0, 400, .inl (-2147483648, 2147483647))) := rfl
theorem tt_16 : T_tb[16]? = some (.inr (0, 400, .inl (-2147483648, 2147483647))) := rfl
theorem tt_17 : T_tb[17]? = some (.inr (0, 400, .inl (-2147483648, 2147483647))) := rfl
theorem tt_18 : T_tb[18]? = some (.inr (0, 400, .inl (0, 399))) := rfl
theorem tt_19 : T_tb[19]? = some (.inr (2, 400, .inl (0, 1))) := rfl
theorem tt_20 : T_tb[20]? = some (.inr (0, 8, .inl (-2147483648, 2147483647))) := rfl
theorem tt_21 : T_tb[21]? = some (.inr (0, 3, .inl (-2147483648, 2147483647))) := rfl
theorem tt_22 : T_tb[22]? = some (.inr (0, 600, .inl (-2147483648, 2147483647))) := rfl
theorem tt_23 : T_tb[23]? = some (.inr (0, 600, .inl (-2147483648, 2147483647))) := rfl
theorem tt_24 : T_tb[24]? = some (.inr (0, 600, .inl (-2147483648, 2147483647))) := rfl
theorem tt_25 : T_tb[25]? = some (.inr (0, 600, .inl (-2147483648, 2147483647))) := rfl
theorem tt_26 : T_tb[26]? = some (.inr (0, 600, .inl (-2147483648, 2147483647))) := rfl
theorem tt_27 : T_tb[27]? = some (.inr (0, 4, .inl (-2147483648, 2147483647))) := rfl
theorem tt_28 : T_tb[28]? = some (.inr (0, 4, .inl (-2147483648, 2147483647))) := rfl
theorem tt_29 : T_tb[29]? = some (.inr (0, 4, .inl (-2147483648, 2147483647))) := rfl
theorem tt_30 : T_tb[30]? = some (.inr (0, 4, .inl (-2147483648, 2147483647))) := rfl
theorem tt_31 : T_tb[31]? = some (.inr (0, 4, .inl (-2147483648, 2147483647))) := rfl
theorem tt_32 : T_tb[32]? = some (.inr (0, 4, .inl (-2147483648, 2147483647))) := rfl
theorem tt_33 : T_tb[33]? = some (.inr (0, 4, .inl (-2147483648, 2147483647))) := rfl
theorem tt_34 : T_tb[34]? = some (.inr (1, 0, .inl (-128, 127))) := rfl
theorem tt_35 : T_tb[35]? = some (.inr (0, 100, .inl (-2147483648, 2147483647))) := rfl
theorem tt_36 : T_tb[36]? = some (.inr (0, 1600, .inl (-2147483648, 2147483647))) := rfl
theorem tt_37 : T_tb[37]? = some (.inr (0, 4, .inl (0, 39))) := rfl
theorem tt_38 : T_tb[38]? = some (.inr (0, 4, .inl (0, 39))) := rfl
theorem tt_39 : T_tb[39]? = some (.inr (0, 8, .inl (-2147483648, 2147483647))) := rfl
theorem tt_40 : T_tb[40]? = some (.inr (6, 8, .inr (false, [2]))) := rfl
theorem tt_41 : T_tb[41]? = some (.inr (0, 2048, .inl (-2147483648, 2147483647))) := rfl
theorem tt_42 : T_tb[42]? = some (.inr (1, 400, .inl (-128, 127))) := rfl
theorem tt_43 : T_tb[43]? = some (.inr (4, 8, .inr (false, [0]))) := rfl
theorem tt_44 : T_tb[44]? = some (.inr (5, 40, .inr (false, [4]))) := rfl
theorem tt_45 : T_tb[45]? = some (.inr (6, 100, .inr (false, [2]))) := rfl
theorem tt_46 : T_tb[46]? = some (.inr (6, 100, .inr (false, [2]))) := rfl
theorem tt_47 : T_tb[47]? = some (.inr (0, 40, .inl (-2147483648, 2147483647))) := rfl
theorem tt_48 : T_tb[48]? = some (.inr (0, 100, .inl (-2147483648, 2147483647))) := rfl
theorem tt_49 : T_tb[49]? = some (.inr (0, 9, .inl (-2147483648, 2147483647))) := rfl
theorem tt_50 : T_tb[50]? = some (.inr (0, 117, .inl (0, 9999))) := rfl
theorem tt_51 : T_tb[51]? = some (.inr (0, 9, .inl (0, 128))) := rfl
theorem tt_52 : T_tb[52]? = some (.inr (0, 1152, .inl (-2147483648, 2147483647))) := rfl
theorem tt_53 : T_tb[53]? = some (.inr (1, 400, .inl (-128, 127))) := rfl
theorem tt_54 : T_tb[54]? = some (.inr (0, 13, .inl (0, 9999))) := rfl
theorem tt_55 : T_tb[55]? = some (.inr (0, 128, .inl (-2147483648, 2147483647))) := rfl
theorem tt_56 : T_tb[56]? = some (.inr (0, 128, .inl (0, 100))) := rfl
theorem tt_57 : T_tb[57]? = some (.inr (1, 175, .inl (-128, 127))) := rfl
theorem tt_58 : T_tb[58]? = some (.inr (0, 40, .inl (-30000, 7999))) := rfl
theorem tt_59 : T_tb[59]? = some (.inr (0, 40, .inl (0, 9999))) := rfl
theorem tt_60 : T_tb[60]? = some (.inr (0, 40, .inl (0, 20))) := rfl
theorem tt_61 : T_tb[61]? = some (.inr (0, 40, .inl (0, 99))) := rfl
theorem tt_62 : T_tb[62]? = some (.inr (0, 40, .inl (0, 99))) := rfl
theorem tt_63 : T_tb[63]? = some (.inr (0, 40, .inl (-1, 19))) := rfl
theorem tt_64 : T_tb[64]? = some (.inr (2, 40, .inl (0, 1))) := rfl
theorem tt_65 : T_tb[65]? = some (.inr (2, 40, .inl (0, 1))) := rfl
theorem tt_66 : T_tb[66]? = some (.inr (0, 400, .inl (-2147483648, 2147483647))) := rfl
theorem tt_67 : T_tb[67]? = some (.inr (0, 400, .inl (-2147483648, 2147483647))) := rfl
theorem tt_68 : T_tb[68]? = some (.inr (0, 400, .inl (-2147483648, 2147483647))) := rfl
theorem tt_69 : T_tb[69]? = some (.inr (0, 400, .inl (-2147483648, 2147483647))) := rfl
theorem tt_70 : T_tb[70]? = some (.inr (0, 400, .inl (-2147483648, 2147483647))) := rfl
theorem tt_71 : T_tb[71]? = some (.inr (2, 400, .inl (0, 1))) := rfl
theorem tt_72 : T_tb[72]? = some (.inr (0, 100, .inl (0, 39))) := rfl
theorem tt_73 : T_tb[73]? = some (.inr (0, 100, .inl (0, 39))) := rfl
theorem tt_74 : T_tb[74]? = some (.inr (0, 100, .inl (0, 9999))) := rfl
theorem tt_75 : T_tb[75]? = some (.inr (0, 100, .inl (0, 7999))) := rfl
theorem tt_76 : T_tb[76]? = some (.inr (2, 100, .inl (0, 1))) := rfl
theorem tt_77 : T_tb[77]? = some (.inr (0, 100, .inl (0, 9))) := rfl
theorem tt_78 : T_tb[78]? = some (.inr (0, 100, .inl (0, 7999))) := rfl
theorem tt_79 : T_tb[79]? = some (.inr (0, 100, .inl (0, 8))) := rfl
theorem tt_80 : T_tb[80]? = some (.inr (0, 100, .inl (0, 512))) := rfl
theorem tt_81 : T_tb[81]? = some (.inr (0, 100, .inl (-1, 7999))) := rfl
theorem tt_82 : T_tb[82]? = some (.inr (0, 100, .inl (-1, 7999))) := rfl
theorem tt_83 : T_tb[83]? = some (.inr (0, 100, .inl (-1, 7999))) := rfl
theorem tt_84 : T_tb[84]? = some (.inr (0, 100, .inl (-1, 7999))) := rfl
theorem tt_85 : T_tb[85]? = some (.inr (0, 100, .inl (-1, 7999))) := rfl
theorem tt_86 : T_tb[86]? = some (.inr (0, 100, .inl (0, 5))) := rfl
theorem tt_87 : T_tb[87]? = some (.inr (0, 300, .inl (-2147483648, 2147483647))) := rfl
theorem tt_88 : T_tb[88]? = some (.inr (0, 800, .inl (-2147483648, 2147483647))) := rfl
theorem tt_89 : T_tb[89]? = some (.inr (0, 100, .inl (0, 9999))) := rfl
theorem tt_90 : T_tb[90]? = some (.inr (0, 100, .inl (0, 600000))) := rfl
theorem tt_91 : T_tb[91]? = some (.inr (0, 100, .inl (0, 9999))) := rfl
theorem tt_92 : T_tb[92]? = some (.inr (0, 100, .inl (0, 99))) := rfl
theorem tt_93 : T_tb[93]? = some (.inr (0, 600, .inl (-2147483648, 2147483647))) := rfl
theorem tt_94 : T_tb[94]? = some (.inr (0, 600, .inl (-2147483648, 2147483647))) := rfl
theorem tt_95 : T_tb[95]? = some (.inr (0, 600, .inl (0, 610000))) := rfl
theorem tt_96 : T_tb[96]? = some (.inr (0, 600, .inl (-2147483648, 2147483647))) := rfl
theorem tt_97 : T_tb[97]? = some (.inr (0, 600, .inl (-2147483648, 2147483647))) := rfl
theorem tt_98 : T_tb[98]? = some (.inr (0, 40, .inl (0, 39))) := rfl
theorem tt_99 : T_tb[99]? = some (.inr (2, 128, .inl (0, 1))) := rfl
theorem tt_100 : T_tb[100]? = some (.inr (0, 4, .inl (-2147483648, 2147483647))) := rfl
theorem tt_101 : T_tb[101]? = some (.inr (0, 4, .inl (-2147483648, 2147483647))) := rfl
theorem tt_102 : T_tb[102]? = some (.inr (0, 4, .inl (0, 99))) := rfl
theorem tt_103 : T_tb[103]? = some (.inr (0, 4, .inl (0, 2147483647))) := rfl
theorem tt_104 : T_tb[104]? = some (.inr (0, 4, .inl (0, 9999))) := rfl
theorem tt_105 : T_tb[105]? = some (.inr (0, 4, .inl (0, 12))) := rfl
theorem tt_106 : T_tb[106]? = some (.inr (0, 4, .inl (0, 12))) := rfl
theorem tt_107 : T_tb[107]? = some (.inr (0, 4, .inl (-2147483648, 2147483647))) := rfl
theorem tt_108 : T_tb[108]? = some (.inr (0, 1600, .inl (-2147483648, 2147483647))) := rfl
theorem tt_109 : T_tb[109]? = some (.inr (0, 300, .inl (-2147483648, 2147483647))) := rfl
theorem tt_110 : T_tb[110]? = some (.inr (0, 4, .inl (0, 39))) := rfl
theorem tt_111 : T_tb[111]? = some (.inr (0, 4, .inl (0, 39))) := rfl
theorem tt_112 : T_tb[112]? = some (.inr (0, 8, .inl (0, 99))) := rfl
theorem tt_113 : T_tb[113]? = some (.inr (0, 8, .inl (0, 99))) := rfl
theorem tt_114 : T_tb[114]? = some (.inr (0, 2304, .inl (-2147483648, 2147483647))) := rfl
theorem tt_115 : T_tb[115]? = some (.inr (3, 61, .lng)) := rfl
theorem tt_116 : T_tb[116]? = some (.inl (0, T_r0)) := rfl
theorem tt_117 : T_tb[117]? = some (.inl (1, T_r1)) := rfl
theorem tt_118 : T_tb[118]? = some (.inl (2, T_r2)) := rfl
theorem tt_119 : T_tb[119]? = some (.inl (3, T_r3)) := rfl
theorem tt_120 : T_tb[120]? = some (.inl (4, T_r4)) := rfl
theorem tt_121 : T_tb[121]? = some (.inl (5, T_r5)) := rfl
theorem tt_122 : T_tb[122]? = some (.inl (6, T_r6)) := rfl
theorem tt_123 : T_tb[123]? = some (.inl (7, T_r7)) := rfl
theorem tt_124 : T_tb[124]? = some (.inl (8, T_r8)) := rfl
theorem tt_125 : T_tb[125]? = some (.inl (9, T_r9)) := rfl
theorem tt_126 : T_tb[126]? = some (.inl (10, T_r10)) := rfl
theorem tt_127 : T_tb[127]? = some (.inr (0, 14, .inl (-2147483648, 2147483647))) := rfl
theorem tt_128 : T_tb[128]? = some (.inr (0, 160, .inl (-2147483648, 2147483647))) := rfl
theorem tt_129 : T_tb[129]? = some (.inl (0, T_a0)) := rfl
theorem i32_r (x : Int32) : -2147483648 ≤ x.toInt ∧ x.toInt ≤ 2147483647 := ⟨Int32.le_toInt x, by have := Int32.toInt_lt x; omega⟩
end
