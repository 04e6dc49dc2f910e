/-! THE TYPED HEAP: every owned cell has a tag; a table says of each tag its class and fields, or its kind of array, its length and elements -/
/-- what a field or an element is: a number with its interval, a reference with its tags, a long (kept as two halves) -/
def hx_f : Type := (Int × Int) ⊕ ((Bool × List Nat) ⊕ Unit)
abbrev hx_f.inl (b : Int × Int) : hx_f := Sum.inl b
abbrev hx_f.inr (b : Bool × List Nat) : hx_f := Sum.inr (Sum.inl b)
abbrev hx_f.lng : hx_f := Sum.inr (Sum.inr ())
def hx_L (x y : Int32) : Int64 := Int64.ofBitVec (x.toBitVec ++ y.toBitVec)
theorem hx_L_ex (v : Int64) : ∃ x y : Int32, hx_L x y = v := by
  refine ⟨Int32.ofBitVec (v.toBitVec.extractLsb' 32 32), Int32.ofBitVec (v.toBitVec.extractLsb' 0 32), ?_⟩
  have h : (v.toBitVec.extractLsb' 32 32 ++ v.toBitVec.extractLsb' 0 32 : BitVec 64) = v.toBitVec := by
    apply BitVec.eq_of_getLsbD_eq
    intro i hi
    rw [BitVec.getLsbD_append, BitVec.getLsbD_extractLsb', BitVec.getLsbD_extractLsb']
    by_cases h : i < 32
    · simp [h]
    · have e : 32 + (i - 32) = i := by omega
      have l : i - 32 < 32 := by omega
      simp [h, e, l]
  show Int64.ofBitVec (v.toBitVec.extractLsb' 32 32 ++ v.toBitVec.extractLsb' 0 32 : BitVec 64) = v
  rw [h]
  rfl
abbrev hx_d : Type := (Nat × List hx_f) ⊕ (Nat × Nat × hx_f)
abbrev hx_h : Type := (Nat → Nat) × (Nat → Nat → Int32) × (Nat → Nat → Option Nat)
abbrev hx_y : Type := List (ClassId × FieldType)
def hx_v (f : hx_f) (i : Int32) (r : Option Nat) : Value := match f with
  | Sum.inl _ => .int i
  | Sum.inr (Sum.inl _) => va_rf r
  | Sum.inr (Sum.inr _) => .int i
def hx_fs (fs : List hx_f) (h : hx_h) (a : Nat) : List Value := (List.range fs.length).map (fun k => hx_v (fs.getD k (.inl (0, 0))) (h.2.1 a k) (h.2.2 a k))
def hx_a (n : Nat) (f : hx_f) (h : hx_h) (a : Nat) : vp_A := match f with
  | Sum.inl _ => (n, .inl (h.2.1 a))
  | Sum.inr (Sum.inl _) => (n, .inr (.inr (.inr (.inr (h.2.2 a)))))
  | Sum.inr (Sum.inr _) => (n, .inr (.inl (fun j => hx_L (h.2.1 a (2 * j)) (h.2.1 a (2 * j + 1)))))
def hx_t (tys : hx_y) (t0 : Nat) : ClassId := (tys[t0]?.map Prod.fst).getD 0
def hx_e (tb : List hx_d) (tys : hx_y) (h : hx_h) (a : Nat) : va_E := match tb[h.1 a]? with
  | some (.inl (ci, fs)) => .inr (ci, hx_fs fs h a)
  | some (.inr (t0, n, f)) => .inl (hx_t tys t0, hx_a n f h a)
  | none => .inr (0, [])
abbrev hx_p (tb : List hx_d) (tys : hx_y) (L : List Nat) (h : hx_h) : va_W := va_pl L (hx_e tb tys h)
/-- the world: the tables, the cells, apart, the rest unchanged -/
def hx_W (tb : List hx_d) (tys : hx_y) (D : va_G) (cl : List vw_C) (A : Nat → Prop) (H0 : Heap) (L : List Nat) (h : hx_h) (s : State) (H : Heap) (locs : List Loc) : Prop :=
  va_K D cl tys s ∧ va_P D cl (hx_p tb tys L h) H ∧ va_D A (hx_p tb tys L h) ∧ va_S A H0 H locs ∧ ∀ q, H0.size ≤ q → A q
/-- a cell of a tag -/
def hx_g (L : List Nat) (h : hx_h) (a t : Nat) : Prop := a ∈ L ∧ h.1 a = t
def hx_o (L : List Nat) (h : hx_h) (f : hx_f) (i : Int32) (r : Option Nat) : Prop := match f with
  | Sum.inl b => b.1 ≤ i.toInt ∧ i.toInt ≤ b.2
  | Sum.inr (Sum.inl b) => (b.1 = true → r ≠ none) ∧ ∀ q, r = some q → q ∈ L ∧ h.1 q ∈ b.2
  | Sum.inr (Sum.inr _) => True
def hx_c (tb : List hx_d) (L : List Nat) (h : hx_h) (a : Nat) : Prop := match tb[h.1 a]? with
  | some (.inl (_, fs)) => ∀ k f, fs[k]? = some f → hx_o L h f (h.2.1 a k) (h.2.2 a k)
  | some (.inr (_, n, f)) => ∀ k, k < n → hx_o L h f (h.2.1 a k) (h.2.2 a k)
  | none => False
/-- the types hold -/
def hx_T (tb : List hx_d) (L : List Nat) (h : hx_h) : Prop := ∀ a ∈ L, hx_c tb L h a
def hx_pi (h : hx_h) (a k : Nat) (x : Int32) : hx_h := (h.1, fun b j => if b = a ∧ j = k then x else h.2.1 b j, h.2.2)
def hx_pr (h : hx_h) (a k : Nat) (r : Option Nat) : hx_h := (h.1, h.2.1, fun b j => if b = a ∧ j = k then r else h.2.2 b j)
/-- what may have changed: fields (tag, place); of an array: its tag alone, as place 0 -/
abbrev hx_m : Type := List (Nat × Nat)
def hx_S (tb : List hx_d) (M : hx_m) (L : List Nat) (h : hx_h) (L1 : List Nat) (h1 : hx_h) : Prop :=
  (∀ a ∈ L, a ∈ L1 ∧ h1.1 a = h.1 a) ∧ ∀ a ∈ L, ∀ k, (match tb[h.1 a]? with | some (.inr _) => (h.1 a, 0) ∉ M | _ => (h.1 a, k) ∉ M) → h1.2.1 a k = h.2.1 a k ∧ h1.2.2 a k = h.2.2 a k
theorem hx_S.rf {tb : List hx_d} {M : hx_m} {L : List Nat} {h : hx_h} : hx_S tb M L h L h := ⟨fun _ ha => ⟨ha, rfl⟩, fun _ _ _ _ => ⟨rfl, rfl⟩⟩
theorem hx_S.tr {tb : List hx_d} {M : hx_m} {L L1 L2 : List Nat} {h h1 h2 : hx_h} (a : hx_S tb M L h L1 h1) (b : hx_S tb M L1 h1 L2 h2) : hx_S tb M L h L2 h2 := by
  refine ⟨fun q hq => ?_, fun q hq k hk => ?_⟩
  · obtain ⟨u1, u2⟩ := a.1 q hq
    obtain ⟨v1, v2⟩ := b.1 q u1
    exact ⟨v1, v2.trans u2⟩
  · obtain ⟨u1, u2⟩ := a.1 q hq
    obtain ⟨x1, x2⟩ := a.2 q hq k hk
    obtain ⟨y1, y2⟩ := b.2 q u1 k (by rw [u2]; exact hk)
    exact ⟨y1.trans x1, y2.trans x2⟩
theorem hx_S.mono {tb : List hx_d} {M N : hx_m} {L L1 : List Nat} {h h1 : hx_h} (a : hx_S tb M L h L1 h1) (hMN : ∀ q ∈ M, q ∈ N) : hx_S tb N L h L1 h1 := by
  refine ⟨a.1, fun q hq k hk => a.2 q hq k ?_⟩
  revert hk
  split
  · exact fun h1 h2 => h1 (hMN _ h2)
  · exact fun h1 h2 => h1 (hMN _ h2)
theorem hx_g.S {tb : List hx_d} {M : hx_m} {L L1 : List Nat} {h h1 : hx_h} {a t : Nat} (g : hx_g L h a t) (b : hx_S tb M L h L1 h1) : hx_g L1 h1 a t := ⟨(b.1 a g.1).1, (b.1 a g.1).2.trans g.2⟩
theorem hx_pi_at (h : hx_h) (a k : Nat) (x : Int32) : (hx_pi h a k x).2.1 a k = x := by simp [hx_pi]
theorem hx_pi_ne (h : hx_h) {a k b j : Nat} (x : Int32) (n : ¬ (b = a ∧ j = k)) : (hx_pi h a k x).2.1 b j = h.2.1 b j := by simp only [hx_pi]; rw [if_neg n]
theorem hx_pr_at (h : hx_h) (a k : Nat) (x : Option Nat) : (hx_pr h a k x).2.2 a k = x := by simp [hx_pr]
theorem hx_pr_ne (h : hx_h) {a k b j : Nat} (x : Option Nat) (n : ¬ (b = a ∧ j = k)) : (hx_pr h a k x).2.2 b j = h.2.2 b j := by simp only [hx_pr]; rw [if_neg n]
theorem hx_e_pi {tb : List hx_d} {tys : hx_y} {h : hx_h} {a b k : Nat} {x : Int32} (n : b ≠ a) : hx_e tb tys (hx_pi h a k x) b = hx_e tb tys h b := by
  simp [hx_e, hx_fs, hx_a, hx_pi, n]
theorem hx_e_pr {tb : List hx_d} {tys : hx_y} {h : hx_h} {a b k : Nat} {x : Option Nat} (n : b ≠ a) : hx_e tb tys (hx_pr h a k x) b = hx_e tb tys h b := by
  simp [hx_e, hx_fs, hx_a, hx_pr, n]
theorem hx_fs_get {fs : List hx_f} {h : hx_h} {a k : Nat} {f : hx_f} (hk : fs[k]? = some f) : (hx_fs fs h a)[k]? = some (hx_v f (h.2.1 a k) (h.2.2 a k)) := by
  have hl := (List.getElem?_eq_some_iff.mp hk).1
  simp [hx_fs, List.getElem?_range hl, List.getD, hk]
theorem hx_fs_len {fs : List hx_f} {h : hx_h} {a : Nat} : (hx_fs fs h a).length = fs.length := by simp [hx_fs]
theorem hx_fs_pi {fs : List hx_f} {h : hx_h} {a k : Nat} {b : Int × Int} {x : Int32} (hk : fs[k]? = some (.inl b)) : (hx_fs fs h a).set k (.int x) = hx_fs fs (hx_pi h a k x) a := by
  have hl := (List.getElem?_eq_some_iff.mp hk).1
  apply List.ext_getElem?
  intro j
  by_cases hj : j = k
  · subst hj
    rw [List.getElem?_set_self (by rw [hx_fs_len]; exact hl), hx_fs_get hk, hx_pi_at]
    rfl
  · rw [List.getElem?_set_ne (Ne.symm hj)]
    by_cases hjl : j < fs.length
    · have hf : fs[j]? = some fs[j] := List.getElem?_eq_getElem hjl
      rw [hx_fs_get hf, hx_fs_get hf, hx_pi_ne h x (fun z => hj z.2)]
      rfl
    · rw [List.getElem?_eq_none (by rw [hx_fs_len]; omega), List.getElem?_eq_none (by rw [hx_fs_len]; omega)]
theorem hx_fs_pr {fs : List hx_f} {h : hx_h} {a k : Nat} {b : Bool × List Nat} {x : Option Nat} (hk : fs[k]? = some (.inr b)) : (hx_fs fs h a).set k (va_rf x) = hx_fs fs (hx_pr h a k x) a := by
  have hl := (List.getElem?_eq_some_iff.mp hk).1
  apply List.ext_getElem?
  intro j
  by_cases hj : j = k
  · subst hj
    rw [List.getElem?_set_self (by rw [hx_fs_len]; exact hl), hx_fs_get hk, hx_pr_at]
    rfl
  · rw [List.getElem?_set_ne (Ne.symm hj)]
    by_cases hjl : j < fs.length
    · have hf : fs[j]? = some fs[j] := List.getElem?_eq_getElem hjl
      rw [hx_fs_get hf, hx_fs_get hf, hx_pr_ne h x (fun z => hj z.2)]
      rfl
    · rw [List.getElem?_eq_none (by rw [hx_fs_len]; omega), List.getElem?_eq_none (by rw [hx_fs_len]; omega)]
theorem hx_at {tb : List hx_d} {tys : hx_y} {L : List Nat} {h : hx_h} {a : Nat} (ha : a ∈ L) : ∃ k : Nat, (hx_p tb tys L h)[k]? = some (a, hx_e tb tys h a) := va_pl_get (X := []) ha
theorem hx_e_obj {tb : List hx_d} {tys : hx_y} {h : hx_h} {a t ci : Nat} {fs : List hx_f} (ht : h.1 a = t) (hd : tb[t]? = some (.inl (ci, fs))) : hx_e tb tys h a = .inr (ci, hx_fs fs h a) := by
  unfold hx_e
  rw [ht, hd]
theorem hx_e_arr {tb : List hx_d} {tys : hx_y} {h : hx_h} {a t t0 n : Nat} {f : hx_f} (ht : h.1 a = t) (hd : tb[t]? = some (.inr (t0, n, f))) : hx_e tb tys h a = .inl (hx_t tys t0, hx_a n f h a) := by
  unfold hx_e
  rw [ht, hd]
/-- a change of one cell, as the world sees it -/
theorem hx_set {tb : List hx_d} {tys : hx_y} {A : Nat → Prop} {L : List Nat} {h h1 : hx_h} {a k : Nat} {e : va_E} (hD : va_D A (hx_p tb tys L h)) (ha : a ∈ L) (hk : (hx_p tb tys L h)[k]? = some (a, hx_e tb tys h a)) (he : hx_e tb tys h1 a = e) (hn : ∀ b, b ≠ a → hx_e tb tys h1 b = hx_e tb tys h b) : (hx_p tb tys L h).set k (a, e) = hx_p tb tys L h1 := by
  have h1 := va_pl_set (X := []) (e := e) hD ha hk
  refine h1.trans ?_
  refine va_pl_congr (fun b => ?_)
  by_cases hb : b = a
  · subst hb
    rw [va_up_self, he]
  · rw [va_up_ne _ _ hb, hn b hb]
theorem hx_T.gi {tb : List hx_d} {L : List Nat} {h : hx_h} {a t ci k : Nat} {fs : List hx_f} {b : Int × Int} (hT : hx_T tb L h) (g : hx_g L h a t) (hd : tb[t]? = some (.inl (ci, fs))) (hf : fs[k]? = some (.inl b)) : b.1 ≤ (h.2.1 a k).toInt ∧ (h.2.1 a k).toInt ≤ b.2 := by
  have h0 := hT a g.1
  unfold hx_c at h0
  rw [g.2, hd] at h0
  exact h0 k _ hf
theorem hx_T.gr {tb : List hx_d} {L : List Nat} {h : hx_h} {a t ci k : Nat} {fs : List hx_f} {b : Bool × List Nat} (hT : hx_T tb L h) (g : hx_g L h a t) (hd : tb[t]? = some (.inl (ci, fs))) (hf : fs[k]? = some (.inr b)) : (b.1 = true → h.2.2 a k ≠ none) ∧ ∀ q, h.2.2 a k = some q → q ∈ L ∧ h.1 q ∈ b.2 := by
  have h0 := hT a g.1
  unfold hx_c at h0
  rw [g.2, hd] at h0
  exact h0 k _ hf
theorem hx_T.ei {tb : List hx_d} {L : List Nat} {h : hx_h} {a t t0 n k : Nat} {b : Int × Int} (hT : hx_T tb L h) (g : hx_g L h a t) (hd : tb[t]? = some (.inr (t0, n, .inl b))) (hk : k < n) : b.1 ≤ (h.2.1 a k).toInt ∧ (h.2.1 a k).toInt ≤ b.2 := by
  have h0 := hT a g.1
  unfold hx_c at h0
  rw [g.2, hd] at h0
  exact h0 k hk
theorem hx_T.er {tb : List hx_d} {L : List Nat} {h : hx_h} {a t t0 n k : Nat} {b : Bool × List Nat} (hT : hx_T tb L h) (g : hx_g L h a t) (hd : tb[t]? = some (.inr (t0, n, .inr b))) (hk : k < n) : (b.1 = true → h.2.2 a k ≠ none) ∧ ∀ q, h.2.2 a k = some q → q ∈ L ∧ h.1 q ∈ b.2 := by
  have h0 := hT a g.1
  unfold hx_c at h0
  rw [g.2, hd] at h0
  exact h0 k hk
theorem hx_T.pi {tb : List hx_d} {L : List Nat} {h : hx_h} {a t k : Nat} {x : Int32} {d : hx_d} (hT : hx_T tb L h) (g : hx_g L h a t) (hd : tb[t]? = some d) (hx : ∀ f, (match d with | .inl (_, fs) => fs[k]? = some f | .inr (_, _, f0) => f0 = f) → ∀ r, (match f with | Sum.inl _ => True | Sum.inr (Sum.inl _) => r = h.2.2 a k | Sum.inr (Sum.inr _) => True) → hx_o L h f x r) : hx_T tb L (hx_pi h a k x) := by
  intro c hc
  have h0 := hT c hc
  unfold hx_c at h0 ⊢
  have e1 : (hx_pi h a k x).1 = h.1 := rfl
  have e2 : (hx_pi h a k x).2.2 = h.2.2 := rfl
  rw [e1, e2]
  by_cases hca : c = a
  · subst hca
    rw [g.2, hd] at h0 ⊢
    rcases d with ⟨ci, fs⟩ | ⟨t0, n, f0⟩
    · intro j f hj
      by_cases hjk : j = k
      · subst hjk
        rw [hx_pi_at]
        refine hx f hj _ ?_
        rcases f with f | f | f <;> simp
      · rw [hx_pi_ne h x (fun z => hjk z.2)]
        exact h0 j f hj
    · intro j hj
      by_cases hjk : j = k
      · subst hjk
        rw [hx_pi_at]
        refine hx f0 rfl _ ?_
        rcases f0 with f0 | f0 | f0 <;> simp
      · rw [hx_pi_ne h x (fun z => hjk z.2)]
        exact h0 j hj
  · have e3 : ∀ j, (hx_pi h a k x).2.1 c j = h.2.1 c j := fun j => hx_pi_ne h x (fun z => hca z.1)
    cases hd2 : tb[h.1 c]? with
    | none => rw [hd2] at h0; exact h0
    | some d2 =>
      rw [hd2] at h0
      rcases d2 with ⟨ci, fs⟩ | ⟨t0, n, f0⟩
      · intro j f hj
        rw [e3]
        exact h0 j f hj
      · intro j hj
        rw [e3]
        exact h0 j hj
theorem hx_T.pr {tb : List hx_d} {L : List Nat} {h : hx_h} {a t k : Nat} {x : Option Nat} {d : hx_d} (hT : hx_T tb L h) (g : hx_g L h a t) (hd : tb[t]? = some d) (hx : ∀ f, (match d with | .inl (_, fs) => fs[k]? = some f | .inr (_, _, f0) => f0 = f) → ∀ i, (match f with | Sum.inl _ => i = h.2.1 a k | Sum.inr (Sum.inl _) => True | Sum.inr (Sum.inr _) => True) → hx_o L h f i x) : hx_T tb L (hx_pr h a k x) := by
  intro c hc
  have h0 := hT c hc
  unfold hx_c at h0 ⊢
  have e1 : (hx_pr h a k x).1 = h.1 := rfl
  have e2 : (hx_pr h a k x).2.1 = h.2.1 := rfl
  rw [e1, e2]
  by_cases hca : c = a
  · subst hca
    rw [g.2, hd] at h0 ⊢
    rcases d with ⟨ci, fs⟩ | ⟨t0, n, f0⟩
    · intro j f hj
      by_cases hjk : j = k
      · subst hjk
        rw [hx_pr_at]
        refine hx f hj _ ?_
        rcases f with f | f | f <;> simp
      · rw [hx_pr_ne h x (fun z => hjk z.2)]
        exact h0 j f hj
    · intro j hj
      by_cases hjk : j = k
      · subst hjk
        rw [hx_pr_at]
        refine hx f0 rfl _ ?_
        rcases f0 with f0 | f0 | f0 <;> simp
      · rw [hx_pr_ne h x (fun z => hjk z.2)]
        exact h0 j hj
  · have e3 : ∀ j, (hx_pr h a k x).2.2 c j = h.2.2 c j := fun j => hx_pr_ne h x (fun z => hca z.1)
    cases hd2 : tb[h.1 c]? with
    | none => rw [hd2] at h0; exact h0
    | some d2 =>
      rw [hd2] at h0
      rcases d2 with ⟨ci, fs⟩ | ⟨t0, n, f0⟩
      · intro j f hj
        rw [e3]
        exact h0 j f hj
      · intro j hj
        rw [e3]
        exact h0 j hj
theorem hx_S.pi {tb : List hx_d} {M : hx_m} {L L0 : List Nat} {h h0 : hx_h} {a t k : Nat} {x : Int32} (hS : hx_S tb M L0 h0 L h) (g : hx_g L h a t) (hm : match tb[t]? with | some (.inr _) => (t, 0) ∈ M | _ => (t, k) ∈ M) : hx_S tb M L0 h0 L (hx_pi h a k x) := by
  refine hS.tr ⟨fun q hq => ⟨hq, rfl⟩, fun q hq j hj => ⟨?_, rfl⟩⟩
  refine hx_pi_ne h x (fun z => ?_)
  rw [z.1, z.2, g.2] at hj
  revert hm hj
  cases tb[t]? with
  | none => exact fun u v => v u
  | some d => rcases d with ⟨ci, fs⟩ | ⟨t0, n, f⟩ <;> exact fun u v => v u
theorem hx_S.pr {tb : List hx_d} {M : hx_m} {L L0 : List Nat} {h h0 : hx_h} {a t k : Nat} {x : Option Nat} (hS : hx_S tb M L0 h0 L h) (g : hx_g L h a t) (hm : match tb[t]? with | some (.inr _) => (t, 0) ∈ M | _ => (t, k) ∈ M) : hx_S tb M L0 h0 L (hx_pr h a k x) := by
  refine hS.tr ⟨fun q hq => ⟨hq, rfl⟩, fun q hq j hj => ⟨rfl, ?_⟩⟩
  refine hx_pr_ne h x (fun z => ?_)
  rw [z.1, z.2, g.2] at hj
  revert hm hj
  cases tb[t]? with
  | none => exact fun u v => v u
  | some d => rcases d with ⟨ci, fs⟩ | ⟨t0, n, f⟩ <;> exact fun u v => v u
