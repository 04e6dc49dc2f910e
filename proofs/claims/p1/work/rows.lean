section
/-! THE TYPED HEAP: every owned cell has a tag; a table says of each tag its class and fields, or its kind of array, its length and elements -/
abbrev hx_f : Type := (Int × Int) ⊕ (Bool × List Nat)
abbrev hx_d : Type := (Nat × List hx_f) ⊕ (Nat × Nat × hx_f)
abbrev hx_h : Type := (Nat → Nat) × (Nat → Nat → Int32) × (Nat → Nat → Option Nat)
abbrev hx_y : Type := List (ClassId × FieldType)
def hx_v (f : hx_f) (i : Int32) (r : Option Nat) : Value := match f with
  | .inl _ => .int i
  | .inr _ => va_rf r
def hx_fs (fs : List hx_f) (h : hx_h) (a : Nat) : List Value := (List.range fs.length).map (fun k => hx_v (fs.getD k (.inl (0, 0))) (h.2.1 a k) (h.2.2 a k))
def hx_a (n : Nat) (f : hx_f) (h : hx_h) (a : Nat) : vp_A := match f with
  | .inl _ => (n, .inl (h.2.1 a))
  | .inr _ => (n, .inr (.inr (.inr (.inr (h.2.2 a)))))
def hx_t (tys : hx_y) (t0 : Nat) : ClassId := (tys[t0]?.map Prod.fst).getD 0
def hx_e (tb : List hx_d) (tys : hx_y) (h : hx_h) (a : Nat) : va_E := match tb[h.1 a]? with
  | some (.inl (ci, fs)) => .inr (ci, hx_fs fs h a)
  | some (.inr (t0, n, f)) => .inl (hx_t tys t0, hx_a n f h a)
  | none => .inr (0, [])
abbrev hx_p (tb : List hx_d) (tys : hx_y) (L : List Nat) (h : hx_h) : va_W := va_pl L (hx_e tb tys h)
/-- the world: the tables, the cells, apart, the rest unchanged -/
def hx_W (tb : List hx_d) (tys : hx_y) (D : va_G) (cl : List vw_C) (A : Nat → Prop) (H0 : Heap) (L : List Nat) (h : hx_h) (s : State) (H : Heap) (locs : List Loc) : Prop :=
  va_K D cl tys s ∧ va_P D cl (hx_p tb tys L h) H ∧ va_D A (hx_p tb tys L h) ∧ va_S A H0 H locs ∧ ∀ q, H0.size ≤ q → A q
/-- a cell of a tag -/
def hx_g (L : List Nat) (h : hx_h) (a t : Nat) : Prop := a ∈ L ∧ h.1 a = t
def hx_o (L : List Nat) (h : hx_h) (f : hx_f) (i : Int32) (r : Option Nat) : Prop := match f with
  | .inl b => b.1 ≤ i.toInt ∧ i.toInt ≤ b.2
  | .inr b => (b.1 = true → r ≠ none) ∧ ∀ q, r = some q → q ∈ L ∧ h.1 q ∈ b.2
def hx_c (tb : List hx_d) (L : List Nat) (h : hx_h) (a : Nat) : Prop := match tb[h.1 a]? with
  | some (.inl (_, fs)) => ∀ k f, fs[k]? = some f → hx_o L h f (h.2.1 a k) (h.2.2 a k)
  | some (.inr (_, n, f)) => ∀ k, k < n → hx_o L h f (h.2.1 a k) (h.2.2 a k)
  | none => False
/-- the types hold -/
def hx_T (tb : List hx_d) (L : List Nat) (h : hx_h) : Prop := ∀ a ∈ L, hx_c tb L h a
def hx_pi (h : hx_h) (a k : Nat) (x : Int32) : hx_h := (h.1, fun b j => if b = a ∧ j = k then x else h.2.1 b j, h.2.2)
def hx_pr (h : hx_h) (a k : Nat) (r : Option Nat) : hx_h := (h.1, h.2.1, fun b j => if b = a ∧ j = k then r else h.2.2 b j)
/-- what may have changed: fields (tag, place); of an array: its tag alone, as place 0 -/
abbrev hx_m : Type := List (Nat × Nat)
def hx_S (tb : List hx_d) (M : hx_m) (L : List Nat) (h : hx_h) (L1 : List Nat) (h1 : hx_h) : Prop :=
  (∀ a ∈ L, a ∈ L1 ∧ h1.1 a = h.1 a) ∧ ∀ a ∈ L, ∀ k, (match tb[h.1 a]? with | some (.inr _) => (h.1 a, 0) ∉ M | _ => (h.1 a, k) ∉ M) → h1.2.1 a k = h.2.1 a k ∧ h1.2.2 a k = h.2.2 a k
theorem hx_S.rf {tb : List hx_d} {M : hx_m} {L : List Nat} {h : hx_h} : hx_S tb M L h L h := ⟨fun _ ha => ⟨ha, rfl⟩, fun _ _ _ _ => ⟨rfl, rfl⟩⟩
theorem hx_S.tr {tb : List hx_d} {M : hx_m} {L L1 L2 : List Nat} {h h1 h2 : hx_h} (a : hx_S tb M L h L1 h1) (b : hx_S tb M L1 h1 L2 h2) : hx_S tb M L h L2 h2 := by
  refine ⟨fun q hq => ?_, fun q hq k hk => ?_⟩
  · obtain ⟨u1, u2⟩ := a.1 q hq
    obtain ⟨v1, v2⟩ := b.1 q u1
    exact ⟨v1, v2.trans u2⟩
  · obtain ⟨u1, u2⟩ := a.1 q hq
    obtain ⟨x1, x2⟩ := a.2 q hq k hk
    obtain ⟨y1, y2⟩ := b.2 q u1 k (by rw [u2]; exact hk)
    exact ⟨y1.trans x1, y2.trans x2⟩
theorem hx_S.mono {tb : List hx_d} {M N : hx_m} {L L1 : List Nat} {h h1 : hx_h} (a : hx_S tb M L h L1 h1) (hMN : ∀ q ∈ M, q ∈ N) : hx_S tb N L h L1 h1 := by
  refine ⟨a.1, fun q hq k hk => a.2 q hq k ?_⟩
  revert hk
  split
  · exact fun h1 h2 => h1 (hMN _ h2)
  · exact fun h1 h2 => h1 (hMN _ h2)
theorem hx_g.S {tb : List hx_d} {M : hx_m} {L L1 : List Nat} {h h1 : hx_h} {a t : Nat} (g : hx_g L h a t) (b : hx_S tb M L h L1 h1) : hx_g L1 h1 a t := ⟨(b.1 a g.1).1, (b.1 a g.1).2.trans g.2⟩
/-- a field that can't have changed -/
theorem hx_S.i {tb : List hx_d} {M : hx_m} {L L1 : List Nat} {h h1 : hx_h} {a t : Nat} (b : hx_S tb M L h L1 h1) (g : hx_g L h a t) (k : Nat) (hk : (match tb[t]? with | some (.inr _) => (t, 0) ∉ M | _ => (t, k) ∉ M)) : h1.2.1 a k = h.2.1 a k := (b.2 a g.1 k (by rw [g.2]; exact hk)).1
theorem hx_S.r {tb : List hx_d} {M : hx_m} {L L1 : List Nat} {h h1 : hx_h} {a t : Nat} (b : hx_S tb M L h L1 h1) (g : hx_g L h a t) (k : Nat) (hk : (match tb[t]? with | some (.inr _) => (t, 0) ∉ M | _ => (t, k) ∉ M)) : h1.2.2 a k = h.2.2 a k := (b.2 a g.1 k (by rw [g.2]; exact hk)).2
theorem hx_pi_at (h : hx_h) (a k : Nat) (x : Int32) : (hx_pi h a k x).2.1 a k = x := by simp [hx_pi]
theorem hx_pi_ne (h : hx_h) {a k b j : Nat} (x : Int32) (n : ¬ (b = a ∧ j = k)) : (hx_pi h a k x).2.1 b j = h.2.1 b j := by simp only [hx_pi]; rw [if_neg n]
theorem hx_pr_at (h : hx_h) (a k : Nat) (x : Option Nat) : (hx_pr h a k x).2.2 a k = x := by simp [hx_pr]
theorem hx_pr_ne (h : hx_h) {a k b j : Nat} (x : Option Nat) (n : ¬ (b = a ∧ j = k)) : (hx_pr h a k x).2.2 b j = h.2.2 b j := by simp only [hx_pr]; rw [if_neg n]
theorem hx_e_pi {tb : List hx_d} {tys : hx_y} {h : hx_h} {a b k : Nat} {x : Int32} (n : b ≠ a) : hx_e tb tys (hx_pi h a k x) b = hx_e tb tys h b := by
  simp [hx_e, hx_fs, hx_a, hx_pi, n]
theorem hx_e_pr {tb : List hx_d} {tys : hx_y} {h : hx_h} {a b k : Nat} {x : Option Nat} (n : b ≠ a) : hx_e tb tys (hx_pr h a k x) b = hx_e tb tys h b := by
  simp [hx_e, hx_fs, hx_a, hx_pr, n]
theorem hx_fs_get {fs : List hx_f} {h : hx_h} {a k : Nat} {f : hx_f} (hk : fs[k]? = some f) : (hx_fs fs h a)[k]? = some (hx_v f (h.2.1 a k) (h.2.2 a k)) := by
  have hl := (List.getElem?_eq_some_iff.mp hk).1
  simp [hx_fs, List.getElem?_range hl, List.getD, hk]
theorem hx_fs_len {fs : List hx_f} {h : hx_h} {a : Nat} : (hx_fs fs h a).length = fs.length := by simp [hx_fs]
theorem hx_fs_pi {fs : List hx_f} {h : hx_h} {a k : Nat} {b : Int × Int} {x : Int32} (hk : fs[k]? = some (.inl b)) : (hx_fs fs h a).set k (.int x) = hx_fs fs (hx_pi h a k x) a := by
  have hl := (List.getElem?_eq_some_iff.mp hk).1
  apply List.ext_getElem?
  intro j
  by_cases hj : j = k
  · subst hj
    rw [List.getElem?_set_self (by rw [hx_fs_len]; exact hl), hx_fs_get hk, hx_pi_at]
    rfl
  · rw [List.getElem?_set_ne (Ne.symm hj)]
    by_cases hjl : j < fs.length
    · have hf : fs[j]? = some fs[j] := List.getElem?_eq_getElem hjl
      rw [hx_fs_get hf, hx_fs_get hf, hx_pi_ne h x (fun z => hj z.2)]
      rfl
    · rw [List.getElem?_eq_none (by rw [hx_fs_len]; omega), List.getElem?_eq_none (by rw [hx_fs_len]; omega)]
theorem hx_fs_pr {fs : List hx_f} {h : hx_h} {a k : Nat} {b : Bool × List Nat} {x : Option Nat} (hk : fs[k]? = some (.inr b)) : (hx_fs fs h a).set k (va_rf x) = hx_fs fs (hx_pr h a k x) a := by
  have hl := (List.getElem?_eq_some_iff.mp hk).1
  apply List.ext_getElem?
  intro j
  by_cases hj : j = k
  · subst hj
    rw [List.getElem?_set_self (by rw [hx_fs_len]; exact hl), hx_fs_get hk, hx_pr_at]
    rfl
  · rw [List.getElem?_set_ne (Ne.symm hj)]
    by_cases hjl : j < fs.length
    · have hf : fs[j]? = some fs[j] := List.getElem?_eq_getElem hjl
      rw [hx_fs_get hf, hx_fs_get hf, hx_pr_ne h x (fun z => hj z.2)]
      rfl
    · rw [List.getElem?_eq_none (by rw [hx_fs_len]; omega), List.getElem?_eq_none (by rw [hx_fs_len]; omega)]
theorem hx_at {tb : List hx_d} {tys : hx_y} {L : List Nat} {h : hx_h} {a : Nat} (ha : a ∈ L) : ∃ k : Nat, (hx_p tb tys L h)[k]? = some (a, hx_e tb tys h a) := va_pl_get (X := []) ha
theorem hx_e_obj {tb : List hx_d} {tys : hx_y} {h : hx_h} {a t ci : Nat} {fs : List hx_f} (ht : h.1 a = t) (hd : tb[t]? = some (.inl (ci, fs))) : hx_e tb tys h a = .inr (ci, hx_fs fs h a) := by
  unfold hx_e
  rw [ht, hd]
theorem hx_e_arr {tb : List hx_d} {tys : hx_y} {h : hx_h} {a t t0 n : Nat} {f : hx_f} (ht : h.1 a = t) (hd : tb[t]? = some (.inr (t0, n, f))) : hx_e tb tys h a = .inl (hx_t tys t0, hx_a n f h a) := by
  unfold hx_e
  rw [ht, hd]
/-- a change of one cell, as the world sees it -/
theorem hx_set {tb : List hx_d} {tys : hx_y} {A : Nat → Prop} {L : List Nat} {h h1 : hx_h} {a k : Nat} {e : va_E} (hD : va_D A (hx_p tb tys L h)) (ha : a ∈ L) (hk : (hx_p tb tys L h)[k]? = some (a, hx_e tb tys h a)) (he : hx_e tb tys h1 a = e) (hn : ∀ b, b ≠ a → hx_e tb tys h1 b = hx_e tb tys h b) : (hx_p tb tys L h).set k (a, e) = hx_p tb tys L h1 := by
  have h1 := va_pl_set (X := []) (e := e) hD ha hk
  refine h1.trans ?_
  refine va_pl_congr (fun b => ?_)
  by_cases hb : b = a
  · subst hb
    rw [va_up_self, he]
  · rw [va_up_ne _ _ hb, hn b hb]
theorem hx_T.gi {tb : List hx_d} {L : List Nat} {h : hx_h} {a t ci k : Nat} {fs : List hx_f} {b : Int × Int} (hT : hx_T tb L h) (g : hx_g L h a t) (hd : tb[t]? = some (.inl (ci, fs))) (hf : fs[k]? = some (.inl b)) : b.1 ≤ (h.2.1 a k).toInt ∧ (h.2.1 a k).toInt ≤ b.2 := by
  have h0 := hT a g.1
  unfold hx_c at h0
  rw [g.2, hd] at h0
  exact h0 k _ hf
theorem hx_T.gr {tb : List hx_d} {L : List Nat} {h : hx_h} {a t ci k : Nat} {fs : List hx_f} {b : Bool × List Nat} (hT : hx_T tb L h) (g : hx_g L h a t) (hd : tb[t]? = some (.inl (ci, fs))) (hf : fs[k]? = some (.inr b)) : (b.1 = true → h.2.2 a k ≠ none) ∧ ∀ q, h.2.2 a k = some q → q ∈ L ∧ h.1 q ∈ b.2 := by
  have h0 := hT a g.1
  unfold hx_c at h0
  rw [g.2, hd] at h0
  exact h0 k _ hf
theorem hx_T.ei {tb : List hx_d} {L : List Nat} {h : hx_h} {a t t0 n k : Nat} {b : Int × Int} (hT : hx_T tb L h) (g : hx_g L h a t) (hd : tb[t]? = some (.inr (t0, n, .inl b))) (hk : k < n) : b.1 ≤ (h.2.1 a k).toInt ∧ (h.2.1 a k).toInt ≤ b.2 := by
  have h0 := hT a g.1
  unfold hx_c at h0
  rw [g.2, hd] at h0
  exact h0 k hk
theorem hx_T.er {tb : List hx_d} {L : List Nat} {h : hx_h} {a t t0 n k : Nat} {b : Bool × List Nat} (hT : hx_T tb L h) (g : hx_g L h a t) (hd : tb[t]? = some (.inr (t0, n, .inr b))) (hk : k < n) : (b.1 = true → h.2.2 a k ≠ none) ∧ ∀ q, h.2.2 a k = some q → q ∈ L ∧ h.1 q ∈ b.2 := by
  have h0 := hT a g.1
  unfold hx_c at h0
  rw [g.2, hd] at h0
  exact h0 k hk
theorem hx_T.pi {tb : List hx_d} {L : List Nat} {h : hx_h} {a t k : Nat} {x : Int32} {d : hx_d} (hT : hx_T tb L h) (g : hx_g L h a t) (hd : tb[t]? = some d) (hx : ∀ f, (match d with | .inl (_, fs) => fs[k]? = some f | .inr (_, _, f0) => f0 = f) → ∀ r, (match f with | .inl _ => True | .inr _ => r = h.2.2 a k) → hx_o L h f x r) : hx_T tb L (hx_pi h a k x) := by
  intro c hc
  have h0 := hT c hc
  unfold hx_c at h0 ⊢
  have e1 : (hx_pi h a k x).1 = h.1 := rfl
  have e2 : (hx_pi h a k x).2.2 = h.2.2 := rfl
  rw [e1, e2]
  by_cases hca : c = a
  · subst hca
    rw [g.2, hd] at h0 ⊢
    rcases d with ⟨ci, fs⟩ | ⟨t0, n, f0⟩
    · intro j f hj
      by_cases hjk : j = k
      · subst hjk
        rw [hx_pi_at]
        refine hx f hj _ ?_
        cases f <;> simp
      · rw [hx_pi_ne h x (fun z => hjk z.2)]
        exact h0 j f hj
    · intro j hj
      by_cases hjk : j = k
      · subst hjk
        rw [hx_pi_at]
        refine hx f0 rfl _ ?_
        cases f0 <;> simp
      · rw [hx_pi_ne h x (fun z => hjk z.2)]
        exact h0 j hj
  · have e3 : ∀ j, (hx_pi h a k x).2.1 c j = h.2.1 c j := fun j => hx_pi_ne h x (fun z => hca z.1)
    cases hd2 : tb[h.1 c]? with
    | none => rw [hd2] at h0; exact h0
    | some d2 =>
      rw [hd2] at h0
      rcases d2 with ⟨ci, fs⟩ | ⟨t0, n, f0⟩
      · intro j f hj
        rw [e3]
        exact h0 j f hj
      · intro j hj
        rw [e3]
        exact h0 j hj
theorem hx_T.pr {tb : List hx_d} {L : List Nat} {h : hx_h} {a t k : Nat} {x : Option Nat} {d : hx_d} (hT : hx_T tb L h) (g : hx_g L h a t) (hd : tb[t]? = some d) (hx : ∀ f, (match d with | .inl (_, fs) => fs[k]? = some f | .inr (_, _, f0) => f0 = f) → ∀ i, (match f with | .inl _ => i = h.2.1 a k | .inr _ => True) → hx_o L h f i x) : hx_T tb L (hx_pr h a k x) := by
  intro c hc
  have h0 := hT c hc
  unfold hx_c at h0 ⊢
  have e1 : (hx_pr h a k x).1 = h.1 := rfl
  have e2 : (hx_pr h a k x).2.1 = h.2.1 := rfl
  rw [e1, e2]
  by_cases hca : c = a
  · subst hca
    rw [g.2, hd] at h0 ⊢
    rcases d with ⟨ci, fs⟩ | ⟨t0, n, f0⟩
    · intro j f hj
      by_cases hjk : j = k
      · subst hjk
        rw [hx_pr_at]
        refine hx f hj _ ?_
        cases f <;> simp
      · rw [hx_pr_ne h x (fun z => hjk z.2)]
        exact h0 j f hj
    · intro j hj
      by_cases hjk : j = k
      · subst hjk
        rw [hx_pr_at]
        refine hx f0 rfl _ ?_
        cases f0 <;> simp
      · rw [hx_pr_ne h x (fun z => hjk z.2)]
        exact h0 j hj
  · have e3 : ∀ j, (hx_pr h a k x).2.2 c j = h.2.2 c j := fun j => hx_pr_ne h x (fun z => hca z.1)
    cases hd2 : tb[h.1 c]? with
    | none => rw [hd2] at h0; exact h0
    | some d2 =>
      rw [hd2] at h0
      rcases d2 with ⟨ci, fs⟩ | ⟨t0, n, f0⟩
      · intro j f hj
        rw [e3]
        exact h0 j f hj
      · intro j hj
        rw [e3]
        exact h0 j hj
theorem hx_S.pi {tb : List hx_d} {M : hx_m} {L L0 : List Nat} {h h0 : hx_h} {a t k : Nat} {x : Int32} (hS : hx_S tb M L0 h0 L h) (g : hx_g L h a t) (hm : match tb[t]? with | some (.inr _) => (t, 0) ∈ M | _ => (t, k) ∈ M) : hx_S tb M L0 h0 L (hx_pi h a k x) := by
  refine hS.tr ⟨fun q hq => ⟨hq, rfl⟩, fun q hq j hj => ⟨?_, rfl⟩⟩
  refine hx_pi_ne h x (fun z => ?_)
  rw [z.1, z.2, g.2] at hj
  revert hm hj
  cases tb[t]? with
  | none => exact fun u v => v u
  | some d => rcases d with ⟨ci, fs⟩ | ⟨t0, n, f⟩ <;> exact fun u v => v u
theorem hx_S.pr {tb : List hx_d} {M : hx_m} {L L0 : List Nat} {h h0 : hx_h} {a t k : Nat} {x : Option Nat} (hS : hx_S tb M L0 h0 L h) (g : hx_g L h a t) (hm : match tb[t]? with | some (.inr _) => (t, 0) ∈ M | _ => (t, k) ∈ M) : hx_S tb M L0 h0 L (hx_pr h a k x) := by
  refine hS.tr ⟨fun q hq => ⟨hq, rfl⟩, fun q hq j hj => ⟨rfl, ?_⟩⟩
  refine hx_pr_ne h x (fun z => ?_)
  rw [z.1, z.2, g.2] at hj
  revert hm hj
  cases tb[t]? with
  | none => exact fun u v => v u
  | some d => rcases d with ⟨ci, fs⟩ | ⟨t0, n, f⟩ <;> exact fun u v => v u
end
section
/-! ROWS over the typed heap -/
/-- what the program says of a class -/
def hx_C (Ts : List Cond) (cl : List vw_C) (ci : Nat) (C : String) (T : u_T) (N : Nat) (ty0 : Nat → FieldType) : Prop :=
  cl[ci]? = some (C, T, N) ∧ (∀ w ∈ u_ws C T N, w ∈ Ts) ∧ (∀ k, k < N → parseFieldDescriptor (T k).2.2.1 = some (ty0 k)) ∧ ∀ a, a < N → ∀ b, b < N → a ≠ b → (T a).2.1 ≠ (T b).2.1
section HXR
variable {p : Program} {l : Launch} {e : Env} {R : Room} {s : State} {m : MethodId} {args : Array Value} {below : List Frame} {meth : Method} {c : Code} {H : Heap} {locs : List Loc} {cells slots : Nat} {Q : State → Prop}
variable {cc : ByteArray} {pc : Nat} {ls : Array Slot} {rest : List Value} {D : va_G} {cl : List vw_C} {A : Nat → Prop} {a : Nat} {tys : hx_y} {H0 : Heap} {tb : List hx_d} {L : List Nat} {h : hx_h}
theorem hx_geti (hx : p.tables.exec = Jvm.exec) (hb : c.code = cc) {own C : String} {T : u_T} {N ci index : Nat} {Ts : List Cond} {ty0 : Nat → FieldType} (hts : ∀ w ∈ Ts, w.before args s = true) (hC : hx_C Ts cl ci C T N ty0) (hown : s.vm.findClass own = some m.cls) (hW : hx_W tb tys D cl A H0 L h s H locs) (hT : hx_T tb L h) {t : Nat} (g : hx_g L h a t) {fs : List hx_f} (hd : tb[t]? = some (.inl (ci, fs))) (k : Nat) (hk : k < N) {lo hi : Int} (hf : fs[k]? = some (.inl (lo, hi))) {ref nm ds : String} (hlink : Cond.fieldLink own index ref nm ds ∈ Ts) (hsame : (T k).1 = ref ∧ (T k).2.1 = nm ∧ (T k).2.2.1 = ds) (hdg : decode cc pc = .ok (.getfield index, 3))
    (kk : ∀ x : Int32, x = h.2.1 a k → lo ≤ x.toInt → x.toInt ≤ hi → W p l e R s m args below meth c H locs cells slots Q (F0 m (pc + 3) ls (.int x :: rest))) : W p l e R s m args below meth c H locs cells slots Q (F0 m pc ls (.ref a :: rest)) := by
  obtain ⟨k0, hk0⟩ := hx_at (tb := tb) (tys := tys) (h := h) g.1
  rw [hx_e_obj g.2 hd] at hk0
  obtain ⟨hlo, hhi⟩ := hx_T.gi hT g hd hf
  obtain ⟨rfl, rfl, rfl⟩ := hsame
  exact va_get (v := .int (h.2.1 a k)) hx hb hts hC.2.1 hown hW.1 hW.2.1 k0 hk0 hC.1 k hk (hts _ hlink) (fun _ h9 => h9) (hx_fs_get hf) hdg (kk _ rfl hlo hhi)
theorem hx_getr (hx : p.tables.exec = Jvm.exec) (hb : c.code = cc) {own C : String} {T : u_T} {N ci index : Nat} {Ts : List Cond} {ty0 : Nat → FieldType} (hts : ∀ w ∈ Ts, w.before args s = true) (hC : hx_C Ts cl ci C T N ty0) (hown : s.vm.findClass own = some m.cls) (hW : hx_W tb tys D cl A H0 L h s H locs) (hT : hx_T tb L h) {t : Nat} (g : hx_g L h a t) {fs : List hx_f} (hd : tb[t]? = some (.inl (ci, fs))) (k : Nat) (hk : k < N) {nn : Bool} {tt : List Nat} (hf : fs[k]? = some (.inr (nn, tt))) {ref nm ds : String} (hlink : Cond.fieldLink own index ref nm ds ∈ Ts) (hsame : (T k).1 = ref ∧ (T k).2.1 = nm ∧ (T k).2.2.1 = ds) (hdg : decode cc pc = .ok (.getfield index, 3))
    (kk : ∀ r : Option Nat, r = h.2.2 a k → (nn = true → r ≠ none) → (∀ q, r = some q → q ∈ L ∧ h.1 q ∈ tt) → W p l e R s m args below meth c H locs cells slots Q (F0 m (pc + 3) ls (va_rf r :: rest))) : W p l e R s m args below meth c H locs cells slots Q (F0 m pc ls (.ref a :: rest)) := by
  obtain ⟨k0, hk0⟩ := hx_at (tb := tb) (tys := tys) (h := h) g.1
  rw [hx_e_obj g.2 hd] at hk0
  obtain ⟨h1, h2⟩ := hx_T.gr hT g hd hf
  obtain ⟨rfl, rfl, rfl⟩ := hsame
  exact va_get (v := va_rf (h.2.2 a k)) hx hb hts hC.2.1 hown hW.1 hW.2.1 k0 hk0 hC.1 k hk (hts _ hlink) (fun _ h9 => h9) (hx_fs_get hf) hdg (kk _ rfl h1 h2)
/-- a reference that is never null, of one tag -/
theorem hx_getn (hx : p.tables.exec = Jvm.exec) (hb : c.code = cc) {own C : String} {T : u_T} {N ci index : Nat} {Ts : List Cond} {ty0 : Nat → FieldType} (hts : ∀ w ∈ Ts, w.before args s = true) (hC : hx_C Ts cl ci C T N ty0) (hown : s.vm.findClass own = some m.cls) (hW : hx_W tb tys D cl A H0 L h s H locs) (hT : hx_T tb L h) {t : Nat} (g : hx_g L h a t) {fs : List hx_f} (hd : tb[t]? = some (.inl (ci, fs))) (k : Nat) (hk : k < N) {t1 : Nat} (hf : fs[k]? = some (.inr (true, [t1]))) {ref nm ds : String} (hlink : Cond.fieldLink own index ref nm ds ∈ Ts) (hsame : (T k).1 = ref ∧ (T k).2.1 = nm ∧ (T k).2.2.1 = ds) (hdg : decode cc pc = .ok (.getfield index, 3))
    (kk : ∀ q : Nat, h.2.2 a k = some q → hx_g L h q t1 → W p l e R s m args below meth c H locs cells slots Q (F0 m (pc + 3) ls (.ref q :: rest))) : W p l e R s m args below meth c H locs cells slots Q (F0 m pc ls (.ref a :: rest)) := by
  refine hx_getr hx hb hts hC hown hW hT g hd k hk hf hlink hsame hdg fun r hr h1 h2 => ?_
  rcases r with _ | q
  · exact absurd rfl (h1 rfl)
  · obtain ⟨u1, u2⟩ := h2 q rfl
    exact kk q hr.symm ⟨u1, by simpa using u2⟩
theorem hx_puti (hx : p.tables.exec = Jvm.exec) (hb : c.code = cc) {own C : String} {T : u_T} {N ci index : Nat} {Ts : List Cond} {ty0 : Nat → FieldType} (hts : ∀ w ∈ Ts, w.before args s = true) (hC : hx_C Ts cl ci C T N ty0) (hown : s.vm.findClass own = some m.cls) (hW : hx_W tb tys D cl A H0 L h s H locs) (hT : hx_T tb L h) {M : hx_m} {L0 : List Nat} {h0 : hx_h} (hM : hx_S tb M L0 h0 L h) {t : Nat} (g : hx_g L h a t) {fs : List hx_f} (hd : tb[t]? = some (.inl (ci, fs))) (k : Nat) (hk : k < N) {lo hi : Int} (hf : fs[k]? = some (.inl (lo, hi))) {ref nm ds : String} (hlink : Cond.fieldLink own index ref nm ds ∈ Ts) (hsame : (T k).1 = ref ∧ (T k).2.1 = nm ∧ (T k).2.2.1 = ds) (hfin : (T k).2.2.2 = false) {x : Int32} (hx1 : lo ≤ x.toInt ∧ x.toInt ≤ hi) {ty : FieldType} (hty : ty0 k = ty) (hn : narrow ty (.int x) = .int x) (hfit : fits ty (.int x) = true) (hm : (t, k) ∈ M) (hdg : decode cc pc = .ok (.putfield index, 3))
    (kk : ∀ (H1 : Heap) (locs1 : List Loc) (h1 : hx_h), h1 = hx_pi h a k x → hx_W tb tys D cl A H0 L h1 s H1 locs1 → hx_T tb L h1 → hx_S tb M L0 h0 L h1 → W p l e R s m args below meth c H1 locs1 cells slots Q (F0 m (pc + 3) ls rest)) : W p l e R s m args below meth c H locs cells slots Q (F0 m pc ls (.int x :: .ref a :: rest)) := by
  obtain ⟨k0, hk0⟩ := hx_at (tb := tb) (tys := tys) (h := h) g.1
  have hk1 := hk0
  rw [hx_e_obj g.2 hd] at hk0
  obtain ⟨rfl, rfl, rfl⟩ := hsame
  subst hty
  obtain ⟨hK, hP, hD, hS, hA⟩ := hW
  refine va_put (v := .int x) (ty := ty0 k) hx hb hts hC.2.1 ty0 hC.2.2.1 hC.2.2.2 hown hK hP hD hS k0 hk0 hC.1 k hk (hts _ hlink) (fun _ h9 => h9) hfin (hC.2.2.1 k hk) hn hfit (by rw [hx_fs_len]; exact (List.getElem?_eq_some_iff.mp hf).1) hdg (fun H1 locs1 hP2 hD2 hS2 => ?_)
  have he : hx_e tb tys (hx_pi h a k x) a = .inr (ci, (hx_fs fs h a).set k (.int x)) := by
    rw [hx_e_obj (h := hx_pi h a k x) g.2 hd, hx_fs_pi hf]
  rw [hx_set (h1 := hx_pi h a k x) hD g.1 hk1 he (fun b hb => hx_e_pi hb)] at hP2 hD2
  refine kk H1 locs1 _ rfl ⟨hK, hP2, hD2, hS2, hA⟩ (hT.pi g hd ?_) (hM.pi g (by rw [hd]; exact hm))
  intro f hf2 r _
  have := hf.symm.trans hf2
  cases this
  exact hx1
theorem hx_putr (hx : p.tables.exec = Jvm.exec) (hb : c.code = cc) {own C : String} {T : u_T} {N ci index : Nat} {Ts : List Cond} {ty0 : Nat → FieldType} (hts : ∀ w ∈ Ts, w.before args s = true) (hC : hx_C Ts cl ci C T N ty0) (hown : s.vm.findClass own = some m.cls) (hW : hx_W tb tys D cl A H0 L h s H locs) (hT : hx_T tb L h) {M : hx_m} {L0 : List Nat} {h0 : hx_h} (hM : hx_S tb M L0 h0 L h) {t : Nat} (g : hx_g L h a t) {fs : List hx_f} (hd : tb[t]? = some (.inl (ci, fs))) (k : Nat) (hk : k < N) {nn : Bool} {tt : List Nat} (hf : fs[k]? = some (.inr (nn, tt))) {ref nm ds : String} (hlink : Cond.fieldLink own index ref nm ds ∈ Ts) (hsame : (T k).1 = ref ∧ (T k).2.1 = nm ∧ (T k).2.2.1 = ds) (hfin : (T k).2.2.2 = false) {x : Option Nat} (hx1 : (nn = true → x ≠ none) ∧ ∀ q, x = some q → q ∈ L ∧ h.1 q ∈ tt) {ty : FieldType} (hty : ty0 k = ty) (hn : narrow ty (va_rf x) = va_rf x) (hfit : fits ty (va_rf x) = true) (hm : (t, k) ∈ M) (hdg : decode cc pc = .ok (.putfield index, 3))
    (kk : ∀ (H1 : Heap) (locs1 : List Loc) (h1 : hx_h), h1 = hx_pr h a k x → hx_W tb tys D cl A H0 L h1 s H1 locs1 → hx_T tb L h1 → hx_S tb M L0 h0 L h1 → W p l e R s m args below meth c H1 locs1 cells slots Q (F0 m (pc + 3) ls rest)) : W p l e R s m args below meth c H locs cells slots Q (F0 m pc ls (va_rf x :: .ref a :: rest)) := by
  obtain ⟨k0, hk0⟩ := hx_at (tb := tb) (tys := tys) (h := h) g.1
  have hk1 := hk0
  rw [hx_e_obj g.2 hd] at hk0
  obtain ⟨rfl, rfl, rfl⟩ := hsame
  subst hty
  obtain ⟨hK, hP, hD, hS, hA⟩ := hW
  refine va_put (v := va_rf x) (ty := ty0 k) hx hb hts hC.2.1 ty0 hC.2.2.1 hC.2.2.2 hown hK hP hD hS k0 hk0 hC.1 k hk (hts _ hlink) (fun _ h9 => h9) hfin (hC.2.2.1 k hk) hn hfit (by rw [hx_fs_len]; exact (List.getElem?_eq_some_iff.mp hf).1) hdg (fun H1 locs1 hP2 hD2 hS2 => ?_)
  have he : hx_e tb tys (hx_pr h a k x) a = .inr (ci, (hx_fs fs h a).set k (va_rf x)) := by
    rw [hx_e_obj (h := hx_pr h a k x) g.2 hd, hx_fs_pr hf]
  rw [hx_set (h1 := hx_pr h a k x) hD g.1 hk1 he (fun b hb => hx_e_pr hb)] at hP2 hD2
  refine kk H1 locs1 _ rfl ⟨hK, hP2, hD2, hS2, hA⟩ (hT.pr g hd ?_) (hM.pr g (by rw [hd]; exact hm))
  intro f hf2 r _
  have := hf.symm.trans hf2
  cases this
  exact hx1
theorem hx_putiF (hx : p.tables.exec = Jvm.exec) (hb : c.code = cc) {own C : String} {T : u_T} {N ci index : Nat} {Ts : List Cond} {ty0 : Nat → FieldType} (hts : ∀ w ∈ Ts, w.before args s = true) (hC : hx_C Ts cl ci C T N ty0) (hown : s.vm.findClass own = some m.cls) (hW : hx_W tb tys D cl A H0 L h s H locs) (hT : hx_T tb L h) {M : hx_m} {L0 : List Nat} {h0 : hx_h} (hM : hx_S tb M L0 h0 L h) {t : Nat} (g : hx_g L h a t) {fs : List hx_f} (hd : tb[t]? = some (.inl (ci, fs))) (k : Nat) (hk : k < N) {lo hi : Int} (hf : fs[k]? = some (.inl (lo, hi))) {ref nm ds : String} (hlink : Cond.fieldLink own index ref nm ds ∈ Ts) (hsame : (T k).1 = ref ∧ (T k).2.1 = nm ∧ (T k).2.2.1 = ds) (hfin : (T k).2.2.2 = true) (hin2 : meth.name = "<init>") (hdecl : (T k).1 = own) {x : Int32} (hx1 : lo ≤ x.toInt ∧ x.toInt ≤ hi) {ty : FieldType} (hty : ty0 k = ty) (hn : narrow ty (.int x) = .int x) (hfit : fits ty (.int x) = true) (hm : (t, k) ∈ M) (hdg : decode cc pc = .ok (.putfield index, 3))
    (kk : ∀ (H1 : Heap) (locs1 : List Loc) (h1 : hx_h), h1 = hx_pi h a k x → hx_W tb tys D cl A H0 L h1 s H1 locs1 → hx_T tb L h1 → hx_S tb M L0 h0 L h1 → W p l e R s m args below meth c H1 locs1 cells slots Q (F0 m (pc + 3) ls rest)) : W p l e R s m args below meth c H locs cells slots Q (F0 m pc ls (.int x :: .ref a :: rest)) := by
  obtain ⟨k0, hk0⟩ := hx_at (tb := tb) (tys := tys) (h := h) g.1
  have hk1 := hk0
  rw [hx_e_obj g.2 hd] at hk0
  obtain ⟨rfl, rfl, rfl⟩ := hsame
  subst hty
  obtain ⟨hK, hP, hD, hS, hA⟩ := hW
  refine va_putF (v := .int x) (ty := ty0 k) hx hb hts hC.2.1 ty0 hC.2.2.1 hC.2.2.2 hown hK hP hD hS k0 hk0 hC.1 k hk (hts _ hlink) (fun _ h9 => h9) hfin hin2 hdecl (hC.2.2.1 k hk) hn hfit (by rw [hx_fs_len]; exact (List.getElem?_eq_some_iff.mp hf).1) hdg (fun H1 locs1 hP2 hD2 hS2 => ?_)
  have he : hx_e tb tys (hx_pi h a k x) a = .inr (ci, (hx_fs fs h a).set k (.int x)) := by
    rw [hx_e_obj (h := hx_pi h a k x) g.2 hd, hx_fs_pi hf]
  rw [hx_set (h1 := hx_pi h a k x) hD g.1 hk1 he (fun b hb => hx_e_pi hb)] at hP2 hD2
  refine kk H1 locs1 _ rfl ⟨hK, hP2, hD2, hS2, hA⟩ (hT.pi g hd ?_) (hM.pi g (by rw [hd]; exact hm))
  intro f hf2 r _
  have := hf.symm.trans hf2
  cases this
  exact hx1
theorem hx_putrF (hx : p.tables.exec = Jvm.exec) (hb : c.code = cc) {own C : String} {T : u_T} {N ci index : Nat} {Ts : List Cond} {ty0 : Nat → FieldType} (hts : ∀ w ∈ Ts, w.before args s = true) (hC : hx_C Ts cl ci C T N ty0) (hown : s.vm.findClass own = some m.cls) (hW : hx_W tb tys D cl A H0 L h s H locs) (hT : hx_T tb L h) {M : hx_m} {L0 : List Nat} {h0 : hx_h} (hM : hx_S tb M L0 h0 L h) {t : Nat} (g : hx_g L h a t) {fs : List hx_f} (hd : tb[t]? = some (.inl (ci, fs))) (k : Nat) (hk : k < N) {nn : Bool} {tt : List Nat} (hf : fs[k]? = some (.inr (nn, tt))) {ref nm ds : String} (hlink : Cond.fieldLink own index ref nm ds ∈ Ts) (hsame : (T k).1 = ref ∧ (T k).2.1 = nm ∧ (T k).2.2.1 = ds) (hfin : (T k).2.2.2 = true) (hin2 : meth.name = "<init>") (hdecl : (T k).1 = own) {x : Option Nat} (hx1 : (nn = true → x ≠ none) ∧ ∀ q, x = some q → q ∈ L ∧ h.1 q ∈ tt) {ty : FieldType} (hty : ty0 k = ty) (hn : narrow ty (va_rf x) = va_rf x) (hfit : fits ty (va_rf x) = true) (hm : (t, k) ∈ M) (hdg : decode cc pc = .ok (.putfield index, 3))
    (kk : ∀ (H1 : Heap) (locs1 : List Loc) (h1 : hx_h), h1 = hx_pr h a k x → hx_W tb tys D cl A H0 L h1 s H1 locs1 → hx_T tb L h1 → hx_S tb M L0 h0 L h1 → W p l e R s m args below meth c H1 locs1 cells slots Q (F0 m (pc + 3) ls rest)) : W p l e R s m args below meth c H locs cells slots Q (F0 m pc ls (va_rf x :: .ref a :: rest)) := by
  obtain ⟨k0, hk0⟩ := hx_at (tb := tb) (tys := tys) (h := h) g.1
  have hk1 := hk0
  rw [hx_e_obj g.2 hd] at hk0
  obtain ⟨rfl, rfl, rfl⟩ := hsame
  subst hty
  obtain ⟨hK, hP, hD, hS, hA⟩ := hW
  refine va_putF (v := va_rf x) (ty := ty0 k) hx hb hts hC.2.1 ty0 hC.2.2.1 hC.2.2.2 hown hK hP hD hS k0 hk0 hC.1 k hk (hts _ hlink) (fun _ h9 => h9) hfin hin2 hdecl (hC.2.2.1 k hk) hn hfit (by rw [hx_fs_len]; exact (List.getElem?_eq_some_iff.mp hf).1) hdg (fun H1 locs1 hP2 hD2 hS2 => ?_)
  have he : hx_e tb tys (hx_pr h a k x) a = .inr (ci, (hx_fs fs h a).set k (va_rf x)) := by
    rw [hx_e_obj (h := hx_pr h a k x) g.2 hd, hx_fs_pr hf]
  rw [hx_set (h1 := hx_pr h a k x) hD g.1 hk1 he (fun b hb => hx_e_pr hb)] at hP2 hD2
  refine kk H1 locs1 _ rfl ⟨hK, hP2, hD2, hS2, hA⟩ (hT.pr g hd ?_) (hM.pr g (by rw [hd]; exact hm))
  intro f hf2 r _
  have := hf.symm.trans hf2
  cases this
  exact hx1
theorem hx_iald (hx : p.tables.exec = Jvm.exec) (hb : c.code = cc) (hW : hx_W tb tys D cl A H0 L h s H locs) (hT : hx_T tb L h) {t : Nat} (g : hx_g L h a t) {t0 n : Nat} {lo hi : Int} (hd : tb[t]? = some (.inr (t0, n, .inl (lo, hi)))) {cA : ClassId} (ht : tys[t0]? = some (cA, .int)) {i : Int32} (hin : 0 ≤ i.toInt ∧ i.toInt < n) (hdg : decode cc pc = .ok (.iaload, 1))
    (kk : ∀ x : Int32, x = h.2.1 a i.toNatClampNeg → lo ≤ x.toInt → x.toInt ≤ hi → W p l e R s m args below meth c H locs cells slots Q (F0 m (pc + 1) ls (.int x :: rest))) : W p l e R s m args below meth c H locs cells slots Q (F0 m pc ls (.int i :: .ref a :: rest)) := by
  obtain ⟨k0, hk0⟩ := hx_at (tb := tb) (tys := tys) (h := h) g.1
  rw [hx_e_arr g.2 hd] at hk0
  have hin2 : vp_in i n := vp_in_iff.mpr hin
  have hlt : i.toNatClampNeg < n := Nat.not_le.mp fun q => hin2 (Or.inr q)
  obtain ⟨h1, h2⟩ := hx_T.ei hT g hd hlt
  have hcA : hx_t tys t0 = cA := by simp [hx_t, ht]
  rw [hcA] at hk0
  exact va_iald hx hb hW.1 hW.2.1 k0 t0 hk0 ht hin2 hdg (kk _ rfl h1 h2)
theorem hx_bald (hx : p.tables.exec = Jvm.exec) (hb : c.code = cc) (hW : hx_W tb tys D cl A H0 L h s H locs) (hT : hx_T tb L h) {t : Nat} (g : hx_g L h a t) {t0 n : Nat} {lo hi : Int} (hd : tb[t]? = some (.inr (t0, n, .inl (lo, hi)))) {cA : ClassId} (ht : tys[t0]? = some (cA, .byte)) {i : Int32} (hin : 0 ≤ i.toInt ∧ i.toInt < n) (hdg : decode cc pc = .ok (.baload, 1))
    (kk : ∀ x : Int32, x = h.2.1 a i.toNatClampNeg → lo ≤ x.toInt → x.toInt ≤ hi → W p l e R s m args below meth c H locs cells slots Q (F0 m (pc + 1) ls (.int x :: rest))) : W p l e R s m args below meth c H locs cells slots Q (F0 m pc ls (.int i :: .ref a :: rest)) := by
  obtain ⟨k0, hk0⟩ := hx_at (tb := tb) (tys := tys) (h := h) g.1
  rw [hx_e_arr g.2 hd] at hk0
  have hin2 : vp_in i n := vp_in_iff.mpr hin
  have hlt : i.toNatClampNeg < n := Nat.not_le.mp fun q => hin2 (Or.inr q)
  obtain ⟨h1, h2⟩ := hx_T.ei hT g hd hlt
  have hcA : hx_t tys t0 = cA := by simp [hx_t, ht]
  rw [hcA] at hk0
  exact va_bald hx hb hW.1 hW.2.1 k0 t0 hk0 ht hin2 hdg (kk _ rfl h1 h2)
theorem hx_zald (hx : p.tables.exec = Jvm.exec) (hb : c.code = cc) (hW : hx_W tb tys D cl A H0 L h s H locs) (hT : hx_T tb L h) {t : Nat} (g : hx_g L h a t) {t0 n : Nat} {lo hi : Int} (hd : tb[t]? = some (.inr (t0, n, .inl (lo, hi)))) {cA : ClassId} (ht : tys[t0]? = some (cA, .boolean)) {i : Int32} (hin : 0 ≤ i.toInt ∧ i.toInt < n) (hdg : decode cc pc = .ok (.baload, 1))
    (kk : ∀ x : Int32, x = h.2.1 a i.toNatClampNeg → lo ≤ x.toInt → x.toInt ≤ hi → W p l e R s m args below meth c H locs cells slots Q (F0 m (pc + 1) ls (.int x :: rest))) : W p l e R s m args below meth c H locs cells slots Q (F0 m pc ls (.int i :: .ref a :: rest)) := by
  obtain ⟨k0, hk0⟩ := hx_at (tb := tb) (tys := tys) (h := h) g.1
  rw [hx_e_arr g.2 hd] at hk0
  have hin2 : vp_in i n := vp_in_iff.mpr hin
  have hlt : i.toNatClampNeg < n := Nat.not_le.mp fun q => hin2 (Or.inr q)
  obtain ⟨h1, h2⟩ := hx_T.ei hT g hd hlt
  have hcA : hx_t tys t0 = cA := by simp [hx_t, ht]
  rw [hcA] at hk0
  exact va_zald hx hb hW.1 hW.2.1 k0 t0 hk0 ht hin2 hdg (kk _ rfl h1 h2)
theorem hx_cald (hx : p.tables.exec = Jvm.exec) (hb : c.code = cc) (hW : hx_W tb tys D cl A H0 L h s H locs) (hT : hx_T tb L h) {t : Nat} (g : hx_g L h a t) {t0 n : Nat} {lo hi : Int} (hd : tb[t]? = some (.inr (t0, n, .inl (lo, hi)))) {cA : ClassId} (ht : tys[t0]? = some (cA, .char)) {i : Int32} (hin : 0 ≤ i.toInt ∧ i.toInt < n) (hdg : decode cc pc = .ok (.caload, 1))
    (kk : ∀ x : Int32, x = h.2.1 a i.toNatClampNeg → lo ≤ x.toInt → x.toInt ≤ hi → W p l e R s m args below meth c H locs cells slots Q (F0 m (pc + 1) ls (.int x :: rest))) : W p l e R s m args below meth c H locs cells slots Q (F0 m pc ls (.int i :: .ref a :: rest)) := by
  obtain ⟨k0, hk0⟩ := hx_at (tb := tb) (tys := tys) (h := h) g.1
  rw [hx_e_arr g.2 hd] at hk0
  have hin2 : vp_in i n := vp_in_iff.mpr hin
  have hlt : i.toNatClampNeg < n := Nat.not_le.mp fun q => hin2 (Or.inr q)
  obtain ⟨h1, h2⟩ := hx_T.ei hT g hd hlt
  have hcA : hx_t tys t0 = cA := by simp [hx_t, ht]
  rw [hcA] at hk0
  exact va_cald hx hb hW.1 hW.2.1 k0 t0 hk0 ht hin2 hdg (kk _ rfl h1 h2)
theorem hx_sald (hx : p.tables.exec = Jvm.exec) (hb : c.code = cc) (hW : hx_W tb tys D cl A H0 L h s H locs) (hT : hx_T tb L h) {t : Nat} (g : hx_g L h a t) {t0 n : Nat} {lo hi : Int} (hd : tb[t]? = some (.inr (t0, n, .inl (lo, hi)))) {cA : ClassId} (ht : tys[t0]? = some (cA, .short)) {i : Int32} (hin : 0 ≤ i.toInt ∧ i.toInt < n) (hdg : decode cc pc = .ok (.saload, 1))
    (kk : ∀ x : Int32, x = h.2.1 a i.toNatClampNeg → lo ≤ x.toInt → x.toInt ≤ hi → W p l e R s m args below meth c H locs cells slots Q (F0 m (pc + 1) ls (.int x :: rest))) : W p l e R s m args below meth c H locs cells slots Q (F0 m pc ls (.int i :: .ref a :: rest)) := by
  obtain ⟨k0, hk0⟩ := hx_at (tb := tb) (tys := tys) (h := h) g.1
  rw [hx_e_arr g.2 hd] at hk0
  have hin2 : vp_in i n := vp_in_iff.mpr hin
  have hlt : i.toNatClampNeg < n := Nat.not_le.mp fun q => hin2 (Or.inr q)
  obtain ⟨h1, h2⟩ := hx_T.ei hT g hd hlt
  have hcA : hx_t tys t0 = cA := by simp [hx_t, ht]
  rw [hcA] at hk0
  exact va_sald hx hb hW.1 hW.2.1 k0 t0 hk0 ht hin2 hdg (kk _ rfl h1 h2)
theorem hx_aald (hx : p.tables.exec = Jvm.exec) (hb : c.code = cc) (hW : hx_W tb tys D cl A H0 L h s H locs) (hT : hx_T tb L h) {t : Nat} (g : hx_g L h a t) {t0 n : Nat} {nn : Bool} {tt : List Nat} (hd : tb[t]? = some (.inr (t0, n, .inr (nn, tt)))) {cA : ClassId} {C : String} (ht : tys[t0]? = some (cA, .object C)) {i : Int32} (hin : 0 ≤ i.toInt ∧ i.toInt < n) (hdg : decode cc pc = .ok (.aaload, 1))
    (kk : ∀ r : Option Nat, r = h.2.2 a i.toNatClampNeg → (nn = true → r ≠ none) → (∀ q, r = some q → q ∈ L ∧ h.1 q ∈ tt) → W p l e R s m args below meth c H locs cells slots Q (F0 m (pc + 1) ls (va_rf r :: rest))) : W p l e R s m args below meth c H locs cells slots Q (F0 m pc ls (.int i :: .ref a :: rest)) := by
  obtain ⟨k0, hk0⟩ := hx_at (tb := tb) (tys := tys) (h := h) g.1
  rw [hx_e_arr g.2 hd] at hk0
  have hin2 : vp_in i n := vp_in_iff.mpr hin
  have hlt : i.toNatClampNeg < n := Nat.not_le.mp fun q => hin2 (Or.inr q)
  obtain ⟨h1, h2⟩ := hx_T.er hT g hd hlt
  have hcA : hx_t tys t0 = cA := by simp [hx_t, ht]
  rw [hcA] at hk0
  exact va_aldq hx hb hW.1 hW.2.1 k0 t0 hk0 ht hin2 hdg (kk _ rfl h1 h2)
theorem hx_iast (hx : p.tables.exec = Jvm.exec) (hb : c.code = cc) (hW : hx_W tb tys D cl A H0 L h s H locs) (hT : hx_T tb L h) {M : hx_m} {L0 : List Nat} {h0 : hx_h} (hM : hx_S tb M L0 h0 L h) {t : Nat} (g : hx_g L h a t) {t0 n : Nat} {lo hi : Int} (hd : tb[t]? = some (.inr (t0, n, .inl (lo, hi)))) {cA : ClassId} (ht : tys[t0]? = some (cA, .int)) {i x y : Int32} (hin : 0 ≤ i.toInt ∧ i.toInt < n) (hy : x = y) (hx1 : lo ≤ y.toInt ∧ y.toInt ≤ hi) (hm : (t, 0) ∈ M) (hdg : decode cc pc = .ok (.iastore, 1))
    (kk : ∀ (H1 : Heap) (locs1 : List Loc) (h1 : hx_h), h1 = hx_pi h a i.toNatClampNeg y → hx_W tb tys D cl A H0 L h1 s H1 locs1 → hx_T tb L h1 → hx_S tb M L0 h0 L h1 → W p l e R s m args below meth c H1 locs1 cells slots Q (F0 m (pc + 1) ls rest)) : W p l e R s m args below meth c H locs cells slots Q (F0 m pc ls (.int x :: .int i :: .ref a :: rest)) := by
  obtain ⟨k0, hk0⟩ := hx_at (tb := tb) (tys := tys) (h := h) g.1
  have hk1 := hk0
  rw [hx_e_arr g.2 hd] at hk0
  have hin2 : vp_in i n := vp_in_iff.mpr hin
  have hcA : hx_t tys t0 = cA := by simp [hx_t, ht]
  rw [hcA] at hk0
  obtain ⟨hK, hP, hD, hS, hA⟩ := hW
  refine va_iast hx hb hK hP hD hS k0 t0 hk0 ht hin2 hdg (fun H1 locs1 hP2 hD2 hS2 => ?_)
  rw [hy] at hP2 hD2
  have he : hx_e tb tys (hx_pi h a i.toNatClampNeg y) a = .inl (cA, n, .inl (upd (h.2.1 a) i.toNatClampNeg y)) := by
    rw [hx_e_arr (h := hx_pi h a i.toNatClampNeg y) g.2 hd, hcA]
    simp only [hx_a, hx_pi]
    congr 4
    funext j
    simp [upd]
  rw [hx_set (h1 := hx_pi h a i.toNatClampNeg y) hD g.1 hk1 he (fun b hb => hx_e_pi hb)] at hP2 hD2
  refine kk H1 locs1 _ rfl ⟨hK, hP2, hD2, hS2, hA⟩ (hT.pi g hd ?_) (hM.pi g (by rw [hd]; exact hm))
  intro f hf2 r _
  cases hf2
  exact hx1
theorem hx_bast (hx : p.tables.exec = Jvm.exec) (hb : c.code = cc) (hW : hx_W tb tys D cl A H0 L h s H locs) (hT : hx_T tb L h) {M : hx_m} {L0 : List Nat} {h0 : hx_h} (hM : hx_S tb M L0 h0 L h) {t : Nat} (g : hx_g L h a t) {t0 n : Nat} {lo hi : Int} (hd : tb[t]? = some (.inr (t0, n, .inl (lo, hi)))) {cA : ClassId} (ht : tys[t0]? = some (cA, .byte)) {i x y : Int32} (hin : 0 ≤ i.toInt ∧ i.toInt < n) (hy : (vp_nar .byte x) = y) (hx1 : lo ≤ y.toInt ∧ y.toInt ≤ hi) (hm : (t, 0) ∈ M) (hdg : decode cc pc = .ok (.bastore, 1))
    (kk : ∀ (H1 : Heap) (locs1 : List Loc) (h1 : hx_h), h1 = hx_pi h a i.toNatClampNeg y → hx_W tb tys D cl A H0 L h1 s H1 locs1 → hx_T tb L h1 → hx_S tb M L0 h0 L h1 → W p l e R s m args below meth c H1 locs1 cells slots Q (F0 m (pc + 1) ls rest)) : W p l e R s m args below meth c H locs cells slots Q (F0 m pc ls (.int x :: .int i :: .ref a :: rest)) := by
  obtain ⟨k0, hk0⟩ := hx_at (tb := tb) (tys := tys) (h := h) g.1
  have hk1 := hk0
  rw [hx_e_arr g.2 hd] at hk0
  have hin2 : vp_in i n := vp_in_iff.mpr hin
  have hcA : hx_t tys t0 = cA := by simp [hx_t, ht]
  rw [hcA] at hk0
  obtain ⟨hK, hP, hD, hS, hA⟩ := hW
  refine va_bast hx hb hK hP hD hS k0 t0 hk0 ht hin2 hdg (fun H1 locs1 hP2 hD2 hS2 => ?_)
  rw [hy] at hP2 hD2
  have he : hx_e tb tys (hx_pi h a i.toNatClampNeg y) a = .inl (cA, n, .inl (upd (h.2.1 a) i.toNatClampNeg y)) := by
    rw [hx_e_arr (h := hx_pi h a i.toNatClampNeg y) g.2 hd, hcA]
    simp only [hx_a, hx_pi]
    congr 4
    funext j
    simp [upd]
  rw [hx_set (h1 := hx_pi h a i.toNatClampNeg y) hD g.1 hk1 he (fun b hb => hx_e_pi hb)] at hP2 hD2
  refine kk H1 locs1 _ rfl ⟨hK, hP2, hD2, hS2, hA⟩ (hT.pi g hd ?_) (hM.pi g (by rw [hd]; exact hm))
  intro f hf2 r _
  cases hf2
  exact hx1
theorem hx_zast (hx : p.tables.exec = Jvm.exec) (hb : c.code = cc) (hW : hx_W tb tys D cl A H0 L h s H locs) (hT : hx_T tb L h) {M : hx_m} {L0 : List Nat} {h0 : hx_h} (hM : hx_S tb M L0 h0 L h) {t : Nat} (g : hx_g L h a t) {t0 n : Nat} {lo hi : Int} (hd : tb[t]? = some (.inr (t0, n, .inl (lo, hi)))) {cA : ClassId} (ht : tys[t0]? = some (cA, .boolean)) {i x y : Int32} (hin : 0 ≤ i.toInt ∧ i.toInt < n) (hy : (vp_nar .boolean x) = y) (hx1 : lo ≤ y.toInt ∧ y.toInt ≤ hi) (hm : (t, 0) ∈ M) (hdg : decode cc pc = .ok (.bastore, 1))
    (kk : ∀ (H1 : Heap) (locs1 : List Loc) (h1 : hx_h), h1 = hx_pi h a i.toNatClampNeg y → hx_W tb tys D cl A H0 L h1 s H1 locs1 → hx_T tb L h1 → hx_S tb M L0 h0 L h1 → W p l e R s m args below meth c H1 locs1 cells slots Q (F0 m (pc + 1) ls rest)) : W p l e R s m args below meth c H locs cells slots Q (F0 m pc ls (.int x :: .int i :: .ref a :: rest)) := by
  obtain ⟨k0, hk0⟩ := hx_at (tb := tb) (tys := tys) (h := h) g.1
  have hk1 := hk0
  rw [hx_e_arr g.2 hd] at hk0
  have hin2 : vp_in i n := vp_in_iff.mpr hin
  have hcA : hx_t tys t0 = cA := by simp [hx_t, ht]
  rw [hcA] at hk0
  obtain ⟨hK, hP, hD, hS, hA⟩ := hW
  refine va_zast hx hb hK hP hD hS k0 t0 hk0 ht hin2 hdg (fun H1 locs1 hP2 hD2 hS2 => ?_)
  rw [hy] at hP2 hD2
  have he : hx_e tb tys (hx_pi h a i.toNatClampNeg y) a = .inl (cA, n, .inl (upd (h.2.1 a) i.toNatClampNeg y)) := by
    rw [hx_e_arr (h := hx_pi h a i.toNatClampNeg y) g.2 hd, hcA]
    simp only [hx_a, hx_pi]
    congr 4
    funext j
    simp [upd]
  rw [hx_set (h1 := hx_pi h a i.toNatClampNeg y) hD g.1 hk1 he (fun b hb => hx_e_pi hb)] at hP2 hD2
  refine kk H1 locs1 _ rfl ⟨hK, hP2, hD2, hS2, hA⟩ (hT.pi g hd ?_) (hM.pi g (by rw [hd]; exact hm))
  intro f hf2 r _
  cases hf2
  exact hx1
theorem hx_aast (hx : p.tables.exec = Jvm.exec) (hb : c.code = cc) (hW : hx_W tb tys D cl A H0 L h s H locs) (hT : hx_T tb L h) {M : hx_m} {L0 : List Nat} {h0 : hx_h} (hM : hx_S tb M L0 h0 L h) {t : Nat} (g : hx_g L h a t) {t0 n : Nat} {nn : Bool} {tt : List Nat} (hd : tb[t]? = some (.inr (t0, n, .inr (nn, tt)))) {cA : ClassId} {r : vw_C} (ht : tys[t0]? = some (cA, .object r.1)) {v t1 ci : Nat} {fs : List hx_f} (gv : hx_g L h v t1) (hd1 : tb[t1]? = some (.inl (ci, fs))) (hc : cl[ci]? = some r) (htt : t1 ∈ tt) {i : Int32} (hin : 0 ≤ i.toInt ∧ i.toInt < n) (hm : (t, 0) ∈ M) (hdg : decode cc pc = .ok (.aastore, 1))
    (kk : ∀ (H1 : Heap) (locs1 : List Loc) (h1 : hx_h), h1 = hx_pr h a i.toNatClampNeg (some v) → hx_W tb tys D cl A H0 L h1 s H1 locs1 → hx_T tb L h1 → hx_S tb M L0 h0 L h1 → W p l e R s m args below meth c H1 locs1 cells slots Q (F0 m (pc + 1) ls rest)) : W p l e R s m args below meth c H locs cells slots Q (F0 m pc ls (.ref v :: .int i :: .ref a :: rest)) := by
  obtain ⟨k0, hk0⟩ := hx_at (tb := tb) (tys := tys) (h := h) g.1
  obtain ⟨k2, hk2⟩ := hx_at (tb := tb) (tys := tys) (h := h) gv.1
  have hk1 := hk0
  rw [hx_e_arr g.2 hd] at hk0
  rw [hx_e_obj gv.2 hd1] at hk2
  have hin2 : vp_in i n := vp_in_iff.mpr hin
  have hcA : hx_t tys t0 = cA := by simp [hx_t, ht]
  rw [hcA] at hk0
  obtain ⟨hK, hP, hD, hS, hA⟩ := hW
  refine va_astq hx hb hK hP hD hS k0 t0 k2 ci hk0 ht hk2 hc hin2 hdg (fun H1 locs1 hP2 hD2 hS2 => ?_)
  have he : hx_e tb tys (hx_pr h a i.toNatClampNeg (some v)) a = .inl (cA, n, .inr (.inr (.inr (.inr (va_up (h.2.2 a) i.toNatClampNeg (some v)))))) := by
    rw [hx_e_arr (h := hx_pr h a i.toNatClampNeg (some v)) g.2 hd, hcA]
    simp only [hx_a, hx_pr]
    congr 7
    funext j
    simp [va_up]
  rw [hx_set (h1 := hx_pr h a i.toNatClampNeg (some v)) hD g.1 hk1 he (fun b hb => hx_e_pr hb)] at hP2 hD2
  refine kk H1 locs1 _ rfl ⟨hK, hP2, hD2, hS2, hA⟩ (hT.pr g hd ?_) (hM.pr g (by rw [hd]; exact hm))
  intro f hf2 i0 _
  cases hf2
  refine ⟨fun _ z => (by cases z), fun q hq => ?_⟩
  cases hq
  exact ⟨gv.1, by rw [gv.2]; exact htt⟩
theorem hx_alen (hx : p.tables.exec = Jvm.exec) (hb : c.code = cc) (hW : hx_W tb tys D cl A H0 L h s H locs) {t : Nat} (g : hx_g L h a t) {t0 n : Nat} {f : hx_f} (hd : tb[t]? = some (.inr (t0, n, f))) {cA : ClassId} {ty : FieldType} (ht : tys[t0]? = some (cA, ty)) (hdg : decode cc pc = .ok (.arraylength, 1))
    (kk : W p l e R s m args below meth c H locs cells slots Q (F0 m (pc + 1) ls (.int (Int32.ofNat n) :: rest))) : W p l e R s m args below meth c H locs cells slots Q (F0 m pc ls (.ref a :: rest)) := by
  obtain ⟨k0, hk0⟩ := hx_at (tb := tb) (tys := tys) (h := h) g.1
  rw [hx_e_arr g.2 hd] at hk0
  have hcA : hx_t tys t0 = cA := by simp [hx_t, ht]
  rw [hcA] at hk0
  refine va_alen hx hb hW.1 hW.2.1 k0 t0 hk0 ht (v := Int32.ofNat n) ?_ hdg kk
  cases f <;> rfl
end HXR
end
section
/-! CONTRACTS, CALLS AND ENDS over the typed heap: a method gets the whole world and gives the whole world back -/
def hx_A (L : List Nat) (sz : Nat) : Nat → Prop := fun q => q ∈ L ∨ sz ≤ q
def hx_B (tb : List hx_d) (tys : hx_y) (D : va_G) (cl : List vw_C) (L : List Nat) (h : hx_h) (sz : Nat) (U : State) : Prop :=
  U.heap.size = sz ∧ va_P D cl (hx_p tb tys L h) U.heap ∧ va_K D cl tys U ∧ va_D (fun _ => True) (hx_p tb tys L h)
def hx_E (tb : List hx_d) (tys : hx_y) (D : va_G) (cl : List vw_C) (A : Nat → Prop) (u : List Nat × hx_h) (t : State) : Prop :=
  va_P D cl (hx_p tb tys u.1 u.2) t.heap ∧ va_K D cl tys t ∧ va_D A (hx_p tb tys u.1 u.2)
theorem hx_blind {tb : List hx_d} {tys : hx_y} {D : va_G} {cl : List vw_C} {L : List Nat} {h : hx_h} {sz : Nat} {av : List Value} : FrameBlind (va_Pc av (hx_B tb tys D cl L h sz)) := fun a U g mk q => by
  obtain ⟨q0, q1, qP, qK, qD⟩ := q
  exact ⟨q0, q1, qP, va_K.moved (u := U) (U := U.calling g mk a) (Vm.Alike.refl U.vm) qK, qD⟩
theorem hx_pre {tb : List hx_d} {tys : hx_y} {D : va_G} {cl : List vw_C} {A : Nat → Prop} {H0 H : Heap} {L : List Nat} {h : hx_h} {s : State} {locs : List Loc} {av : List Value} (hW : hx_W tb tys D cl A H0 L h s H locs) : ∀ U : State, U.heap = H → s.WarmedH U.vm → va_Pc av (hx_B tb tys D cl L h H.size) av.toArray U := fun U hU hw =>
  ⟨rfl, by rw [hU], by rw [hU]; exact hW.2.1, va_K.moved hw.alike hW.1, hW.2.2.1.weaken (fun _ _ _ _ => trivial)⟩
theorem hx_in {tb : List hx_d} {tys : hx_y} {D : va_G} {cl : List vw_C} {A : Nat → Prop} {H0 H : Heap} {L : List Nat} {h : hx_h} {s : State} {locs : List Loc} (hW : hx_W tb tys D cl A H0 L h s H locs) : ∀ q, hx_A L H.size q → A q := by
  intro q hq
  rcases hq with hq | hq
  · obtain ⟨k, hk⟩ := hx_at (tb := tb) (tys := tys) (h := h) hq
    exact hW.2.2.1.2 k _ hk
  · exact hW.2.2.2.2 q (Nat.le_trans hW.2.2.2.1.1 hq)
section HXC
variable {p : Program} {l : Launch} {e : Env} {R : Room} {s : State} {m : MethodId} {args : Array Value} {below : List Frame} {meth : Method} {c : Code} {H : Heap} {locs : List Loc} {cells slots : Nat} {Q : State → Prop}
variable {cc : ByteArray} {pc : Nat} {ls : Array Slot} {rest st0 : List Value} {D : va_G} {cl : List vw_C} {A : Nat → Prop} {a : Nat} {tys : hx_y} {H0 : Heap} {tb : List hx_d} {L : List Nat} {h : hx_h}
variable {y : MethodName} {bytes : ByteArray} {maxL nL mc ms n index : Nat} {ret : Option FieldType} {ws : List Cond} {rm : Room} {Ts : List Cond} {own C : String} {As : List Value} {Qc : Array Value → State → Outcome → State → Prop}
theorem hx_recv (hW : hx_W tb tys D cl A H0 L h s H locs) {t : Nat} (g : hx_g L h a t) {ci : Nat} {fs : List hx_f} (hd : tb[t]? = some (.inl (ci, fs))) {q : vw_C} (hc : cl[ci]? = some q) : ∃ cell : Cell, H[a]? = some cell ∧ cell.vm.isStatics = false ∧ s.vm.findClass q.1 = some cell.cls := by
  obtain ⟨k0, hk0⟩ := hx_at (tb := tb) (tys := tys) (h := h) g.1
  rw [hx_e_obj g.2 hd] at hk0
  exact va_recv hW.1 hW.2.1 hc hk0
theorem hx_runV (S : CallFix p m c cc nL s args Ts own) (hW : hx_W tb tys D cl A H0 L h s H locs) {t : Nat} (g : hx_g L h a t) {ci : Nat} {fs : List hx_f} (hd : tb[t]? = some (.inl (ci, fs))) {T : u_T} {N : Nat} (hc : cl[ci]? = some (C, T, N)) (hM : Met l y ws rm (va_Pc (.ref a :: As) (hx_B tb tys D cl L h H.size)) Qc mc ms (hx_A L H.size)) (cw : CallW R s args own C index y bytes maxL ret ws rm mc ms n) (hn : As.length = n) (hsize : ls.size = nL) (hst : st0 = As.reverse ++ .ref a :: rest) (hR : (rest.map fun v => v.category).sum ≤ 8) (hdg : decode cc pc = .ok (.invokevirtual index, 3)) (hf : cells + mc ≤ R.cells ∧ slots + ms ≤ R.slots) :
    va_Run p l e R s m args below meth c H locs cells slots mc ms (F0 m pc ls st0) rest (Qc (Value.ref a :: As).toArray) (hx_A L H.size) :=
  va_runV S hM cw ⟨hx_blind, hx_recv hW g hd hc, hx_pre hW⟩ rfl hn hsize hst (lv_room hR) hdg hf
theorem hx_runS (S : CallFix p m c cc nL s args Ts own) (hW : hx_W tb tys D cl A H0 L h s H locs) (hM : Met l y ws rm (va_Pc As (hx_B tb tys D cl L h H.size)) Qc mc ms (hx_A L H.size)) (cw : CallB R s args own index y bytes maxL ret ws rm mc ms n ∧ (Cond.static y).before args s = true) (hn : As.length = n) (hsize : ls.size = nL) (hst : st0 = As.reverse ++ rest) (hR : (rest.map fun v => v.category).sum ≤ 8) (hdg : decode cc pc = .ok (.invokestatic index, 3)) (hf : cells + mc ≤ R.cells ∧ slots + ms ≤ R.slots) :
    va_Run p l e R s m args below meth c H locs cells slots mc ms (F0 m pc ls st0) rest (Qc As.toArray) (hx_A L H.size) :=
  va_runS S hM cw ⟨hx_blind, hx_pre hW⟩ rfl hn hsize hst (lv_room hR) hdg hf
theorem hx_runI (S : CallFix p m c cc nL s args Ts own) (hW : hx_W tb tys D cl A H0 L h s H locs) (hM : Met l y ws rm (va_Pc (.ref a :: As) (hx_B tb tys D cl L h H.size)) Qc mc ms (hx_A L H.size)) (cw : CallB R s args own index y bytes maxL none ws rm mc ms n ∧ y.name = "<init>" ∧ (Cond.instanceMethod y).before args s = true) (hn : As.length = n) (hsize : ls.size = nL) (hst : st0 = As.reverse ++ .ref a :: rest) (hR : (rest.map fun v => v.category).sum ≤ 8) (hdg : decode cc pc = .ok (.invokespecial index, 3)) (hf : cells + mc ≤ R.cells ∧ slots + ms ≤ R.slots) :
    va_Run p l e R s m args below meth c H locs cells slots mc ms (F0 m pc ls st0) rest (Qc (Value.ref a :: As).toArray) (hx_A L H.size) :=
  va_runI S hM cw ⟨hx_blind, hx_pre hW⟩ rfl hn hsize hst (lv_room hR) hdg hf
variable {a1 : Array Value}
theorem hx_goi {post : Int32 → List Nat × hx_h → Prop} (hr : va_Run p l e R s m args below meth c H locs cells slots mc ms (F0 m pc ls st0) rest (va_Qi post (hx_E tb tys D cl (hx_A L H.size)) (hx_A L H.size) a1) (hx_A L H.size)) (hW : hx_W tb tys D cl A H0 L h s H locs)
    (kk : ∀ (r : Int32) (L1 : List Nat) (h1 : hx_h) (H1 : Heap) (locs1 : List Loc), post r (L1, h1) → hx_W tb tys D cl A H0 L1 h1 s H1 locs1 → W p l e R s m args below meth c H1 locs1 (cells + mc) (slots + ms) Q (F0 m (pc + 3) ls (.int r :: rest))) : W p l e R s m args below meth c H locs cells slots Q (F0 m pc ls st0) := by
  refine va_calli hr hW.2.2.2.1 (fun q _ hq => hx_in hW q hq) (fun q hq => hx_in hW q hq) (fun r u t H1 locs1 ht hvm hp hB hz hk hS => ?_)
  obtain ⟨b1, b2, b3⟩ := hB
  rw [ht] at b1
  exact kk r u.1 u.2 H1 locs1 hp ⟨hW.1, b1, b3.weaken (fun _ q _ hq => hx_in hW q.1 hq), hS, hW.2.2.2.2⟩
theorem hx_gol {post : Int64 → List Nat × hx_h → Prop} (hr : va_Run p l e R s m args below meth c H locs cells slots mc ms (F0 m pc ls st0) rest (va_Ql post (hx_E tb tys D cl (hx_A L H.size)) (hx_A L H.size) a1) (hx_A L H.size)) (hW : hx_W tb tys D cl A H0 L h s H locs)
    (kk : ∀ (r : Int64) (L1 : List Nat) (h1 : hx_h) (H1 : Heap) (locs1 : List Loc), post r (L1, h1) → hx_W tb tys D cl A H0 L1 h1 s H1 locs1 → W p l e R s m args below meth c H1 locs1 (cells + mc) (slots + ms) Q (F0 m (pc + 3) ls (.long r :: rest))) : W p l e R s m args below meth c H locs cells slots Q (F0 m pc ls st0) := by
  refine va_calll hr hW.2.2.2.1 (fun q _ hq => hx_in hW q hq) (fun q hq => hx_in hW q hq) (fun r u t H1 locs1 ht hvm hp hB hz hk hS => ?_)
  obtain ⟨b1, b2, b3⟩ := hB
  rw [ht] at b1
  exact kk r u.1 u.2 H1 locs1 hp ⟨hW.1, b1, b3.weaken (fun _ q _ hq => hx_in hW q.1 hq), hS, hW.2.2.2.2⟩
theorem hx_gov {post : List Nat × hx_h → Prop} (hr : va_Run p l e R s m args below meth c H locs cells slots mc ms (F0 m pc ls st0) rest (va_Qv post (hx_E tb tys D cl (hx_A L H.size)) (hx_A L H.size) a1) (hx_A L H.size)) (hW : hx_W tb tys D cl A H0 L h s H locs)
    (kk : ∀ (L1 : List Nat) (h1 : hx_h) (H1 : Heap) (locs1 : List Loc), post (L1, h1) → hx_W tb tys D cl A H0 L1 h1 s H1 locs1 → W p l e R s m args below meth c H1 locs1 (cells + mc) (slots + ms) Q (F0 m (pc + 3) ls rest)) : W p l e R s m args below meth c H locs cells slots Q (F0 m pc ls st0) := by
  refine va_callv hr hW.2.2.2.1 (fun q _ hq => hx_in hW q hq) (fun q hq => hx_in hW q hq) (fun u t H1 locs1 ht hvm hp hB hz hk hS => ?_)
  obtain ⟨b1, b2, b3⟩ := hB
  rw [ht] at b1
  exact kk u.1 u.2 H1 locs1 hp ⟨hW.1, b1, b3.weaken (fun _ q _ hq => hx_in hW q.1 hq), hS, hW.2.2.2.2⟩
theorem hx_goq {post : Option Nat → List Nat × hx_h → Prop} (hr : va_Run p l e R s m args below meth c H locs cells slots mc ms (F0 m pc ls st0) rest (va_Qq post (hx_E tb tys D cl (hx_A L H.size)) (hx_A L H.size) a1) (hx_A L H.size)) (hW : hx_W tb tys D cl A H0 L h s H locs)
    (kk : ∀ (r : Option Nat) (L1 : List Nat) (h1 : hx_h) (H1 : Heap) (locs1 : List Loc), post r (L1, h1) → hx_W tb tys D cl A H0 L1 h1 s H1 locs1 → W p l e R s m args below meth c H1 locs1 (cells + mc) (slots + ms) Q (F0 m (pc + 3) ls (va_rf r :: rest))) : W p l e R s m args below meth c H locs cells slots Q (F0 m pc ls st0) := by
  refine va_callq hr hW.2.2.2.1 (fun q _ hq => hx_in hW q hq) (fun q hq => hx_in hW q hq) (fun r u t H1 locs1 ht hvm hp hB hz hk hS => ?_)
  obtain ⟨b1, b2, b3⟩ := hB
  rw [ht] at b1
  exact kk r u.1 u.2 H1 locs1 hp ⟨hW.1, b1, b3.weaken (fun _ q _ hq => hx_in hW q.1 hq), hS, hW.2.2.2.2⟩
theorem hx_reti {post : Int32 → List Nat × hx_h → Prop} {v : Int32} (hx : p.tables.exec = Jvm.exec) (hb : c.code = cc) (hr : meth.sig.returnType = some .int) (hlocks : meth.locks = false) (hW : hx_W tb tys D cl A s.heap L h s H locs) (hp : post v (L, h)) (hdg : decode cc pc = .ok (.ireturn, 1)) :
    W p l e R s m args below meth c H locs cells slots (MQ below (va_Qi post (hx_E tb tys D cl A) A) args s cells slots A) (F0 m pc ls [.int v]) :=
  W.iret hx hb hr (fun t ht hw => ⟨⟨v, (L, h), rfl, hp, by rw [ht]; exact hW.2.1, va_K.moved hw.alike hW.1, hW.2.2.1⟩, hW.2.2.2.1.F ht⟩) hW.2.2.2.1.2.2 hdg hlocks
theorem hx_retz {post : Int32 → List Nat × hx_h → Prop} {v : Int32} {ty : FieldType} (hx : p.tables.exec = Jvm.exec) (hb : c.code = cc) (hr : meth.sig.returnType = some ty) (hn : narrow ty (.int v) = .int v) (hlocks : meth.locks = false) (hW : hx_W tb tys D cl A s.heap L h s H locs) (hp : post v (L, h)) (hdg : decode cc pc = .ok (.ireturn, 1)) :
    W p l e R s m args below meth c H locs cells slots (MQ below (va_Qi post (hx_E tb tys D cl A) A) args s cells slots A) (F0 m pc ls [.int v]) :=
  W.zret hx hb hr hn (fun t ht hw => ⟨⟨v, (L, h), rfl, hp, by rw [ht]; exact hW.2.1, va_K.moved hw.alike hW.1, hW.2.2.1⟩, hW.2.2.2.1.F ht⟩) hW.2.2.2.1.2.2 hdg hlocks
theorem hx_retv {post : List Nat × hx_h → Prop} (hx : p.tables.exec = Jvm.exec) (hb : c.code = cc) (hr : meth.sig.returnType = none) (hlocks : meth.locks = false) (hW : hx_W tb tys D cl A s.heap L h s H locs) (hp : post (L, h)) (hdg : decode cc pc = .ok (.return_, 1)) :
    W p l e R s m args below meth c H locs cells slots (MQ below (va_Qv post (hx_E tb tys D cl A) A) args s cells slots A) (F0 m pc ls []) :=
  W.vret hx hb hr (fun t ht hw => ⟨⟨(L, h), rfl, hp, by rw [ht]; exact hW.2.1, va_K.moved hw.alike hW.1, hW.2.2.1⟩, hW.2.2.2.1.F ht⟩) hW.2.2.2.1.2.2 hdg hlocks
theorem hx_retq {post : Option Nat → List Nat × hx_h → Prop} {v : Option Nat} {rt : FieldType} (hx : p.tables.exec = Jvm.exec) (hb : c.code = cc) (hr : meth.sig.returnType = some rt) (hrt : (∃ n, rt = .object n) ∨ ∃ t, rt = .array t) (hlocks : meth.locks = false) (hW : hx_W tb tys D cl A s.heap L h s H locs) (hp : post v (L, h)) (hdg : decode cc pc = .ok (.areturn, 1)) :
    W p l e R s m args below meth c H locs cells slots (MQ below (va_Qq post (hx_E tb tys D cl A) A) args s cells slots A) (F0 m pc ls [va_rf v]) :=
  W.aret hx hb hr hrt (by cases v <;> simp [va_rf]) (fun t ht hw => ⟨⟨v, (L, h), rfl, hp, by rw [ht]; exact hW.2.1, va_K.moved hw.alike hW.1, hW.2.2.1⟩, hW.2.2.2.1.F ht⟩) hW.2.2.2.1.2.2 hdg hlocks
end HXC
theorem hx_met {l : Launch} {y : MethodName} {ws ws' : List Cond} {rm : Room} {mc ms : Nat} {cc : ByteArray} {maxL : Nat} {ret : Option FieldType} {tb : List hx_d} {tys : hx_y} {D : va_G} {cl : List vw_C} {L : List Nat} {h : hx_h} {sz : Nat} {av : List Value} {Qc : Array Value → State → Outcome → State → Prop} {lv : List (Nat × Value)}
    (hy : plainName y.cls = true) (hw : ws = Cond.code y cc maxL ret :: ws') (hlen : (lg_sl av).length ≤ maxL) (hlv : lv_args 0 av = lv)
    (body : ∀ (p : Program) (e : Env) (s : State) (m : MethodId) (below : List Frame) (meth : Method) (c : Code), p.tables.exec = Jvm.exec → c.code = cc → c.maxLocals = maxL → meth.sig.returnType = ret → meth.locks = false → (∀ w ∈ ws, w.before av.toArray s = true) → s.vm.findClass y.cls = some m.cls → meth.name = y.name → s.heap.size = sz →
      hx_W tb tys D cl (hx_A L sz) s.heap L h s s.heap [] → ∀ ls : Array Slot, lv_has ls maxL lv → W p l e rm s m av.toArray below meth c s.heap [] 0 0 (MQ below Qc av.toArray s mc ms (hx_A L sz)) (F0 m 0 ls [])) :
    Met l y ws rm (va_Pc av (hx_B tb tys D cl L h sz)) Qc mc ms (hx_A L sz) := by
  refine Met.ofW (cc := cc) (maxL := maxL) (ret := ret) hy hw ?_
  intro p e s m args below meth c s₁ B hml hv
  obtain ⟨rfl, hsz, hP, hK, hD0⟩ := hv
  have hl := lv_entry av (n := maxL) hlen
  rw [lg_entry_eq]
  refine body p e s m below meth c B.exec B.bytes hml B.returns B.notSynchronized (atoms_spec (ws := ws) B.pre) (findClass_of_methodNamed B.named) (name_of_methodNamed B.named B.method).1 hsz ⟨hK, hP, hD0.weaken (fun k q hk _ => ?_), va_S.rf, fun q hq => Or.inr (by rw [← hsz]; exact hq)⟩ _ (by rw [← hlv]; exact hl)
  refine Or.inl ?_
  have hmem := List.mem_of_getElem? hk
  obtain ⟨b, hb, hbq⟩ := List.mem_map.mp hmem
  rw [← hbq]
  exact hb
end
