section
/-! THE TYPED HEAP: every owned cell has a tag; a table says of each tag its class and fields, or its kind of array, its length and elements -/
abbrev hx_f : Type := (Int × Int) ⊕ (Bool × List Nat)
abbrev hx_d : Type := (Nat × List hx_f) ⊕ (Nat × Nat × hx_f)
abbrev hx_h : Type := (Nat → Nat) × (Nat → Nat → Int32) × (Nat → Nat → Option Nat)
abbrev hx_y : Type := List (ClassId × FieldType)
def hx_v (f : hx_f) (i : Int32) (r : Option Nat) : Value := match f with
  | .inl _ => .int i
  | .inr _ => va_rf r
def hx_fs (fs : List hx_f) (h : hx_h) (a : Nat) : List Value := (List.range fs.length).map (fun k => hx_v (fs.getD k (.inl (0, 0))) (h.2.1 a k) (h.2.2 a k))
def hx_a (n : Nat) (f : hx_f) (h : hx_h) (a : Nat) : vp_A := match f with
  | .inl _ => (n, .inl (h.2.1 a))
  | .inr _ => (n, .inr (.inr (.inr (.inr (h.2.2 a)))))
def hx_t (tys : hx_y) (t0 : Nat) : ClassId := (tys[t0]?.map Prod.fst).getD 0
def hx_e (tb : List hx_d) (tys : hx_y) (h : hx_h) (a : Nat) : va_E := match tb[h.1 a]? with
  | some (.inl (ci, fs)) => .inr (ci, hx_fs fs h a)
  | some (.inr (t0, n, f)) => .inl (hx_t tys t0, hx_a n f h a)
  | none => .inr (0, [])
abbrev hx_p (tb : List hx_d) (tys : hx_y) (L : List Nat) (h : hx_h) : va_W := va_pl L (hx_e tb tys h)
/-- the world: the tables, the cells, apart, the rest unchanged -/
def hx_W (tb : List hx_d) (tys : hx_y) (D : va_G) (cl : List vw_C) (A : Nat → Prop) (H0 : Heap) (L : List Nat) (h : hx_h) (s : State) (H : Heap) (locs : List Loc) : Prop :=
  va_K D cl tys s ∧ va_P D cl (hx_p tb tys L h) H ∧ va_D A (hx_p tb tys L h) ∧ va_S A H0 H locs ∧ ∀ q, H0.size ≤ q → A q
/-- a cell of a tag -/
def hx_g (L : List Nat) (h : hx_h) (a t : Nat) : Prop := a ∈ L ∧ h.1 a = t
def hx_o (L : List Nat) (h : hx_h) (f : hx_f) (i : Int32) (r : Option Nat) : Prop := match f with
  | .inl b => b.1 ≤ i.toInt ∧ i.toInt ≤ b.2
  | .inr b => (b.1 = true → r ≠ none) ∧ ∀ q, r = some q → q ∈ L ∧ h.1 q ∈ b.2
def hx_c (tb : List hx_d) (L : List Nat) (h : hx_h) (a : Nat) : Prop := match tb[h.1 a]? with
  | some (.inl (_, fs)) => ∀ k f, fs[k]? = some f → hx_o L h f (h.2.1 a k) (h.2.2 a k)
  | some (.inr (_, n, f)) => ∀ k, k < n → hx_o L h f (h.2.1 a k) (h.2.2 a k)
  | none => False
/-- the types hold -/
def hx_T (tb : List hx_d) (L : List Nat) (h : hx_h) : Prop := ∀ a ∈ L, hx_c tb L h a
def hx_pi (h : hx_h) (a k : Nat) (x : Int32) : hx_h := (h.1, fun b j => if b = a ∧ j = k then x else h.2.1 b j, h.2.2)
def hx_pr (h : hx_h) (a k : Nat) (r : Option Nat) : hx_h := (h.1, h.2.1, fun b j => if b = a ∧ j = k then r else h.2.2 b j)
/-- what may have changed: fields (tag, place); of an array: its tag alone, as place 0 -/
abbrev hx_m : Type := List (Nat × Nat)
def hx_S (tb : List hx_d) (M : hx_m) (L : List Nat) (h : hx_h) (L1 : List Nat) (h1 : hx_h) : Prop :=
  (∀ a ∈ L, a ∈ L1 ∧ h1.1 a = h.1 a) ∧ ∀ a ∈ L, ∀ k, (match tb[h.1 a]? with | some (.inr _) => (h.1 a, 0) ∉ M | _ => (h.1 a, k) ∉ M) → h1.2.1 a k = h.2.1 a k ∧ h1.2.2 a k = h.2.2 a k
theorem hx_S.rf {tb : List hx_d} {M : hx_m} {L : List Nat} {h : hx_h} : hx_S tb M L h L h := ⟨fun _ ha => ⟨ha, rfl⟩, fun _ _ _ _ => ⟨rfl, rfl⟩⟩
theorem hx_S.tr {tb : List hx_d} {M : hx_m} {L L1 L2 : List Nat} {h h1 h2 : hx_h} (a : hx_S tb M L h L1 h1) (b : hx_S tb M L1 h1 L2 h2) : hx_S tb M L h L2 h2 := by
  refine ⟨fun q hq => ?_, fun q hq k hk => ?_⟩
  · obtain ⟨u1, u2⟩ := a.1 q hq
    obtain ⟨v1, v2⟩ := b.1 q u1
    exact ⟨v1, v2.trans u2⟩
  · obtain ⟨u1, u2⟩ := a.1 q hq
    obtain ⟨x1, x2⟩ := a.2 q hq k hk
    obtain ⟨y1, y2⟩ := b.2 q u1 k (by rw [u2]; exact hk)
    exact ⟨y1.trans x1, y2.trans x2⟩
theorem hx_S.mono {tb : List hx_d} {M N : hx_m} {L L1 : List Nat} {h h1 : hx_h} (a : hx_S tb M L h L1 h1) (hMN : ∀ q ∈ M, q ∈ N) : hx_S tb N L h L1 h1 := by
  refine ⟨a.1, fun q hq k hk => a.2 q hq k ?_⟩
  revert hk
  split
  · exact fun h1 h2 => h1 (hMN _ h2)
  · exact fun h1 h2 => h1 (hMN _ h2)
theorem hx_g.S {tb : List hx_d} {M : hx_m} {L L1 : List Nat} {h h1 : hx_h} {a t : Nat} (g : hx_g L h a t) (b : hx_S tb M L h L1 h1) : hx_g L1 h1 a t := ⟨(b.1 a g.1).1, (b.1 a g.1).2.trans g.2⟩
/-- a field that can't have changed -/
theorem hx_S.i {tb : List hx_d} {M : hx_m} {L L1 : List Nat} {h h1 : hx_h} {a t : Nat} (b : hx_S tb M L h L1 h1) (g : hx_g L h a t) (k : Nat) (hk : (match tb[t]? with | some (.inr _) => (t, 0) ∉ M | _ => (t, k) ∉ M)) : h1.2.1 a k = h.2.1 a k := (b.2 a g.1 k (by rw [g.2]; exact hk)).1
theorem hx_S.r {tb : List hx_d} {M : hx_m} {L L1 : List Nat} {h h1 : hx_h} {a t : Nat} (b : hx_S tb M L h L1 h1) (g : hx_g L h a t) (k : Nat) (hk : (match tb[t]? with | some (.inr _) => (t, 0) ∉ M | _ => (t, k) ∉ M)) : h1.2.2 a k = h.2.2 a k := (b.2 a g.1 k (by rw [g.2]; exact hk)).2
theorem hx_pi_at (h : hx_h) (a k : Nat) (x : Int32) : (hx_pi h a k x).2.1 a k = x := by simp [hx_pi]
theorem hx_pi_ne (h : hx_h) {a k b j : Nat} (x : Int32) (n : ¬ (b = a ∧ j = k)) : (hx_pi h a k x).2.1 b j = h.2.1 b j := by simp only [hx_pi]; rw [if_neg n]
theorem hx_pr_at (h : hx_h) (a k : Nat) (x : Option Nat) : (hx_pr h a k x).2.2 a k = x := by simp [hx_pr]
theorem hx_pr_ne (h : hx_h) {a k b j : Nat} (x : Option Nat) (n : ¬ (b = a ∧ j = k)) : (hx_pr h a k x).2.2 b j = h.2.2 b j := by simp only [hx_pr]; rw [if_neg n]
theorem hx_e_pi {tb : List hx_d} {tys : hx_y} {h : hx_h} {a b k : Nat} {x : Int32} (n : b ≠ a) : hx_e tb tys (hx_pi h a k x) b = hx_e tb tys h b := by
  simp [hx_e, hx_fs, hx_a, hx_pi, n]
theorem hx_e_pr {tb : List hx_d} {tys : hx_y} {h : hx_h} {a b k : Nat} {x : Option Nat} (n : b ≠ a) : hx_e tb tys (hx_pr h a k x) b = hx_e tb tys h b := by
  simp [hx_e, hx_fs, hx_a, hx_pr, n]
theorem hx_fs_get {fs : List hx_f} {h : hx_h} {a k : Nat} {f : hx_f} (hk : fs[k]? = some f) : (hx_fs fs h a)[k]? = some (hx_v f (h.2.1 a k) (h.2.2 a k)) := by
  have hl := (List.getElem?_eq_some_iff.mp hk).1
  simp [hx_fs, List.getElem?_range hl, List.getD, hk]
theorem hx_fs_len {fs : List hx_f} {h : hx_h} {a : Nat} : (hx_fs fs h a).length = fs.length := by simp [hx_fs]
theorem hx_fs_pi {fs : List hx_f} {h : hx_h} {a k : Nat} {b : Int × Int} {x : Int32} (hk : fs[k]? = some (.inl b)) : (hx_fs fs h a).set k (.int x) = hx_fs fs (hx_pi h a k x) a := by
  have hl := (List.getElem?_eq_some_iff.mp hk).1
  apply List.ext_getElem?
  intro j
  by_cases hj : j = k
  · subst hj
    rw [List.getElem?_set_self (by rw [hx_fs_len]; exact hl), hx_fs_get hk, hx_pi_at]
    rfl
  · rw [List.getElem?_set_ne (Ne.symm hj)]
    by_cases hjl : j < fs.length
    · have hf : fs[j]? = some fs[j] := List.getElem?_eq_getElem hjl
      rw [hx_fs_get hf, hx_fs_get hf, hx_pi_ne h x (fun z => hj z.2)]
      rfl
    · rw [List.getElem?_eq_none (by rw [hx_fs_len]; omega), List.getElem?_eq_none (by rw [hx_fs_len]; omega)]
theorem hx_fs_pr {fs : List hx_f} {h : hx_h} {a k : Nat} {b : Bool × List Nat} {x : Option Nat} (hk : fs[k]? = some (.inr b)) : (hx_fs fs h a).set k (va_rf x) = hx_fs fs (hx_pr h a k x) a := by
  have hl := (List.getElem?_eq_some_iff.mp hk).1
  apply List.ext_getElem?
  intro j
  by_cases hj : j = k
  · subst hj
    rw [List.getElem?_set_self (by rw [hx_fs_len]; exact hl), hx_fs_get hk, hx_pr_at]
    rfl
  · rw [List.getElem?_set_ne (Ne.symm hj)]
    by_cases hjl : j < fs.length
    · have hf : fs[j]? = some fs[j] := List.getElem?_eq_getElem hjl
      rw [hx_fs_get hf, hx_fs_get hf, hx_pr_ne h x (fun z => hj z.2)]
      rfl
    · rw [List.getElem?_eq_none (by rw [hx_fs_len]; omega), List.getElem?_eq_none (by rw [hx_fs_len]; omega)]
theorem hx_at {tb : List hx_d} {tys : hx_y} {L : List Nat} {h : hx_h} {a : Nat} (ha : a ∈ L) : ∃ k : Nat, (hx_p tb tys L h)[k]? = some (a, hx_e tb tys h a) := va_pl_get (X := []) ha
theorem hx_e_obj {tb : List hx_d} {tys : hx_y} {h : hx_h} {a t ci : Nat} {fs : List hx_f} (ht : h.1 a = t) (hd : tb[t]? = some (.inl (ci, fs))) : hx_e tb tys h a = .inr (ci, hx_fs fs h a) := by
  unfold hx_e
  rw [ht, hd]
theorem hx_e_arr {tb : List hx_d} {tys : hx_y} {h : hx_h} {a t t0 n : Nat} {f : hx_f} (ht : h.1 a = t) (hd : tb[t]? = some (.inr (t0, n, f))) : hx_e tb tys h a = .inl (hx_t tys t0, hx_a n f h a) := by
  unfold hx_e
  rw [ht, hd]
/-- a change of one cell, as the world sees it -/
theorem hx_set {tb : List hx_d} {tys : hx_y} {A : Nat → Prop} {L : List Nat} {h h1 : hx_h} {a k : Nat} {e : va_E} (hD : va_D A (hx_p tb tys L h)) (ha : a ∈ L) (hk : (hx_p tb tys L h)[k]? = some (a, hx_e tb tys h a)) (he : hx_e tb tys h1 a = e) (hn : ∀ b, b ≠ a → hx_e tb tys h1 b = hx_e tb tys h b) : (hx_p tb tys L h).set k (a, e) = hx_p tb tys L h1 := by
  have h1 := va_pl_set (X := []) (e := e) hD ha hk
  refine h1.trans ?_
  refine va_pl_congr (fun b => ?_)
  by_cases hb : b = a
  · subst hb
    rw [va_up_self, he]
  · rw [va_up_ne _ _ hb, hn b hb]
theorem hx_T.gi {tb : List hx_d} {L : List Nat} {h : hx_h} {a t ci k : Nat} {fs : List hx_f} {b : Int × Int} (hT : hx_T tb L h) (g : hx_g L h a t) (hd : tb[t]? = some (.inl (ci, fs))) (hf : fs[k]? = some (.inl b)) : b.1 ≤ (h.2.1 a k).toInt ∧ (h.2.1 a k).toInt ≤ b.2 := by
  have h0 := hT a g.1
  unfold hx_c at h0
  rw [g.2, hd] at h0
  exact h0 k _ hf
theorem hx_T.gr {tb : List hx_d} {L : List Nat} {h : hx_h} {a t ci k : Nat} {fs : List hx_f} {b : Bool × List Nat} (hT : hx_T tb L h) (g : hx_g L h a t) (hd : tb[t]? = some (.inl (ci, fs))) (hf : fs[k]? = some (.inr b)) : (b.1 = true → h.2.2 a k ≠ none) ∧ ∀ q, h.2.2 a k = some q → q ∈ L ∧ h.1 q ∈ b.2 := by
  have h0 := hT a g.1
  unfold hx_c at h0
  rw [g.2, hd] at h0
  exact h0 k _ hf
theorem hx_T.ei {tb : List hx_d} {L : List Nat} {h : hx_h} {a t t0 n k : Nat} {b : Int × Int} (hT : hx_T tb L h) (g : hx_g L h a t) (hd : tb[t]? = some (.inr (t0, n, .inl b))) (hk : k < n) : b.1 ≤ (h.2.1 a k).toInt ∧ (h.2.1 a k).toInt ≤ b.2 := by
  have h0 := hT a g.1
  unfold hx_c at h0
  rw [g.2, hd] at h0
  exact h0 k hk
theorem hx_T.er {tb : List hx_d} {L : List Nat} {h : hx_h} {a t t0 n k : Nat} {b : Bool × List Nat} (hT : hx_T tb L h) (g : hx_g L h a t) (hd : tb[t]? = some (.inr (t0, n, .inr b))) (hk : k < n) : (b.1 = true → h.2.2 a k ≠ none) ∧ ∀ q, h.2.2 a k = some q → q ∈ L ∧ h.1 q ∈ b.2 := by
  have h0 := hT a g.1
  unfold hx_c at h0
  rw [g.2, hd] at h0
  exact h0 k hk
theorem hx_T.pi {tb : List hx_d} {L : List Nat} {h : hx_h} {a t k : Nat} {x : Int32} {d : hx_d} (hT : hx_T tb L h) (g : hx_g L h a t) (hd : tb[t]? = some d) (hx : ∀ f, (match d with | .inl (_, fs) => fs[k]? = some f | .inr (_, _, f0) => f0 = f) → ∀ r, (match f with | .inl _ => True | .inr _ => r = h.2.2 a k) → hx_o L h f x r) : hx_T tb L (hx_pi h a k x) := by
  intro c hc
  have h0 := hT c hc
  unfold hx_c at h0 ⊢
  have e1 : (hx_pi h a k x).1 = h.1 := rfl
  have e2 : (hx_pi h a k x).2.2 = h.2.2 := rfl
  rw [e1, e2]
  by_cases hca : c = a
  · subst hca
    rw [g.2, hd] at h0 ⊢
    rcases d with ⟨ci, fs⟩ | ⟨t0, n, f0⟩
    · intro j f hj
      by_cases hjk : j = k
      · subst hjk
        rw [hx_pi_at]
        refine hx f hj _ ?_
        cases f <;> simp
      · rw [hx_pi_ne h x (fun z => hjk z.2)]
        exact h0 j f hj
    · intro j hj
      by_cases hjk : j = k
      · subst hjk
        rw [hx_pi_at]
        refine hx f0 rfl _ ?_
        cases f0 <;> simp
      · rw [hx_pi_ne h x (fun z => hjk z.2)]
        exact h0 j hj
  · have e3 : ∀ j, (hx_pi h a k x).2.1 c j = h.2.1 c j := fun j => hx_pi_ne h x (fun z => hca z.1)
    cases hd2 : tb[h.1 c]? with
    | none => rw [hd2] at h0; exact h0
    | some d2 =>
      rw [hd2] at h0
      rcases d2 with ⟨ci, fs⟩ | ⟨t0, n, f0⟩
      · intro j f hj
        rw [e3]
        exact h0 j f hj
      · intro j hj
        rw [e3]
        exact h0 j hj
theorem hx_T.pr {tb : List hx_d} {L : List Nat} {h : hx_h} {a t k : Nat} {x : Option Nat} {d : hx_d} (hT : hx_T tb L h) (g : hx_g L h a t) (hd : tb[t]? = some d) (hx : ∀ f, (match d with | .inl (_, fs) => fs[k]? = some f | .inr (_, _, f0) => f0 = f) → ∀ i, (match f with | .inl _ => i = h.2.1 a k | .inr _ => True) → hx_o L h f i x) : hx_T tb L (hx_pr h a k x) := by
  intro c hc
  have h0 := hT c hc
  unfold hx_c at h0 ⊢
  have e1 : (hx_pr h a k x).1 = h.1 := rfl
  have e2 : (hx_pr h a k x).2.1 = h.2.1 := rfl
  rw [e1, e2]
  by_cases hca : c = a
  · subst hca
    rw [g.2, hd] at h0 ⊢
    rcases d with ⟨ci, fs⟩ | ⟨t0, n, f0⟩
    · intro j f hj
      by_cases hjk : j = k
      · subst hjk
        rw [hx_pr_at]
        refine hx f hj _ ?_
        cases f <;> simp
      · rw [hx_pr_ne h x (fun z => hjk z.2)]
        exact h0 j f hj
    · intro j hj
      by_cases hjk : j = k
      · subst hjk
        rw [hx_pr_at]
        refine hx f0 rfl _ ?_
        cases f0 <;> simp
      · rw [hx_pr_ne h x (fun z => hjk z.2)]
        exact h0 j hj
  · have e3 : ∀ j, (hx_pr h a k x).2.2 c j = h.2.2 c j := fun j => hx_pr_ne h x (fun z => hca z.1)
    cases hd2 : tb[h.1 c]? with
    | none => rw [hd2] at h0; exact h0
    | some d2 =>
      rw [hd2] at h0
      rcases d2 with ⟨ci, fs⟩ | ⟨t0, n, f0⟩
      · intro j f hj
        rw [e3]
        exact h0 j f hj
      · intro j hj
        rw [e3]
        exact h0 j hj
theorem hx_S.pi {tb : List hx_d} {M : hx_m} {L L0 : List Nat} {h h0 : hx_h} {a t k : Nat} {x : Int32} (hS : hx_S tb M L0 h0 L h) (g : hx_g L h a t) (hm : match tb[t]? with | some (.inr _) => (t, 0) ∈ M | _ => (t, k) ∈ M) : hx_S tb M L0 h0 L (hx_pi h a k x) := by
  refine hS.tr ⟨fun q hq => ⟨hq, rfl⟩, fun q hq j hj => ⟨?_, rfl⟩⟩
  refine hx_pi_ne h x (fun z => ?_)
  rw [z.1, z.2, g.2] at hj
  revert hm hj
  cases tb[t]? with
  | none => exact fun u v => v u
  | some d => rcases d with ⟨ci, fs⟩ | ⟨t0, n, f⟩ <;> exact fun u v => v u
theorem hx_S.pr {tb : List hx_d} {M : hx_m} {L L0 : List Nat} {h h0 : hx_h} {a t k : Nat} {x : Option Nat} (hS : hx_S tb M L0 h0 L h) (g : hx_g L h a t) (hm : match tb[t]? with | some (.inr _) => (t, 0) ∈ M | _ => (t, k) ∈ M) : hx_S tb M L0 h0 L (hx_pr h a k x) := by
  refine hS.tr ⟨fun q hq => ⟨hq, rfl⟩, fun q hq j hj => ⟨rfl, ?_⟩⟩
  refine hx_pr_ne h x (fun z => ?_)
  rw [z.1, z.2, g.2] at hj
  revert hm hj
  cases tb[t]? with
  | none => exact fun u v => v u
  | some d => rcases d with ⟨ci, fs⟩ | ⟨t0, n, f⟩ <;> exact fun u v => v u
end
section
/-! ROWS over the typed heap -/
/-- what the program says of a class -/
def hx_C (Ts : List Cond) (cl : List vw_C) (ci : Nat) (C : String) (T : u_T) (N : Nat) (ty0 : Nat → FieldType) : Prop :=
  cl[ci]? = some (C, T, N) ∧ (∀ w ∈ u_ws C T N, w ∈ Ts) ∧ (∀ k, k < N → parseFieldDescriptor (T k).2.2.1 = some (ty0 k)) ∧ ∀ a, a < N → ∀ b, b < N → a ≠ b → (T a).2.1 ≠ (T b).2.1
section HXR
variable {p : Program} {l : Launch} {e : Env} {R : Room} {s : State} {m : MethodId} {args : Array Value} {below : List Frame} {meth : Method} {c : Code} {H : Heap} {locs : List Loc} {cells slots : Nat} {Q : State → Prop}
variable {cc : ByteArray} {pc : Nat} {ls : Array Slot} {rest : List Value} {D : va_G} {cl : List vw_C} {A : Nat → Prop} {a : Nat} {tys : hx_y} {H0 : Heap} {tb : List hx_d} {L : List Nat} {h : hx_h}
theorem hx_geti (hx : p.tables.exec = Jvm.exec) (hb : c.code = cc) {own C : String} {T : u_T} {N ci index : Nat} {Ts : List Cond} {ty0 : Nat → FieldType} (hts : ∀ w ∈ Ts, w.before args s = true) (hC : hx_C Ts cl ci C T N ty0) (hown : s.vm.findClass own = some m.cls) (hW : hx_W tb tys D cl A H0 L h s H locs) (hT : hx_T tb L h) {t : Nat} (g : hx_g L h a t) {fs : List hx_f} (hd : tb[t]? = some (.inl (ci, fs))) (k : Nat) (hk : k < N) {lo hi : Int} (hf : fs[k]? = some (.inl (lo, hi))) {ref nm ds : String} (hlink : Cond.fieldLink own index ref nm ds ∈ Ts) (hsame : (T k).1 = ref ∧ (T k).2.1 = nm ∧ (T k).2.2.1 = ds) (hdg : decode cc pc = .ok (.getfield index, 3))
    (kk : ∀ x : Int32, x = h.2.1 a k → lo ≤ x.toInt → x.toInt ≤ hi → W p l e R s m args below meth c H locs cells slots Q (F0 m (pc + 3) ls (.int x :: rest))) : W p l e R s m args below meth c H locs cells slots Q (F0 m pc ls (.ref a :: rest)) := by
  obtain ⟨k0, hk0⟩ := hx_at (tb := tb) (tys := tys) (h := h) g.1
  rw [hx_e_obj g.2 hd] at hk0
  obtain ⟨hlo, hhi⟩ := hx_T.gi hT g hd hf
  obtain ⟨rfl, rfl, rfl⟩ := hsame
  exact va_get (v := .int (h.2.1 a k)) hx hb hts hC.2.1 hown hW.1 hW.2.1 k0 hk0 hC.1 k hk (hts _ hlink) (fun _ h9 => h9) (hx_fs_get hf) hdg (kk _ rfl hlo hhi)
theorem hx_getr (hx : p.tables.exec = Jvm.exec) (hb : c.code = cc) {own C : String} {T : u_T} {N ci index : Nat} {Ts : List Cond} {ty0 : Nat → FieldType} (hts : ∀ w ∈ Ts, w.before args s = true) (hC : hx_C Ts cl ci C T N ty0) (hown : s.vm.findClass own = some m.cls) (hW : hx_W tb tys D cl A H0 L h s H locs) (hT : hx_T tb L h) {t : Nat} (g : hx_g L h a t) {fs : List hx_f} (hd : tb[t]? = some (.inl (ci, fs))) (k : Nat) (hk : k < N) {nn : Bool} {tt : List Nat} (hf : fs[k]? = some (.inr (nn, tt))) {ref nm ds : String} (hlink : Cond.fieldLink own index ref nm ds ∈ Ts) (hsame : (T k).1 = ref ∧ (T k).2.1 = nm ∧ (T k).2.2.1 = ds) (hdg : decode cc pc = .ok (.getfield index, 3))
    (kk : ∀ r : Option Nat, r = h.2.2 a k → (nn = true → r ≠ none) → (∀ q, r = some q → q ∈ L ∧ h.1 q ∈ tt) → W p l e R s m args below meth c H locs cells slots Q (F0 m (pc + 3) ls (va_rf r :: rest))) : W p l e R s m args below meth c H locs cells slots Q (F0 m pc ls (.ref a :: rest)) := by
  obtain ⟨k0, hk0⟩ := hx_at (tb := tb) (tys := tys) (h := h) g.1
  rw [hx_e_obj g.2 hd] at hk0
  obtain ⟨h1, h2⟩ := hx_T.gr hT g hd hf
  obtain ⟨rfl, rfl, rfl⟩ := hsame
  exact va_get (v := va_rf (h.2.2 a k)) hx hb hts hC.2.1 hown hW.1 hW.2.1 k0 hk0 hC.1 k hk (hts _ hlink) (fun _ h9 => h9) (hx_fs_get hf) hdg (kk _ rfl h1 h2)
/-- a reference that is never null, of one tag -/
theorem hx_getn (hx : p.tables.exec = Jvm.exec) (hb : c.code = cc) {own C : String} {T : u_T} {N ci index : Nat} {Ts : List Cond} {ty0 : Nat → FieldType} (hts : ∀ w ∈ Ts, w.before args s = true) (hC : hx_C Ts cl ci C T N ty0) (hown : s.vm.findClass own = some m.cls) (hW : hx_W tb tys D cl A H0 L h s H locs) (hT : hx_T tb L h) {t : Nat} (g : hx_g L h a t) {fs : List hx_f} (hd : tb[t]? = some (.inl (ci, fs))) (k : Nat) (hk : k < N) {t1 : Nat} (hf : fs[k]? = some (.inr (true, [t1]))) {ref nm ds : String} (hlink : Cond.fieldLink own index ref nm ds ∈ Ts) (hsame : (T k).1 = ref ∧ (T k).2.1 = nm ∧ (T k).2.2.1 = ds) (hdg : decode cc pc = .ok (.getfield index, 3))
    (kk : ∀ q : Nat, h.2.2 a k = some q → hx_g L h q t1 → W p l e R s m args below meth c H locs cells slots Q (F0 m (pc + 3) ls (.ref q :: rest))) : W p l e R s m args below meth c H locs cells slots Q (F0 m pc ls (.ref a :: rest)) := by
  refine hx_getr hx hb hts hC hown hW hT g hd k hk hf hlink hsame hdg fun r hr h1 h2 => ?_
  rcases r with _ | q
  · exact absurd rfl (h1 rfl)
  · obtain ⟨u1, u2⟩ := h2 q rfl
    exact kk q hr.symm ⟨u1, by simpa using u2⟩
theorem hx_puti (hx : p.tables.exec = Jvm.exec) (hb : c.code = cc) {own C : String} {T : u_T} {N ci index : Nat} {Ts : List Cond} {ty0 : Nat → FieldType} (hts : ∀ w ∈ Ts, w.before args s = true) (hC : hx_C Ts cl ci C T N ty0) (hown : s.vm.findClass own = some m.cls) (hW : hx_W tb tys D cl A H0 L h s H locs) (hT : hx_T tb L h) {M : hx_m} {L0 : List Nat} {h0 : hx_h} (hM : hx_S tb M L0 h0 L h) {t : Nat} (g : hx_g L h a t) {fs : List hx_f} (hd : tb[t]? = some (.inl (ci, fs))) (k : Nat) (hk : k < N) {lo hi : Int} (hf : fs[k]? = some (.inl (lo, hi))) {ref nm ds : String} (hlink : Cond.fieldLink own index ref nm ds ∈ Ts) (hsame : (T k).1 = ref ∧ (T k).2.1 = nm ∧ (T k).2.2.1 = ds) (hfin : (T k).2.2.2 = false) {x : Int32} (hx1 : lo ≤ x.toInt ∧ x.toInt ≤ hi) {ty : FieldType} (hty : ty0 k = ty) (hn : narrow ty (.int x) = .int x) (hfit : fits ty (.int x) = true) (hm : (t, k) ∈ M) (hdg : decode cc pc = .ok (.putfield index, 3))
    (kk : ∀ (H1 : Heap) (locs1 : List Loc) (h1 : hx_h), h1 = hx_pi h a k x → hx_W tb tys D cl A H0 L h1 s H1 locs1 → hx_T tb L h1 → hx_S tb M L0 h0 L h1 → W p l e R s m args below meth c H1 locs1 cells slots Q (F0 m (pc + 3) ls rest)) : W p l e R s m args below meth c H locs cells slots Q (F0 m pc ls (.int x :: .ref a :: rest)) := by
  obtain ⟨k0, hk0⟩ := hx_at (tb := tb) (tys := tys) (h := h) g.1
  have hk1 := hk0
  rw [hx_e_obj g.2 hd] at hk0
  obtain ⟨rfl, rfl, rfl⟩ := hsame
  subst hty
  obtain ⟨hK, hP, hD, hS, hA⟩ := hW
  refine va_put (v := .int x) (ty := ty0 k) hx hb hts hC.2.1 ty0 hC.2.2.1 hC.2.2.2 hown hK hP hD hS k0 hk0 hC.1 k hk (hts _ hlink) (fun _ h9 => h9) hfin (hC.2.2.1 k hk) hn hfit (by rw [hx_fs_len]; exact (List.getElem?_eq_some_iff.mp hf).1) hdg (fun H1 locs1 hP2 hD2 hS2 => ?_)
  have he : hx_e tb tys (hx_pi h a k x) a = .inr (ci, (hx_fs fs h a).set k (.int x)) := by
    rw [hx_e_obj (h := hx_pi h a k x) g.2 hd, hx_fs_pi hf]
  rw [hx_set (h1 := hx_pi h a k x) hD g.1 hk1 he (fun b hb => hx_e_pi hb)] at hP2 hD2
  refine kk H1 locs1 _ rfl ⟨hK, hP2, hD2, hS2, hA⟩ (hT.pi g hd ?_) (hM.pi g (by rw [hd]; exact hm))
  intro f hf2 r _
  have := hf.symm.trans hf2
  cases this
  exact hx1
theorem hx_putr (hx : p.tables.exec = Jvm.exec) (hb : c.code = cc) {own C : String} {T : u_T} {N ci index : Nat} {Ts : List Cond} {ty0 : Nat → FieldType} (hts : ∀ w ∈ Ts, w.before args s = true) (hC : hx_C Ts cl ci C T N ty0) (hown : s.vm.findClass own = some m.cls) (hW : hx_W tb tys D cl A H0 L h s H locs) (hT : hx_T tb L h) {M : hx_m} {L0 : List Nat} {h0 : hx_h} (hM : hx_S tb M L0 h0 L h) {t : Nat} (g : hx_g L h a t) {fs : List hx_f} (hd : tb[t]? = some (.inl (ci, fs))) (k : Nat) (hk : k < N) {nn : Bool} {tt : List Nat} (hf : fs[k]? = some (.inr (nn, tt))) {ref nm ds : String} (hlink : Cond.fieldLink own index ref nm ds ∈ Ts) (hsame : (T k).1 = ref ∧ (T k).2.1 = nm ∧ (T k).2.2.1 = ds) (hfin : (T k).2.2.2 = false) {x : Option Nat} (hx1 : (nn = true → x ≠ none) ∧ ∀ q, x = some q → q ∈ L ∧ h.1 q ∈ tt) {ty : FieldType} (hty : ty0 k = ty) (hn : narrow ty (va_rf x) = va_rf x) (hfit : fits ty (va_rf x) = true) (hm : (t, k) ∈ M) (hdg : decode cc pc = .ok (.putfield index, 3))
    (kk : ∀ (H1 : Heap) (locs1 : List Loc) (h1 : hx_h), h1 = hx_pr h a k x → hx_W tb tys D cl A H0 L h1 s H1 locs1 → hx_T tb L h1 → hx_S tb M L0 h0 L h1 → W p l e R s m args below meth c H1 locs1 cells slots Q (F0 m (pc + 3) ls rest)) : W p l e R s m args below meth c H locs cells slots Q (F0 m pc ls (va_rf x :: .ref a :: rest)) := by
  obtain ⟨k0, hk0⟩ := hx_at (tb := tb) (tys := tys) (h := h) g.1
  have hk1 := hk0
  rw [hx_e_obj g.2 hd] at hk0
  obtain ⟨rfl, rfl, rfl⟩ := hsame
  subst hty
  obtain ⟨hK, hP, hD, hS, hA⟩ := hW
  refine va_put (v := va_rf x) (ty := ty0 k) hx hb hts hC.2.1 ty0 hC.2.2.1 hC.2.2.2 hown hK hP hD hS k0 hk0 hC.1 k hk (hts _ hlink) (fun _ h9 => h9) hfin (hC.2.2.1 k hk) hn hfit (by rw [hx_fs_len]; exact (List.getElem?_eq_some_iff.mp hf).1) hdg (fun H1 locs1 hP2 hD2 hS2 => ?_)
  have he : hx_e tb tys (hx_pr h a k x) a = .inr (ci, (hx_fs fs h a).set k (va_rf x)) := by
    rw [hx_e_obj (h := hx_pr h a k x) g.2 hd, hx_fs_pr hf]
  rw [hx_set (h1 := hx_pr h a k x) hD g.1 hk1 he (fun b hb => hx_e_pr hb)] at hP2 hD2
  refine kk H1 locs1 _ rfl ⟨hK, hP2, hD2, hS2, hA⟩ (hT.pr g hd ?_) (hM.pr g (by rw [hd]; exact hm))
  intro f hf2 r _
  have := hf.symm.trans hf2
  cases this
  exact hx1
theorem hx_putiF (hx : p.tables.exec = Jvm.exec) (hb : c.code = cc) {own C : String} {T : u_T} {N ci index : Nat} {Ts : List Cond} {ty0 : Nat → FieldType} (hts : ∀ w ∈ Ts, w.before args s = true) (hC : hx_C Ts cl ci C T N ty0) (hown : s.vm.findClass own = some m.cls) (hW : hx_W tb tys D cl A H0 L h s H locs) (hT : hx_T tb L h) {M : hx_m} {L0 : List Nat} {h0 : hx_h} (hM : hx_S tb M L0 h0 L h) {t : Nat} (g : hx_g L h a t) {fs : List hx_f} (hd : tb[t]? = some (.inl (ci, fs))) (k : Nat) (hk : k < N) {lo hi : Int} (hf : fs[k]? = some (.inl (lo, hi))) {ref nm ds : String} (hlink : Cond.fieldLink own index ref nm ds ∈ Ts) (hsame : (T k).1 = ref ∧ (T k).2.1 = nm ∧ (T k).2.2.1 = ds) (hfin : (T k).2.2.2 = true) (hin2 : meth.name = "<init>") (hdecl : (T k).1 = own) {x : Int32} (hx1 : lo ≤ x.toInt ∧ x.toInt ≤ hi) {ty : FieldType} (hty : ty0 k = ty) (hn : narrow ty (.int x) = .int x) (hfit : fits ty (.int x) = true) (hm : (t, k) ∈ M) (hdg : decode cc pc = .ok (.putfield index, 3))
    (kk : ∀ (H1 : Heap) (locs1 : List Loc) (h1 : hx_h), h1 = hx_pi h a k x → hx_W tb tys D cl A H0 L h1 s H1 locs1 → hx_T tb L h1 → hx_S tb M L0 h0 L h1 → W p l e R s m args below meth c H1 locs1 cells slots Q (F0 m (pc + 3) ls rest)) : W p l e R s m args below meth c H locs cells slots Q (F0 m pc ls (.int x :: .ref a :: rest)) := by
  obtain ⟨k0, hk0⟩ := hx_at (tb := tb) (tys := tys) (h := h) g.1
  have hk1 := hk0
  rw [hx_e_obj g.2 hd] at hk0
  obtain ⟨rfl, rfl, rfl⟩ := hsame
  subst hty
  obtain ⟨hK, hP, hD, hS, hA⟩ := hW
  refine va_putF (v := .int x) (ty := ty0 k) hx hb hts hC.2.1 ty0 hC.2.2.1 hC.2.2.2 hown hK hP hD hS k0 hk0 hC.1 k hk (hts _ hlink) (fun _ h9 => h9) hfin hin2 hdecl (hC.2.2.1 k hk) hn hfit (by rw [hx_fs_len]; exact (List.getElem?_eq_some_iff.mp hf).1) hdg (fun H1 locs1 hP2 hD2 hS2 => ?_)
  have he : hx_e tb tys (hx_pi h a k x) a = .inr (ci, (hx_fs fs h a).set k (.int x)) := by
    rw [hx_e_obj (h := hx_pi h a k x) g.2 hd, hx_fs_pi hf]
  rw [hx_set (h1 := hx_pi h a k x) hD g.1 hk1 he (fun b hb => hx_e_pi hb)] at hP2 hD2
  refine kk H1 locs1 _ rfl ⟨hK, hP2, hD2, hS2, hA⟩ (hT.pi g hd ?_) (hM.pi g (by rw [hd]; exact hm))
  intro f hf2 r _
  have := hf.symm.trans hf2
  cases this
  exact hx1
theorem hx_putrF (hx : p.tables.exec = Jvm.exec) (hb : c.code = cc) {own C : String} {T : u_T} {N ci index : Nat} {Ts : List Cond} {ty0 : Nat → FieldType} (hts : ∀ w ∈ Ts, w.before args s = true) (hC : hx_C Ts cl ci C T N ty0) (hown : s.vm.findClass own = some m.cls) (hW : hx_W tb tys D cl A H0 L h s H locs) (hT : hx_T tb L h) {M : hx_m} {L0 : List Nat} {h0 : hx_h} (hM : hx_S tb M L0 h0 L h) {t : Nat} (g : hx_g L h a t) {fs : List hx_f} (hd : tb[t]? = some (.inl (ci, fs))) (k : Nat) (hk : k < N) {nn : Bool} {tt : List Nat} (hf : fs[k]? = some (.inr (nn, tt))) {ref nm ds : String} (hlink : Cond.fieldLink own index ref nm ds ∈ Ts) (hsame : (T k).1 = ref ∧ (T k).2.1 = nm ∧ (T k).2.2.1 = ds) (hfin : (T k).2.2.2 = true) (hin2 : meth.name = "<init>") (hdecl : (T k).1 = own) {x : Option Nat} (hx1 : (nn = true → x ≠ none) ∧ ∀ q, x = some q → q ∈ L ∧ h.1 q ∈ tt) {ty : FieldType} (hty : ty0 k = ty) (hn : narrow ty (va_rf x) = va_rf x) (hfit : fits ty (va_rf x) = true) (hm : (t, k) ∈ M) (hdg : decode cc pc = .ok (.putfield index, 3))
    (kk : ∀ (H1 : Heap) (locs1 : List Loc) (h1 : hx_h), h1 = hx_pr h a k x → hx_W tb tys D cl A H0 L h1 s H1 locs1 → hx_T tb L h1 → hx_S tb M L0 h0 L h1 → W p l e R s m args below meth c H1 locs1 cells slots Q (F0 m (pc + 3) ls rest)) : W p l e R s m args below meth c H locs cells slots Q (F0 m pc ls (va_rf x :: .ref a :: rest)) := by
  obtain ⟨k0, hk0⟩ := hx_at (tb := tb) (tys := tys) (h := h) g.1
  have hk1 := hk0
  rw [hx_e_obj g.2 hd] at hk0
  obtain ⟨rfl, rfl, rfl⟩ := hsame
  subst hty
  obtain ⟨hK, hP, hD, hS, hA⟩ := hW
  refine va_putF (v := va_rf x) (ty := ty0 k) hx hb hts hC.2.1 ty0 hC.2.2.1 hC.2.2.2 hown hK hP hD hS k0 hk0 hC.1 k hk (hts _ hlink) (fun _ h9 => h9) hfin hin2 hdecl (hC.2.2.1 k hk) hn hfit (by rw [hx_fs_len]; exact (List.getElem?_eq_some_iff.mp hf).1) hdg (fun H1 locs1 hP2 hD2 hS2 => ?_)
  have he : hx_e tb tys (hx_pr h a k x) a = .inr (ci, (hx_fs fs h a).set k (va_rf x)) := by
    rw [hx_e_obj (h := hx_pr h a k x) g.2 hd, hx_fs_pr hf]
  rw [hx_set (h1 := hx_pr h a k x) hD g.1 hk1 he (fun b hb => hx_e_pr hb)] at hP2 hD2
  refine kk H1 locs1 _ rfl ⟨hK, hP2, hD2, hS2, hA⟩ (hT.pr g hd ?_) (hM.pr g (by rw [hd]; exact hm))
  intro f hf2 r _
  have := hf.symm.trans hf2
  cases this
  exact hx1
theorem hx_iald (hx : p.tables.exec = Jvm.exec) (hb : c.code = cc) (hW : hx_W tb tys D cl A H0 L h s H locs) (hT : hx_T tb L h) {t : Nat} (g : hx_g L h a t) {t0 n : Nat} {lo hi : Int} (hd : tb[t]? = some (.inr (t0, n, .inl (lo, hi)))) {cA : ClassId} (ht : tys[t0]? = some (cA, .int)) {i : Int32} (hin : 0 ≤ i.toInt ∧ i.toInt < n) (hdg : decode cc pc = .ok (.iaload, 1))
    (kk : ∀ x : Int32, x = h.2.1 a i.toNatClampNeg → lo ≤ x.toInt → x.toInt ≤ hi → W p l e R s m args below meth c H locs cells slots Q (F0 m (pc + 1) ls (.int x :: rest))) : W p l e R s m args below meth c H locs cells slots Q (F0 m pc ls (.int i :: .ref a :: rest)) := by
  obtain ⟨k0, hk0⟩ := hx_at (tb := tb) (tys := tys) (h := h) g.1
  rw [hx_e_arr g.2 hd] at hk0
  have hin2 : vp_in i n := vp_in_iff.mpr hin
  have hlt : i.toNatClampNeg < n := Nat.not_le.mp fun q => hin2 (Or.inr q)
  obtain ⟨h1, h2⟩ := hx_T.ei hT g hd hlt
  have hcA : hx_t tys t0 = cA := by simp [hx_t, ht]
  rw [hcA] at hk0
  exact va_iald hx hb hW.1 hW.2.1 k0 t0 hk0 ht hin2 hdg (kk _ rfl h1 h2)
theorem hx_bald (hx : p.tables.exec = Jvm.exec) (hb : c.code = cc) (hW : hx_W tb tys D cl A H0 L h s H locs) (hT : hx_T tb L h) {t : Nat} (g : hx_g L h a t) {t0 n : Nat} {lo hi : Int} (hd : tb[t]? = some (.inr (t0, n, .inl (lo, hi)))) {cA : ClassId} (ht : tys[t0]? = some (cA, .byte)) {i : Int32} (hin : 0 ≤ i.toInt ∧ i.toInt < n) (hdg : decode cc pc = .ok (.baload, 1))
    (kk : ∀ x : Int32, x = h.2.1 a i.toNatClampNeg → lo ≤ x.toInt → x.toInt ≤ hi → W p l e R s m args below meth c H locs cells slots Q (F0 m (pc + 1) ls (.int x :: rest))) : W p l e R s m args below meth c H locs cells slots Q (F0 m pc ls (.int i :: .ref a :: rest)) := by
  obtain ⟨k0, hk0⟩ := hx_at (tb := tb) (tys := tys) (h := h) g.1
  rw [hx_e_arr g.2 hd] at hk0
  have hin2 : vp_in i n := vp_in_iff.mpr hin
  have hlt : i.toNatClampNeg < n := Nat.not_le.mp fun q => hin2 (Or.inr q)
  obtain ⟨h1, h2⟩ := hx_T.ei hT g hd hlt
  have hcA : hx_t tys t0 = cA := by simp [hx_t, ht]
  rw [hcA] at hk0
  exact va_bald hx hb hW.1 hW.2.1 k0 t0 hk0 ht hin2 hdg (kk _ rfl h1 h2)
theorem hx_zald (hx : p.tables.exec = Jvm.exec) (hb : c.code = cc) (hW : hx_W tb tys D cl A H0 L h s H locs) (hT : hx_T tb L h) {t : Nat} (g : hx_g L h a t) {t0 n : Nat} {lo hi : Int} (hd : tb[t]? = some (.inr (t0, n, .inl (lo, hi)))) {cA : ClassId} (ht : tys[t0]? = some (cA, .boolean)) {i : Int32} (hin : 0 ≤ i.toInt ∧ i.toInt < n) (hdg : decode cc pc = .ok (.baload, 1))
    (kk : ∀ x : Int32, x = h.2.1 a i.toNatClampNeg → lo ≤ x.toInt → x.toInt ≤ hi → W p l e R s m args below meth c H locs cells slots Q (F0 m (pc + 1) ls (.int x :: rest))) : W p l e R s m args below meth c H locs cells slots Q (F0 m pc ls (.int i :: .ref a :: rest)) := by
  obtain ⟨k0, hk0⟩ := hx_at (tb := tb) (tys := tys) (h := h) g.1
  rw [hx_e_arr g.2 hd] at hk0
  have hin2 : vp_in i n := vp_in_iff.mpr hin
  have hlt : i.toNatClampNeg < n := Nat.not_le.mp fun q => hin2 (Or.inr q)
  obtain ⟨h1, h2⟩ := hx_T.ei hT g hd hlt
  have hcA : hx_t tys t0 = cA := by simp [hx_t, ht]
  rw [hcA] at hk0
  exact va_zald hx hb hW.1 hW.2.1 k0 t0 hk0 ht hin2 hdg (kk _ rfl h1 h2)
theorem hx_cald (hx : p.tables.exec = Jvm.exec) (hb : c.code = cc) (hW : hx_W tb tys D cl A H0 L h s H locs) (hT : hx_T tb L h) {t : Nat} (g : hx_g L h a t) {t0 n : Nat} {lo hi : Int} (hd : tb[t]? = some (.inr (t0, n, .inl (lo, hi)))) {cA : ClassId} (ht : tys[t0]? = some (cA, .char)) {i : Int32} (hin : 0 ≤ i.toInt ∧ i.toInt < n) (hdg : decode cc pc = .ok (.caload, 1))
    (kk : ∀ x : Int32, x = h.2.1 a i.toNatClampNeg → lo ≤ x.toInt → x.toInt ≤ hi → W p l e R s m args below meth c H locs cells slots Q (F0 m (pc + 1) ls (.int x :: rest))) : W p l e R s m args below meth c H locs cells slots Q (F0 m pc ls (.int i :: .ref a :: rest)) := by
  obtain ⟨k0, hk0⟩ := hx_at (tb := tb) (tys := tys) (h := h) g.1
  rw [hx_e_arr g.2 hd] at hk0
  have hin2 : vp_in i n := vp_in_iff.mpr hin
  have hlt : i.toNatClampNeg < n := Nat.not_le.mp fun q => hin2 (Or.inr q)
  obtain ⟨h1, h2⟩ := hx_T.ei hT g hd hlt
  have hcA : hx_t tys t0 = cA := by simp [hx_t, ht]
  rw [hcA] at hk0
  exact va_cald hx hb hW.1 hW.2.1 k0 t0 hk0 ht hin2 hdg (kk _ rfl h1 h2)
theorem hx_sald (hx : p.tables.exec = Jvm.exec) (hb : c.code = cc) (hW : hx_W tb tys D cl A H0 L h s H locs) (hT : hx_T tb L h) {t : Nat} (g : hx_g L h a t) {t0 n : Nat} {lo hi : Int} (hd : tb[t]? = some (.inr (t0, n, .inl (lo, hi)))) {cA : ClassId} (ht : tys[t0]? = some (cA, .short)) {i : Int32} (hin : 0 ≤ i.toInt ∧ i.toInt < n) (hdg : decode cc pc = .ok (.saload, 1))
    (kk : ∀ x : Int32, x = h.2.1 a i.toNatClampNeg → lo ≤ x.toInt → x.toInt ≤ hi → W p l e R s m args below meth c H locs cells slots Q (F0 m (pc + 1) ls (.int x :: rest))) : W p l e R s m args below meth c H locs cells slots Q (F0 m pc ls (.int i :: .ref a :: rest)) := by
  obtain ⟨k0, hk0⟩ := hx_at (tb := tb) (tys := tys) (h := h) g.1
  rw [hx_e_arr g.2 hd] at hk0
  have hin2 : vp_in i n := vp_in_iff.mpr hin
  have hlt : i.toNatClampNeg < n := Nat.not_le.mp fun q => hin2 (Or.inr q)
  obtain ⟨h1, h2⟩ := hx_T.ei hT g hd hlt
  have hcA : hx_t tys t0 = cA := by simp [hx_t, ht]
  rw [hcA] at hk0
  exact va_sald hx hb hW.1 hW.2.1 k0 t0 hk0 ht hin2 hdg (kk _ rfl h1 h2)
theorem hx_aald (hx : p.tables.exec = Jvm.exec) (hb : c.code = cc) (hW : hx_W tb tys D cl A H0 L h s H locs) (hT : hx_T tb L h) {t : Nat} (g : hx_g L h a t) {t0 n : Nat} {nn : Bool} {tt : List Nat} (hd : tb[t]? = some (.inr (t0, n, .inr (nn, tt)))) {cA : ClassId} {C : String} (ht : tys[t0]? = some (cA, .object C)) {i : Int32} (hin : 0 ≤ i.toInt ∧ i.toInt < n) (hdg : decode cc pc = .ok (.aaload, 1))
    (kk : ∀ r : Option Nat, r = h.2.2 a i.toNatClampNeg → (nn = true → r ≠ none) → (∀ q, r = some q → q ∈ L ∧ h.1 q ∈ tt) → W p l e R s m args below meth c H locs cells slots Q (F0 m (pc + 1) ls (va_rf r :: rest))) : W p l e R s m args below meth c H locs cells slots Q (F0 m pc ls (.int i :: .ref a :: rest)) := by
  obtain ⟨k0, hk0⟩ := hx_at (tb := tb) (tys := tys) (h := h) g.1
  rw [hx_e_arr g.2 hd] at hk0
  have hin2 : vp_in i n := vp_in_iff.mpr hin
  have hlt : i.toNatClampNeg < n := Nat.not_le.mp fun q => hin2 (Or.inr q)
  obtain ⟨h1, h2⟩ := hx_T.er hT g hd hlt
  have hcA : hx_t tys t0 = cA := by simp [hx_t, ht]
  rw [hcA] at hk0
  exact va_aldq hx hb hW.1 hW.2.1 k0 t0 hk0 ht hin2 hdg (kk _ rfl h1 h2)
theorem hx_iast (hx : p.tables.exec = Jvm.exec) (hb : c.code = cc) (hW : hx_W tb tys D cl A H0 L h s H locs) (hT : hx_T tb L h) {M : hx_m} {L0 : List Nat} {h0 : hx_h} (hM : hx_S tb M L0 h0 L h) {t : Nat} (g : hx_g L h a t) {t0 n : Nat} {lo hi : Int} (hd : tb[t]? = some (.inr (t0, n, .inl (lo, hi)))) {cA : ClassId} (ht : tys[t0]? = some (cA, .int)) {i x y : Int32} (hin : 0 ≤ i.toInt ∧ i.toInt < n) (hy : x = y) (hx1 : lo ≤ y.toInt ∧ y.toInt ≤ hi) (hm : (t, 0) ∈ M) (hdg : decode cc pc = .ok (.iastore, 1))
    (kk : ∀ (H1 : Heap) (locs1 : List Loc) (h1 : hx_h), h1 = hx_pi h a i.toNatClampNeg y → hx_W tb tys D cl A H0 L h1 s H1 locs1 → hx_T tb L h1 → hx_S tb M L0 h0 L h1 → W p l e R s m args below meth c H1 locs1 cells slots Q (F0 m (pc + 1) ls rest)) : W p l e R s m args below meth c H locs cells slots Q (F0 m pc ls (.int x :: .int i :: .ref a :: rest)) := by
  obtain ⟨k0, hk0⟩ := hx_at (tb := tb) (tys := tys) (h := h) g.1
  have hk1 := hk0
  rw [hx_e_arr g.2 hd] at hk0
  have hin2 : vp_in i n := vp_in_iff.mpr hin
  have hcA : hx_t tys t0 = cA := by simp [hx_t, ht]
  rw [hcA] at hk0
  obtain ⟨hK, hP, hD, hS, hA⟩ := hW
  refine va_iast hx hb hK hP hD hS k0 t0 hk0 ht hin2 hdg (fun H1 locs1 hP2 hD2 hS2 => ?_)
  rw [hy] at hP2 hD2
  have he : hx_e tb tys (hx_pi h a i.toNatClampNeg y) a = .inl (cA, n, .inl (upd (h.2.1 a) i.toNatClampNeg y)) := by
    rw [hx_e_arr (h := hx_pi h a i.toNatClampNeg y) g.2 hd, hcA]
    simp only [hx_a, hx_pi]
    congr 4
    funext j
    simp [upd]
  rw [hx_set (h1 := hx_pi h a i.toNatClampNeg y) hD g.1 hk1 he (fun b hb => hx_e_pi hb)] at hP2 hD2
  refine kk H1 locs1 _ rfl ⟨hK, hP2, hD2, hS2, hA⟩ (hT.pi g hd ?_) (hM.pi g (by rw [hd]; exact hm))
  intro f hf2 r _
  cases hf2
  exact hx1
theorem hx_bast (hx : p.tables.exec = Jvm.exec) (hb : c.code = cc) (hW : hx_W tb tys D cl A H0 L h s H locs) (hT : hx_T tb L h) {M : hx_m} {L0 : List Nat} {h0 : hx_h} (hM : hx_S tb M L0 h0 L h) {t : Nat} (g : hx_g L h a t) {t0 n : Nat} {lo hi : Int} (hd : tb[t]? = some (.inr (t0, n, .inl (lo, hi)))) {cA : ClassId} (ht : tys[t0]? = some (cA, .byte)) {i x y : Int32} (hin : 0 ≤ i.toInt ∧ i.toInt < n) (hy : (vp_nar .byte x) = y) (hx1 : lo ≤ y.toInt ∧ y.toInt ≤ hi) (hm : (t, 0) ∈ M) (hdg : decode cc pc = .ok (.bastore, 1))
    (kk : ∀ (H1 : Heap) (locs1 : List Loc) (h1 : hx_h), h1 = hx_pi h a i.toNatClampNeg y → hx_W tb tys D cl A H0 L h1 s H1 locs1 → hx_T tb L h1 → hx_S tb M L0 h0 L h1 → W p l e R s m args below meth c H1 locs1 cells slots Q (F0 m (pc + 1) ls rest)) : W p l e R s m args below meth c H locs cells slots Q (F0 m pc ls (.int x :: .int i :: .ref a :: rest)) := by
  obtain ⟨k0, hk0⟩ := hx_at (tb := tb) (tys := tys) (h := h) g.1
  have hk1 := hk0
  rw [hx_e_arr g.2 hd] at hk0
  have hin2 : vp_in i n := vp_in_iff.mpr hin
  have hcA : hx_t tys t0 = cA := by simp [hx_t, ht]
  rw [hcA] at hk0
  obtain ⟨hK, hP, hD, hS, hA⟩ := hW
  refine va_bast hx hb hK hP hD hS k0 t0 hk0 ht hin2 hdg (fun H1 locs1 hP2 hD2 hS2 => ?_)
  rw [hy] at hP2 hD2
  have he : hx_e tb tys (hx_pi h a i.toNatClampNeg y) a = .inl (cA, n, .inl (upd (h.2.1 a) i.toNatClampNeg y)) := by
    rw [hx_e_arr (h := hx_pi h a i.toNatClampNeg y) g.2 hd, hcA]
    simp only [hx_a, hx_pi]
    congr 4
    funext j
    simp [upd]
  rw [hx_set (h1 := hx_pi h a i.toNatClampNeg y) hD g.1 hk1 he (fun b hb => hx_e_pi hb)] at hP2 hD2
  refine kk H1 locs1 _ rfl ⟨hK, hP2, hD2, hS2, hA⟩ (hT.pi g hd ?_) (hM.pi g (by rw [hd]; exact hm))
  intro f hf2 r _
  cases hf2
  exact hx1
theorem hx_zast (hx : p.tables.exec = Jvm.exec) (hb : c.code = cc) (hW : hx_W tb tys D cl A H0 L h s H locs) (hT : hx_T tb L h) {M : hx_m} {L0 : List Nat} {h0 : hx_h} (hM : hx_S tb M L0 h0 L h) {t : Nat} (g : hx_g L h a t) {t0 n : Nat} {lo hi : Int} (hd : tb[t]? = some (.inr (t0, n, .inl (lo, hi)))) {cA : ClassId} (ht : tys[t0]? = some (cA, .boolean)) {i x y : Int32} (hin : 0 ≤ i.toInt ∧ i.toInt < n) (hy : (vp_nar .boolean x) = y) (hx1 : lo ≤ y.toInt ∧ y.toInt ≤ hi) (hm : (t, 0) ∈ M) (hdg : decode cc pc = .ok (.bastore, 1))
    (kk : ∀ (H1 : Heap) (locs1 : List Loc) (h1 : hx_h), h1 = hx_pi h a i.toNatClampNeg y → hx_W tb tys D cl A H0 L h1 s H1 locs1 → hx_T tb L h1 → hx_S tb M L0 h0 L h1 → W p l e R s m args below meth c H1 locs1 cells slots Q (F0 m (pc + 1) ls rest)) : W p l e R s m args below meth c H locs cells slots Q (F0 m pc ls (.int x :: .int i :: .ref a :: rest)) := by
  obtain ⟨k0, hk0⟩ := hx_at (tb := tb) (tys := tys) (h := h) g.1
  have hk1 := hk0
  rw [hx_e_arr g.2 hd] at hk0
  have hin2 : vp_in i n := vp_in_iff.mpr hin
  have hcA : hx_t tys t0 = cA := by simp [hx_t, ht]
  rw [hcA] at hk0
  obtain ⟨hK, hP, hD, hS, hA⟩ := hW
  refine va_zast hx hb hK hP hD hS k0 t0 hk0 ht hin2 hdg (fun H1 locs1 hP2 hD2 hS2 => ?_)
  rw [hy] at hP2 hD2
  have he : hx_e tb tys (hx_pi h a i.toNatClampNeg y) a = .inl (cA, n, .inl (upd (h.2.1 a) i.toNatClampNeg y)) := by
    rw [hx_e_arr (h := hx_pi h a i.toNatClampNeg y) g.2 hd, hcA]
    simp only [hx_a, hx_pi]
    congr 4
    funext j
    simp [upd]
  rw [hx_set (h1 := hx_pi h a i.toNatClampNeg y) hD g.1 hk1 he (fun b hb => hx_e_pi hb)] at hP2 hD2
  refine kk H1 locs1 _ rfl ⟨hK, hP2, hD2, hS2, hA⟩ (hT.pi g hd ?_) (hM.pi g (by rw [hd]; exact hm))
  intro f hf2 r _
  cases hf2
  exact hx1
theorem hx_aast (hx : p.tables.exec = Jvm.exec) (hb : c.code = cc) (hW : hx_W tb tys D cl A H0 L h s H locs) (hT : hx_T tb L h) {M : hx_m} {L0 : List Nat} {h0 : hx_h} (hM : hx_S tb M L0 h0 L h) {t : Nat} (g : hx_g L h a t) {t0 n : Nat} {nn : Bool} {tt : List Nat} (hd : tb[t]? = some (.inr (t0, n, .inr (nn, tt)))) {cA : ClassId} {r : vw_C} (ht : tys[t0]? = some (cA, .object r.1)) {v t1 ci : Nat} {fs : List hx_f} (gv : hx_g L h v t1) (hd1 : tb[t1]? = some (.inl (ci, fs))) (hc : cl[ci]? = some r) (htt : t1 ∈ tt) {i : Int32} (hin : 0 ≤ i.toInt ∧ i.toInt < n) (hm : (t, 0) ∈ M) (hdg : decode cc pc = .ok (.aastore, 1))
    (kk : ∀ (H1 : Heap) (locs1 : List Loc) (h1 : hx_h), h1 = hx_pr h a i.toNatClampNeg (some v) → hx_W tb tys D cl A H0 L h1 s H1 locs1 → hx_T tb L h1 → hx_S tb M L0 h0 L h1 → W p l e R s m args below meth c H1 locs1 cells slots Q (F0 m (pc + 1) ls rest)) : W p l e R s m args below meth c H locs cells slots Q (F0 m pc ls (.ref v :: .int i :: .ref a :: rest)) := by
  obtain ⟨k0, hk0⟩ := hx_at (tb := tb) (tys := tys) (h := h) g.1
  obtain ⟨k2, hk2⟩ := hx_at (tb := tb) (tys := tys) (h := h) gv.1
  have hk1 := hk0
  rw [hx_e_arr g.2 hd] at hk0
  rw [hx_e_obj gv.2 hd1] at hk2
  have hin2 : vp_in i n := vp_in_iff.mpr hin
  have hcA : hx_t tys t0 = cA := by simp [hx_t, ht]
  rw [hcA] at hk0
  obtain ⟨hK, hP, hD, hS, hA⟩ := hW
  refine va_astq hx hb hK hP hD hS k0 t0 k2 ci hk0 ht hk2 hc hin2 hdg (fun H1 locs1 hP2 hD2 hS2 => ?_)
  have he : hx_e tb tys (hx_pr h a i.toNatClampNeg (some v)) a = .inl (cA, n, .inr (.inr (.inr (.inr (va_up (h.2.2 a) i.toNatClampNeg (some v)))))) := by
    rw [hx_e_arr (h := hx_pr h a i.toNatClampNeg (some v)) g.2 hd, hcA]
    simp only [hx_a, hx_pr]
    congr 7
    funext j
    simp [va_up]
  rw [hx_set (h1 := hx_pr h a i.toNatClampNeg (some v)) hD g.1 hk1 he (fun b hb => hx_e_pr hb)] at hP2 hD2
  refine kk H1 locs1 _ rfl ⟨hK, hP2, hD2, hS2, hA⟩ (hT.pr g hd ?_) (hM.pr g (by rw [hd]; exact hm))
  intro f hf2 i0 _
  cases hf2
  refine ⟨fun _ z => (by cases z), fun q hq => ?_⟩
  cases hq
  exact ⟨gv.1, by rw [gv.2]; exact htt⟩
theorem hx_alen (hx : p.tables.exec = Jvm.exec) (hb : c.code = cc) (hW : hx_W tb tys D cl A H0 L h s H locs) {t : Nat} (g : hx_g L h a t) {t0 n : Nat} {f : hx_f} (hd : tb[t]? = some (.inr (t0, n, f))) {cA : ClassId} {ty : FieldType} (ht : tys[t0]? = some (cA, ty)) (hdg : decode cc pc = .ok (.arraylength, 1))
    (kk : W p l e R s m args below meth c H locs cells slots Q (F0 m (pc + 1) ls (.int (Int32.ofNat n) :: rest))) : W p l e R s m args below meth c H locs cells slots Q (F0 m pc ls (.ref a :: rest)) := by
  obtain ⟨k0, hk0⟩ := hx_at (tb := tb) (tys := tys) (h := h) g.1
  rw [hx_e_arr g.2 hd] at hk0
  have hcA : hx_t tys t0 = cA := by simp [hx_t, ht]
  rw [hcA] at hk0
  refine va_alen hx hb hW.1 hW.2.1 k0 t0 hk0 ht (v := Int32.ofNat n) ?_ hdg kk
  cases f <;> rfl
end HXR
end
section
/-! CONTRACTS, CALLS AND ENDS over the typed heap: a method gets the whole world and gives the whole world back -/
def hx_A (L : List Nat) (sz : Nat) : Nat → Prop := fun q => q ∈ L ∨ sz ≤ q
def hx_B (tb : List hx_d) (tys : hx_y) (D : va_G) (cl : List vw_C) (L : List Nat) (h : hx_h) (sz : Nat) (U : State) : Prop :=
  U.heap.size = sz ∧ va_P D cl (hx_p tb tys L h) U.heap ∧ va_K D cl tys U ∧ va_D (fun _ => True) (hx_p tb tys L h)
def hx_E (tb : List hx_d) (tys : hx_y) (D : va_G) (cl : List vw_C) (A : Nat → Prop) (u : List Nat × hx_h) (t : State) : Prop :=
  va_P D cl (hx_p tb tys u.1 u.2) t.heap ∧ va_K D cl tys t ∧ va_D A (hx_p tb tys u.1 u.2)
theorem hx_blind {tb : List hx_d} {tys : hx_y} {D : va_G} {cl : List vw_C} {L : List Nat} {h : hx_h} {sz : Nat} {av : List Value} : FrameBlind (va_Pc av (hx_B tb tys D cl L h sz)) := fun a U g mk q => by
  obtain ⟨q0, q1, qP, qK, qD⟩ := q
  exact ⟨q0, q1, qP, va_K.moved (u := U) (U := U.calling g mk a) (Vm.Alike.refl U.vm) qK, qD⟩
theorem hx_pre {tb : List hx_d} {tys : hx_y} {D : va_G} {cl : List vw_C} {A : Nat → Prop} {H0 H : Heap} {L : List Nat} {h : hx_h} {s : State} {locs : List Loc} {av : List Value} (hW : hx_W tb tys D cl A H0 L h s H locs) : ∀ U : State, U.heap = H → s.WarmedH U.vm → va_Pc av (hx_B tb tys D cl L h H.size) av.toArray U := fun U hU hw =>
  ⟨rfl, by rw [hU], by rw [hU]; exact hW.2.1, va_K.moved hw.alike hW.1, hW.2.2.1.weaken (fun _ _ _ _ => trivial)⟩
theorem hx_in {tb : List hx_d} {tys : hx_y} {D : va_G} {cl : List vw_C} {A : Nat → Prop} {H0 H : Heap} {L : List Nat} {h : hx_h} {s : State} {locs : List Loc} (hW : hx_W tb tys D cl A H0 L h s H locs) : ∀ q, hx_A L H.size q → A q := by
  intro q hq
  rcases hq with hq | hq
  · obtain ⟨k, hk⟩ := hx_at (tb := tb) (tys := tys) (h := h) hq
    exact hW.2.2.1.2 k _ hk
  · exact hW.2.2.2.2 q (Nat.le_trans hW.2.2.2.1.1 hq)
section HXC
variable {p : Program} {l : Launch} {e : Env} {R : Room} {s : State} {m : MethodId} {args : Array Value} {below : List Frame} {meth : Method} {c : Code} {H : Heap} {locs : List Loc} {cells slots : Nat} {Q : State → Prop}
variable {cc : ByteArray} {pc : Nat} {ls : Array Slot} {rest st0 : List Value} {D : va_G} {cl : List vw_C} {A : Nat → Prop} {a : Nat} {tys : hx_y} {H0 : Heap} {tb : List hx_d} {L : List Nat} {h : hx_h}
variable {y : MethodName} {bytes : ByteArray} {maxL nL mc ms n index : Nat} {ret : Option FieldType} {ws : List Cond} {rm : Room} {Ts : List Cond} {own C : String} {As : List Value} {Qc : Array Value → State → Outcome → State → Prop}
theorem hx_recv (hW : hx_W tb tys D cl A H0 L h s H locs) {t : Nat} (g : hx_g L h a t) {ci : Nat} {fs : List hx_f} (hd : tb[t]? = some (.inl (ci, fs))) {q : vw_C} (hc : cl[ci]? = some q) : ∃ cell : Cell, H[a]? = some cell ∧ cell.vm.isStatics = false ∧ s.vm.findClass q.1 = some cell.cls := by
  obtain ⟨k0, hk0⟩ := hx_at (tb := tb) (tys := tys) (h := h) g.1
  rw [hx_e_obj g.2 hd] at hk0
  exact va_recv hW.1 hW.2.1 hc hk0
theorem hx_runV (S : CallFix p m c cc nL s args Ts own) (hW : hx_W tb tys D cl A H0 L h s H locs) {t : Nat} (g : hx_g L h a t) {ci : Nat} {fs : List hx_f} (hd : tb[t]? = some (.inl (ci, fs))) {T : u_T} {N : Nat} (hc : cl[ci]? = some (C, T, N)) (hM : Met l y ws rm (va_Pc (.ref a :: As) (hx_B tb tys D cl L h H.size)) Qc mc ms (hx_A L H.size)) (cw : CallW R s args own C index y bytes maxL ret ws rm mc ms n) (hn : As.length = n) (hsize : ls.size = nL) (hst : st0 = As.reverse ++ .ref a :: rest) (hR : (rest.map fun v => v.category).sum ≤ 8) (hdg : decode cc pc = .ok (.invokevirtual index, 3)) (hf : cells + mc ≤ R.cells ∧ slots + ms ≤ R.slots) :
    va_Run p l e R s m args below meth c H locs cells slots mc ms (F0 m pc ls st0) rest (Qc (Value.ref a :: As).toArray) (hx_A L H.size) :=
  va_runV S hM cw ⟨hx_blind, hx_recv hW g hd hc, hx_pre hW⟩ rfl hn hsize hst (lv_room hR) hdg hf
theorem hx_runS (S : CallFix p m c cc nL s args Ts own) (hW : hx_W tb tys D cl A H0 L h s H locs) (hM : Met l y ws rm (va_Pc As (hx_B tb tys D cl L h H.size)) Qc mc ms (hx_A L H.size)) (cw : CallB R s args own index y bytes maxL ret ws rm mc ms n ∧ (Cond.static y).before args s = true) (hn : As.length = n) (hsize : ls.size = nL) (hst : st0 = As.reverse ++ rest) (hR : (rest.map fun v => v.category).sum ≤ 8) (hdg : decode cc pc = .ok (.invokestatic index, 3)) (hf : cells + mc ≤ R.cells ∧ slots + ms ≤ R.slots) :
    va_Run p l e R s m args below meth c H locs cells slots mc ms (F0 m pc ls st0) rest (Qc As.toArray) (hx_A L H.size) :=
  va_runS S hM cw ⟨hx_blind, hx_pre hW⟩ rfl hn hsize hst (lv_room hR) hdg hf
theorem hx_runI (S : CallFix p m c cc nL s args Ts own) (hW : hx_W tb tys D cl A H0 L h s H locs) (hM : Met l y ws rm (va_Pc (.ref a :: As) (hx_B tb tys D cl L h H.size)) Qc mc ms (hx_A L H.size)) (cw : CallB R s args own index y bytes maxL none ws rm mc ms n ∧ y.name = "<init>" ∧ (Cond.instanceMethod y).before args s = true) (hn : As.length = n) (hsize : ls.size = nL) (hst : st0 = As.reverse ++ .ref a :: rest) (hR : (rest.map fun v => v.category).sum ≤ 8) (hdg : decode cc pc = .ok (.invokespecial index, 3)) (hf : cells + mc ≤ R.cells ∧ slots + ms ≤ R.slots) :
    va_Run p l e R s m args below meth c H locs cells slots mc ms (F0 m pc ls st0) rest (Qc (Value.ref a :: As).toArray) (hx_A L H.size) :=
  va_runI S hM cw ⟨hx_blind, hx_pre hW⟩ rfl hn hsize hst (lv_room hR) hdg hf
variable {a1 : Array Value}
theorem hx_goi {post : Int32 → List Nat × hx_h → Prop} (hr : va_Run p l e R s m args below meth c H locs cells slots mc ms (F0 m pc ls st0) rest (va_Qi post (hx_E tb tys D cl (hx_A L H.size)) (hx_A L H.size) a1) (hx_A L H.size)) (hW : hx_W tb tys D cl A H0 L h s H locs)
    (kk : ∀ (r : Int32) (L1 : List Nat) (h1 : hx_h) (H1 : Heap) (locs1 : List Loc), post r (L1, h1) → hx_W tb tys D cl A H0 L1 h1 s H1 locs1 → W p l e R s m args below meth c H1 locs1 (cells + mc) (slots + ms) Q (F0 m (pc + 3) ls (.int r :: rest))) : W p l e R s m args below meth c H locs cells slots Q (F0 m pc ls st0) := by
  refine va_calli hr hW.2.2.2.1 (fun q _ hq => hx_in hW q hq) (fun q hq => hx_in hW q hq) (fun r u t H1 locs1 ht hvm hp hB hz hk hS => ?_)
  obtain ⟨b1, b2, b3⟩ := hB
  rw [ht] at b1
  exact kk r u.1 u.2 H1 locs1 hp ⟨hW.1, b1, b3.weaken (fun _ q _ hq => hx_in hW q.1 hq), hS, hW.2.2.2.2⟩
theorem hx_gol {post : Int64 → List Nat × hx_h → Prop} (hr : va_Run p l e R s m args below meth c H locs cells slots mc ms (F0 m pc ls st0) rest (va_Ql post (hx_E tb tys D cl (hx_A L H.size)) (hx_A L H.size) a1) (hx_A L H.size)) (hW : hx_W tb tys D cl A H0 L h s H locs)
    (kk : ∀ (r : Int64) (L1 : List Nat) (h1 : hx_h) (H1 : Heap) (locs1 : List Loc), post r (L1, h1) → hx_W tb tys D cl A H0 L1 h1 s H1 locs1 → W p l e R s m args below meth c H1 locs1 (cells + mc) (slots + ms) Q (F0 m (pc + 3) ls (.long r :: rest))) : W p l e R s m args below meth c H locs cells slots Q (F0 m pc ls st0) := by
  refine va_calll hr hW.2.2.2.1 (fun q _ hq => hx_in hW q hq) (fun q hq => hx_in hW q hq) (fun r u t H1 locs1 ht hvm hp hB hz hk hS => ?_)
  obtain ⟨b1, b2, b3⟩ := hB
  rw [ht] at b1
  exact kk r u.1 u.2 H1 locs1 hp ⟨hW.1, b1, b3.weaken (fun _ q _ hq => hx_in hW q.1 hq), hS, hW.2.2.2.2⟩
theorem hx_gov {post : List Nat × hx_h → Prop} (hr : va_Run p l e R s m args below meth c H locs cells slots mc ms (F0 m pc ls st0) rest (va_Qv post (hx_E tb tys D cl (hx_A L H.size)) (hx_A L H.size) a1) (hx_A L H.size)) (hW : hx_W tb tys D cl A H0 L h s H locs)
    (kk : ∀ (L1 : List Nat) (h1 : hx_h) (H1 : Heap) (locs1 : List Loc), post (L1, h1) → hx_W tb tys D cl A H0 L1 h1 s H1 locs1 → W p l e R s m args below meth c H1 locs1 (cells + mc) (slots + ms) Q (F0 m (pc + 3) ls rest)) : W p l e R s m args below meth c H locs cells slots Q (F0 m pc ls st0) := by
  refine va_callv hr hW.2.2.2.1 (fun q _ hq => hx_in hW q hq) (fun q hq => hx_in hW q hq) (fun u t H1 locs1 ht hvm hp hB hz hk hS => ?_)
  obtain ⟨b1, b2, b3⟩ := hB
  rw [ht] at b1
  exact kk u.1 u.2 H1 locs1 hp ⟨hW.1, b1, b3.weaken (fun _ q _ hq => hx_in hW q.1 hq), hS, hW.2.2.2.2⟩
theorem hx_goq {post : Option Nat → List Nat × hx_h → Prop} (hr : va_Run p l e R s m args below meth c H locs cells slots mc ms (F0 m pc ls st0) rest (va_Qq post (hx_E tb tys D cl (hx_A L H.size)) (hx_A L H.size) a1) (hx_A L H.size)) (hW : hx_W tb tys D cl A H0 L h s H locs)
    (kk : ∀ (r : Option Nat) (L1 : List Nat) (h1 : hx_h) (H1 : Heap) (locs1 : List Loc), post r (L1, h1) → hx_W tb tys D cl A H0 L1 h1 s H1 locs1 → W p l e R s m args below meth c H1 locs1 (cells + mc) (slots + ms) Q (F0 m (pc + 3) ls (va_rf r :: rest))) : W p l e R s m args below meth c H locs cells slots Q (F0 m pc ls st0) := by
  refine va_callq hr hW.2.2.2.1 (fun q _ hq => hx_in hW q hq) (fun q hq => hx_in hW q hq) (fun r u t H1 locs1 ht hvm hp hB hz hk hS => ?_)
  obtain ⟨b1, b2, b3⟩ := hB
  rw [ht] at b1
  exact kk r u.1 u.2 H1 locs1 hp ⟨hW.1, b1, b3.weaken (fun _ q _ hq => hx_in hW q.1 hq), hS, hW.2.2.2.2⟩
theorem hx_reti {post : Int32 → List Nat × hx_h → Prop} {v : Int32} (hx : p.tables.exec = Jvm.exec) (hb : c.code = cc) (hr : meth.sig.returnType = some .int) (hlocks : meth.locks = false) (hW : hx_W tb tys D cl A s.heap L h s H locs) (hp : post v (L, h)) (hdg : decode cc pc = .ok (.ireturn, 1)) :
    W p l e R s m args below meth c H locs cells slots (MQ below (va_Qi post (hx_E tb tys D cl A) A) args s cells slots A) (F0 m pc ls [.int v]) :=
  W.iret hx hb hr (fun t ht hw => ⟨⟨v, (L, h), rfl, hp, by rw [ht]; exact hW.2.1, va_K.moved hw.alike hW.1, hW.2.2.1⟩, hW.2.2.2.1.F ht⟩) hW.2.2.2.1.2.2 hdg hlocks
theorem hx_retz {post : Int32 → List Nat × hx_h → Prop} {v : Int32} {ty : FieldType} (hx : p.tables.exec = Jvm.exec) (hb : c.code = cc) (hr : meth.sig.returnType = some ty) (hn : narrow ty (.int v) = .int v) (hlocks : meth.locks = false) (hW : hx_W tb tys D cl A s.heap L h s H locs) (hp : post v (L, h)) (hdg : decode cc pc = .ok (.ireturn, 1)) :
    W p l e R s m args below meth c H locs cells slots (MQ below (va_Qi post (hx_E tb tys D cl A) A) args s cells slots A) (F0 m pc ls [.int v]) :=
  W.zret hx hb hr hn (fun t ht hw => ⟨⟨v, (L, h), rfl, hp, by rw [ht]; exact hW.2.1, va_K.moved hw.alike hW.1, hW.2.2.1⟩, hW.2.2.2.1.F ht⟩) hW.2.2.2.1.2.2 hdg hlocks
theorem hx_retv {post : List Nat × hx_h → Prop} (hx : p.tables.exec = Jvm.exec) (hb : c.code = cc) (hr : meth.sig.returnType = none) (hlocks : meth.locks = false) (hW : hx_W tb tys D cl A s.heap L h s H locs) (hp : post (L, h)) (hdg : decode cc pc = .ok (.return_, 1)) :
    W p l e R s m args below meth c H locs cells slots (MQ below (va_Qv post (hx_E tb tys D cl A) A) args s cells slots A) (F0 m pc ls []) :=
  W.vret hx hb hr (fun t ht hw => ⟨⟨(L, h), rfl, hp, by rw [ht]; exact hW.2.1, va_K.moved hw.alike hW.1, hW.2.2.1⟩, hW.2.2.2.1.F ht⟩) hW.2.2.2.1.2.2 hdg hlocks
theorem hx_retq {post : Option Nat → List Nat × hx_h → Prop} {v : Option Nat} {rt : FieldType} (hx : p.tables.exec = Jvm.exec) (hb : c.code = cc) (hr : meth.sig.returnType = some rt) (hrt : (∃ n, rt = .object n) ∨ ∃ t, rt = .array t) (hlocks : meth.locks = false) (hW : hx_W tb tys D cl A s.heap L h s H locs) (hp : post v (L, h)) (hdg : decode cc pc = .ok (.areturn, 1)) :
    W p l e R s m args below meth c H locs cells slots (MQ below (va_Qq post (hx_E tb tys D cl A) A) args s cells slots A) (F0 m pc ls [va_rf v]) :=
  W.aret hx hb hr hrt (by cases v <;> simp [va_rf]) (fun t ht hw => ⟨⟨v, (L, h), rfl, hp, by rw [ht]; exact hW.2.1, va_K.moved hw.alike hW.1, hW.2.2.1⟩, hW.2.2.2.1.F ht⟩) hW.2.2.2.1.2.2 hdg hlocks
end HXC
theorem hx_met {l : Launch} {y : MethodName} {ws ws' : List Cond} {rm : Room} {mc ms : Nat} {cc : ByteArray} {maxL : Nat} {ret : Option FieldType} {tb : List hx_d} {tys : hx_y} {D : va_G} {cl : List vw_C} {L : List Nat} {h : hx_h} {sz : Nat} {av : List Value} {Qc : Array Value → State → Outcome → State → Prop} {lv : List (Nat × Value)}
    (hy : plainName y.cls = true) (hw : ws = Cond.code y cc maxL ret :: ws') (hlen : (lg_sl av).length ≤ maxL) (hlv : lv_args 0 av = lv)
    (body : ∀ (p : Program) (e : Env) (s : State) (m : MethodId) (below : List Frame) (meth : Method) (c : Code), p.tables.exec = Jvm.exec → c.code = cc → c.maxLocals = maxL → meth.sig.returnType = ret → meth.locks = false → (∀ w ∈ ws, w.before av.toArray s = true) → s.vm.findClass y.cls = some m.cls → meth.name = y.name → s.heap.size = sz →
      hx_W tb tys D cl (hx_A L sz) s.heap L h s s.heap [] → ∀ ls : Array Slot, lv_has ls maxL lv → W p l e rm s m av.toArray below meth c s.heap [] 0 0 (MQ below Qc av.toArray s mc ms (hx_A L sz)) (F0 m 0 ls [])) :
    Met l y ws rm (va_Pc av (hx_B tb tys D cl L h sz)) Qc mc ms (hx_A L sz) := by
  refine Met.ofW (cc := cc) (maxL := maxL) (ret := ret) hy hw ?_
  intro p e s m args below meth c s₁ B hml hv
  obtain ⟨rfl, hsz, hP, hK, hD0⟩ := hv
  have hl := lv_entry av (n := maxL) hlen
  rw [lg_entry_eq]
  refine body p e s m below meth c B.exec B.bytes hml B.returns B.notSynchronized (atoms_spec (ws := ws) B.pre) (findClass_of_methodNamed B.named) (name_of_methodNamed B.named B.method).1 hsz ⟨hK, hP, hD0.weaken (fun k q hk _ => ?_), va_S.rf, fun q hq => Or.inr (by rw [← hsz]; exact hq)⟩ _ (by rw [← hlv]; exact hl)
  refine Or.inl ?_
  have hmem := List.mem_of_getElem? hk
  obtain ⟨b, hb, hbq⟩ := List.mem_map.mp hmem
  rw [← hbq]
  exact hb
end
section
/-! ROWS over the tagged heap where what is read is known (no types needed); a change tells its step 'hs' -/
section HKR
variable {p : Program} {l : Launch} {e : Env} {R : Room} {s : State} {m : MethodId} {args : Array Value} {below : List Frame} {meth : Method} {c : Code} {H : Heap} {locs : List Loc} {cells slots : Nat} {Q : State → Prop}
variable {cc : ByteArray} {pc : Nat} {ls : Array Slot} {rest : List Value} {D : va_G} {cl : List vw_C} {A : Nat → Prop} {a : Nat} {tys : hx_y} {H0 : Heap} {tb : List hx_d} {L : List Nat} {h : hx_h}
theorem hk_geti (hx : p.tables.exec = Jvm.exec) (hb : c.code = cc) {own C : String} {T : u_T} {N ci index : Nat} {Ts : List Cond} {ty0 : Nat → FieldType} (hts : ∀ w ∈ Ts, w.before args s = true) (hC : hx_C Ts cl ci C T N ty0) (hown : s.vm.findClass own = some m.cls) (hW : hx_W tb tys D cl A H0 L h s H locs) {t : Nat} (g : hx_g L h a t) {fs : List hx_f} (hd : tb[t]? = some (.inl (ci, fs))) (k : Nat) (hk : k < N) {b : Int × Int} (hf : fs[k]? = some (.inl b)) {ref nm ds : String} (hlink : Cond.fieldLink own index ref nm ds ∈ Ts) (hsame : (T k).1 = ref ∧ (T k).2.1 = nm ∧ (T k).2.2.1 = ds) {v : Int32} (hv : h.2.1 a k = v) (hdg : decode cc pc = .ok (.getfield index, 3))
    (kk : W p l e R s m args below meth c H locs cells slots Q (F0 m (pc + 3) ls (.int v :: rest))) : W p l e R s m args below meth c H locs cells slots Q (F0 m pc ls (.ref a :: rest)) := by
  obtain ⟨k0, hk0⟩ := hx_at (tb := tb) (tys := tys) (h := h) g.1
  rw [hx_e_obj g.2 hd] at hk0
  obtain ⟨rfl, rfl, rfl⟩ := hsame
  subst hv
  exact va_get (v := .int (h.2.1 a k)) hx hb hts hC.2.1 hown hW.1 hW.2.1 k0 hk0 hC.1 k hk (hts _ hlink) (fun _ h9 => h9) (hx_fs_get hf) hdg kk
theorem hk_getq (hx : p.tables.exec = Jvm.exec) (hb : c.code = cc) {own C : String} {T : u_T} {N ci index : Nat} {Ts : List Cond} {ty0 : Nat → FieldType} (hts : ∀ w ∈ Ts, w.before args s = true) (hC : hx_C Ts cl ci C T N ty0) (hown : s.vm.findClass own = some m.cls) (hW : hx_W tb tys D cl A H0 L h s H locs) {t : Nat} (g : hx_g L h a t) {fs : List hx_f} (hd : tb[t]? = some (.inl (ci, fs))) (k : Nat) (hk : k < N) {b : Bool × List Nat} (hf : fs[k]? = some (.inr b)) {ref nm ds : String} (hlink : Cond.fieldLink own index ref nm ds ∈ Ts) (hsame : (T k).1 = ref ∧ (T k).2.1 = nm ∧ (T k).2.2.1 = ds) {r : Option Nat} (hv : h.2.2 a k = r) (hdg : decode cc pc = .ok (.getfield index, 3))
    (kk : W p l e R s m args below meth c H locs cells slots Q (F0 m (pc + 3) ls (va_rf r :: rest))) : W p l e R s m args below meth c H locs cells slots Q (F0 m pc ls (.ref a :: rest)) := by
  obtain ⟨k0, hk0⟩ := hx_at (tb := tb) (tys := tys) (h := h) g.1
  rw [hx_e_obj g.2 hd] at hk0
  obtain ⟨rfl, rfl, rfl⟩ := hsame
  subst hv
  exact va_get (v := va_rf (h.2.2 a k)) hx hb hts hC.2.1 hown hW.1 hW.2.1 k0 hk0 hC.1 k hk (hts _ hlink) (fun _ h9 => h9) (hx_fs_get hf) hdg kk
theorem hk_getr (hx : p.tables.exec = Jvm.exec) (hb : c.code = cc) {own C : String} {T : u_T} {N ci index : Nat} {Ts : List Cond} {ty0 : Nat → FieldType} (hts : ∀ w ∈ Ts, w.before args s = true) (hC : hx_C Ts cl ci C T N ty0) (hown : s.vm.findClass own = some m.cls) (hW : hx_W tb tys D cl A H0 L h s H locs) {t : Nat} (g : hx_g L h a t) {fs : List hx_f} (hd : tb[t]? = some (.inl (ci, fs))) (k : Nat) (hk : k < N) {b : Bool × List Nat} (hf : fs[k]? = some (.inr b)) {ref nm ds : String} (hlink : Cond.fieldLink own index ref nm ds ∈ Ts) (hsame : (T k).1 = ref ∧ (T k).2.1 = nm ∧ (T k).2.2.1 = ds) {q : Nat} (hv : h.2.2 a k = some q) (hdg : decode cc pc = .ok (.getfield index, 3))
    (kk : W p l e R s m args below meth c H locs cells slots Q (F0 m (pc + 3) ls (.ref q :: rest))) : W p l e R s m args below meth c H locs cells slots Q (F0 m pc ls (.ref a :: rest)) :=
  hk_getq hx hb hts hC hown hW g hd k hk hf hlink hsame hv hdg kk
theorem hk_puti (hx : p.tables.exec = Jvm.exec) (hb : c.code = cc) {own C : String} {T : u_T} {N ci index : Nat} {Ts : List Cond} {ty0 : Nat → FieldType} (hts : ∀ w ∈ Ts, w.before args s = true) (hC : hx_C Ts cl ci C T N ty0) (hown : s.vm.findClass own = some m.cls) (hW : hx_W tb tys D cl A H0 L h s H locs) {t : Nat} (g : hx_g L h a t) {fs : List hx_f} (hd : tb[t]? = some (.inl (ci, fs))) (k : Nat) (hk : k < N) {b : Int × Int} (hf : fs[k]? = some (.inl b)) {ref nm ds : String} (hlink : Cond.fieldLink own index ref nm ds ∈ Ts) (hsame : (T k).1 = ref ∧ (T k).2.1 = nm ∧ (T k).2.2.1 = ds) (hfin : (T k).2.2.2 = false) {x : Int32} {ty : FieldType} (hty : ty0 k = ty) (hn : narrow ty (.int x) = .int x) (hfit : fits ty (.int x) = true) (hdg : decode cc pc = .ok (.putfield index, 3))
    (kk : ∀ (H1 : Heap) (locs1 : List Loc) (h1 : hx_h), h1 = hx_pi h a k x → hx_W tb tys D cl A H0 L h1 s H1 locs1 → hx_S tb [(t, k)] L h L h1 → W p l e R s m args below meth c H1 locs1 cells slots Q (F0 m (pc + 3) ls rest)) : W p l e R s m args below meth c H locs cells slots Q (F0 m pc ls (.int x :: .ref a :: rest)) := by
  obtain ⟨k0, hk0⟩ := hx_at (tb := tb) (tys := tys) (h := h) g.1
  have hk1 := hk0
  rw [hx_e_obj g.2 hd] at hk0
  obtain ⟨rfl, rfl, rfl⟩ := hsame
  subst hty
  obtain ⟨hK, hP, hD, hS, hA⟩ := hW
  refine va_put (v := .int x) (ty := ty0 k) hx hb hts hC.2.1 ty0 hC.2.2.1 hC.2.2.2 hown hK hP hD hS k0 hk0 hC.1 k hk (hts _ hlink) (fun _ h9 => h9) hfin (hC.2.2.1 k hk) hn hfit (by rw [hx_fs_len]; exact (List.getElem?_eq_some_iff.mp hf).1) hdg (fun H1 locs1 hP2 hD2 hS2 => ?_)
  have he : hx_e tb tys (hx_pi h a k x) a = .inr (ci, (hx_fs fs h a).set k (.int x)) := by
    rw [hx_e_obj (h := hx_pi h a k x) g.2 hd, hx_fs_pi hf]
  rw [hx_set (h1 := hx_pi h a k x) hD g.1 hk1 he (fun b hb => hx_e_pi hb)] at hP2 hD2
  exact kk H1 locs1 _ rfl ⟨hK, hP2, hD2, hS2, hA⟩ (hx_S.rf.pi g (by rw [hd]; exact List.mem_singleton.mpr rfl))
theorem hk_putr (hx : p.tables.exec = Jvm.exec) (hb : c.code = cc) {own C : String} {T : u_T} {N ci index : Nat} {Ts : List Cond} {ty0 : Nat → FieldType} (hts : ∀ w ∈ Ts, w.before args s = true) (hC : hx_C Ts cl ci C T N ty0) (hown : s.vm.findClass own = some m.cls) (hW : hx_W tb tys D cl A H0 L h s H locs) {t : Nat} (g : hx_g L h a t) {fs : List hx_f} (hd : tb[t]? = some (.inl (ci, fs))) (k : Nat) (hk : k < N) {b : Bool × List Nat} (hf : fs[k]? = some (.inr b)) {ref nm ds : String} (hlink : Cond.fieldLink own index ref nm ds ∈ Ts) (hsame : (T k).1 = ref ∧ (T k).2.1 = nm ∧ (T k).2.2.1 = ds) (hfin : (T k).2.2.2 = false) {x : Option Nat} {ty : FieldType} (hty : ty0 k = ty) (hn : narrow ty (va_rf x) = va_rf x) (hfit : fits ty (va_rf x) = true) (hdg : decode cc pc = .ok (.putfield index, 3))
    (kk : ∀ (H1 : Heap) (locs1 : List Loc) (h1 : hx_h), h1 = hx_pr h a k x → hx_W tb tys D cl A H0 L h1 s H1 locs1 → hx_S tb [(t, k)] L h L h1 → W p l e R s m args below meth c H1 locs1 cells slots Q (F0 m (pc + 3) ls rest)) : W p l e R s m args below meth c H locs cells slots Q (F0 m pc ls (va_rf x :: .ref a :: rest)) := by
  obtain ⟨k0, hk0⟩ := hx_at (tb := tb) (tys := tys) (h := h) g.1
  have hk1 := hk0
  rw [hx_e_obj g.2 hd] at hk0
  obtain ⟨rfl, rfl, rfl⟩ := hsame
  subst hty
  obtain ⟨hK, hP, hD, hS, hA⟩ := hW
  refine va_put (v := va_rf x) (ty := ty0 k) hx hb hts hC.2.1 ty0 hC.2.2.1 hC.2.2.2 hown hK hP hD hS k0 hk0 hC.1 k hk (hts _ hlink) (fun _ h9 => h9) hfin (hC.2.2.1 k hk) hn hfit (by rw [hx_fs_len]; exact (List.getElem?_eq_some_iff.mp hf).1) hdg (fun H1 locs1 hP2 hD2 hS2 => ?_)
  have he : hx_e tb tys (hx_pr h a k x) a = .inr (ci, (hx_fs fs h a).set k (va_rf x)) := by
    rw [hx_e_obj (h := hx_pr h a k x) g.2 hd, hx_fs_pr hf]
  rw [hx_set (h1 := hx_pr h a k x) hD g.1 hk1 he (fun b hb => hx_e_pr hb)] at hP2 hD2
  exact kk H1 locs1 _ rfl ⟨hK, hP2, hD2, hS2, hA⟩ (hx_S.rf.pr g (by rw [hd]; exact List.mem_singleton.mpr rfl))
theorem hk_putiF (hx : p.tables.exec = Jvm.exec) (hb : c.code = cc) {own C : String} {T : u_T} {N ci index : Nat} {Ts : List Cond} {ty0 : Nat → FieldType} (hts : ∀ w ∈ Ts, w.before args s = true) (hC : hx_C Ts cl ci C T N ty0) (hown : s.vm.findClass own = some m.cls) (hW : hx_W tb tys D cl A H0 L h s H locs) {t : Nat} (g : hx_g L h a t) {fs : List hx_f} (hd : tb[t]? = some (.inl (ci, fs))) (k : Nat) (hk : k < N) {b : Int × Int} (hf : fs[k]? = some (.inl b)) {ref nm ds : String} (hlink : Cond.fieldLink own index ref nm ds ∈ Ts) (hsame : (T k).1 = ref ∧ (T k).2.1 = nm ∧ (T k).2.2.1 = ds) (hfin : (T k).2.2.2 = true) (hin2 : meth.name = "<init>") (hdecl : (T k).1 = own) {x : Int32} {ty : FieldType} (hty : ty0 k = ty) (hn : narrow ty (.int x) = .int x) (hfit : fits ty (.int x) = true) (hdg : decode cc pc = .ok (.putfield index, 3))
    (kk : ∀ (H1 : Heap) (locs1 : List Loc) (h1 : hx_h), h1 = hx_pi h a k x → hx_W tb tys D cl A H0 L h1 s H1 locs1 → hx_S tb [(t, k)] L h L h1 → W p l e R s m args below meth c H1 locs1 cells slots Q (F0 m (pc + 3) ls rest)) : W p l e R s m args below meth c H locs cells slots Q (F0 m pc ls (.int x :: .ref a :: rest)) := by
  obtain ⟨k0, hk0⟩ := hx_at (tb := tb) (tys := tys) (h := h) g.1
  have hk1 := hk0
  rw [hx_e_obj g.2 hd] at hk0
  obtain ⟨rfl, rfl, rfl⟩ := hsame
  subst hty
  obtain ⟨hK, hP, hD, hS, hA⟩ := hW
  refine va_putF (v := .int x) (ty := ty0 k) hx hb hts hC.2.1 ty0 hC.2.2.1 hC.2.2.2 hown hK hP hD hS k0 hk0 hC.1 k hk (hts _ hlink) (fun _ h9 => h9) hfin hin2 hdecl (hC.2.2.1 k hk) hn hfit (by rw [hx_fs_len]; exact (List.getElem?_eq_some_iff.mp hf).1) hdg (fun H1 locs1 hP2 hD2 hS2 => ?_)
  have he : hx_e tb tys (hx_pi h a k x) a = .inr (ci, (hx_fs fs h a).set k (.int x)) := by
    rw [hx_e_obj (h := hx_pi h a k x) g.2 hd, hx_fs_pi hf]
  rw [hx_set (h1 := hx_pi h a k x) hD g.1 hk1 he (fun b hb => hx_e_pi hb)] at hP2 hD2
  exact kk H1 locs1 _ rfl ⟨hK, hP2, hD2, hS2, hA⟩ (hx_S.rf.pi g (by rw [hd]; exact List.mem_singleton.mpr rfl))
theorem hk_putrF (hx : p.tables.exec = Jvm.exec) (hb : c.code = cc) {own C : String} {T : u_T} {N ci index : Nat} {Ts : List Cond} {ty0 : Nat → FieldType} (hts : ∀ w ∈ Ts, w.before args s = true) (hC : hx_C Ts cl ci C T N ty0) (hown : s.vm.findClass own = some m.cls) (hW : hx_W tb tys D cl A H0 L h s H locs) {t : Nat} (g : hx_g L h a t) {fs : List hx_f} (hd : tb[t]? = some (.inl (ci, fs))) (k : Nat) (hk : k < N) {b : Bool × List Nat} (hf : fs[k]? = some (.inr b)) {ref nm ds : String} (hlink : Cond.fieldLink own index ref nm ds ∈ Ts) (hsame : (T k).1 = ref ∧ (T k).2.1 = nm ∧ (T k).2.2.1 = ds) (hfin : (T k).2.2.2 = true) (hin2 : meth.name = "<init>") (hdecl : (T k).1 = own) {x : Option Nat} {ty : FieldType} (hty : ty0 k = ty) (hn : narrow ty (va_rf x) = va_rf x) (hfit : fits ty (va_rf x) = true) (hdg : decode cc pc = .ok (.putfield index, 3))
    (kk : ∀ (H1 : Heap) (locs1 : List Loc) (h1 : hx_h), h1 = hx_pr h a k x → hx_W tb tys D cl A H0 L h1 s H1 locs1 → hx_S tb [(t, k)] L h L h1 → W p l e R s m args below meth c H1 locs1 cells slots Q (F0 m (pc + 3) ls rest)) : W p l e R s m args below meth c H locs cells slots Q (F0 m pc ls (va_rf x :: .ref a :: rest)) := by
  obtain ⟨k0, hk0⟩ := hx_at (tb := tb) (tys := tys) (h := h) g.1
  have hk1 := hk0
  rw [hx_e_obj g.2 hd] at hk0
  obtain ⟨rfl, rfl, rfl⟩ := hsame
  subst hty
  obtain ⟨hK, hP, hD, hS, hA⟩ := hW
  refine va_putF (v := va_rf x) (ty := ty0 k) hx hb hts hC.2.1 ty0 hC.2.2.1 hC.2.2.2 hown hK hP hD hS k0 hk0 hC.1 k hk (hts _ hlink) (fun _ h9 => h9) hfin hin2 hdecl (hC.2.2.1 k hk) hn hfit (by rw [hx_fs_len]; exact (List.getElem?_eq_some_iff.mp hf).1) hdg (fun H1 locs1 hP2 hD2 hS2 => ?_)
  have he : hx_e tb tys (hx_pr h a k x) a = .inr (ci, (hx_fs fs h a).set k (va_rf x)) := by
    rw [hx_e_obj (h := hx_pr h a k x) g.2 hd, hx_fs_pr hf]
  rw [hx_set (h1 := hx_pr h a k x) hD g.1 hk1 he (fun b hb => hx_e_pr hb)] at hP2 hD2
  exact kk H1 locs1 _ rfl ⟨hK, hP2, hD2, hS2, hA⟩ (hx_S.rf.pr g (by rw [hd]; exact List.mem_singleton.mpr rfl))
theorem hk_iast (hx : p.tables.exec = Jvm.exec) (hb : c.code = cc) (hW : hx_W tb tys D cl A H0 L h s H locs) {t : Nat} (g : hx_g L h a t) {t0 n : Nat} {b : Int × Int} (hd : tb[t]? = some (.inr (t0, n, .inl b))) {cA : ClassId} (ht : tys[t0]? = some (cA, .int)) {i x y : Int32} (hin : 0 ≤ i.toInt ∧ i.toInt < n) (hy : x = y) (hdg : decode cc pc = .ok (.iastore, 1))
    (kk : ∀ (H1 : Heap) (locs1 : List Loc) (h1 : hx_h), h1 = hx_pi h a i.toNatClampNeg y → hx_W tb tys D cl A H0 L h1 s H1 locs1 → hx_S tb [(t, 0)] L h L h1 → W p l e R s m args below meth c H1 locs1 cells slots Q (F0 m (pc + 1) ls rest)) : W p l e R s m args below meth c H locs cells slots Q (F0 m pc ls (.int x :: .int i :: .ref a :: rest)) := by
  obtain ⟨k0, hk0⟩ := hx_at (tb := tb) (tys := tys) (h := h) g.1
  have hk1 := hk0
  rw [hx_e_arr g.2 hd] at hk0
  have hin2 : vp_in i n := vp_in_iff.mpr hin
  have hcA : hx_t tys t0 = cA := by simp [hx_t, ht]
  rw [hcA] at hk0
  obtain ⟨hK, hP, hD, hS, hA⟩ := hW
  refine va_iast hx hb hK hP hD hS k0 t0 hk0 ht hin2 hdg (fun H1 locs1 hP2 hD2 hS2 => ?_)
  rw [hy] at hP2 hD2
  have he : hx_e tb tys (hx_pi h a i.toNatClampNeg y) a = .inl (cA, n, .inl (upd (h.2.1 a) i.toNatClampNeg y)) := by
    rw [hx_e_arr (h := hx_pi h a i.toNatClampNeg y) g.2 hd, hcA]
    simp only [hx_a, hx_pi]
    congr 4
    funext j
    simp [upd]
  rw [hx_set (h1 := hx_pi h a i.toNatClampNeg y) hD g.1 hk1 he (fun b hb => hx_e_pi hb)] at hP2 hD2
  exact kk H1 locs1 _ rfl ⟨hK, hP2, hD2, hS2, hA⟩ (hx_S.rf.pi g (by rw [hd]; exact List.mem_singleton.mpr rfl))
theorem hk_bast (hx : p.tables.exec = Jvm.exec) (hb : c.code = cc) (hW : hx_W tb tys D cl A H0 L h s H locs) {t : Nat} (g : hx_g L h a t) {t0 n : Nat} {b : Int × Int} (hd : tb[t]? = some (.inr (t0, n, .inl b))) {cA : ClassId} (ht : tys[t0]? = some (cA, .byte)) {i x y : Int32} (hin : 0 ≤ i.toInt ∧ i.toInt < n) (hy : (vp_nar .byte x) = y) (hdg : decode cc pc = .ok (.bastore, 1))
    (kk : ∀ (H1 : Heap) (locs1 : List Loc) (h1 : hx_h), h1 = hx_pi h a i.toNatClampNeg y → hx_W tb tys D cl A H0 L h1 s H1 locs1 → hx_S tb [(t, 0)] L h L h1 → W p l e R s m args below meth c H1 locs1 cells slots Q (F0 m (pc + 1) ls rest)) : W p l e R s m args below meth c H locs cells slots Q (F0 m pc ls (.int x :: .int i :: .ref a :: rest)) := by
  obtain ⟨k0, hk0⟩ := hx_at (tb := tb) (tys := tys) (h := h) g.1
  have hk1 := hk0
  rw [hx_e_arr g.2 hd] at hk0
  have hin2 : vp_in i n := vp_in_iff.mpr hin
  have hcA : hx_t tys t0 = cA := by simp [hx_t, ht]
  rw [hcA] at hk0
  obtain ⟨hK, hP, hD, hS, hA⟩ := hW
  refine va_bast hx hb hK hP hD hS k0 t0 hk0 ht hin2 hdg (fun H1 locs1 hP2 hD2 hS2 => ?_)
  rw [hy] at hP2 hD2
  have he : hx_e tb tys (hx_pi h a i.toNatClampNeg y) a = .inl (cA, n, .inl (upd (h.2.1 a) i.toNatClampNeg y)) := by
    rw [hx_e_arr (h := hx_pi h a i.toNatClampNeg y) g.2 hd, hcA]
    simp only [hx_a, hx_pi]
    congr 4
    funext j
    simp [upd]
  rw [hx_set (h1 := hx_pi h a i.toNatClampNeg y) hD g.1 hk1 he (fun b hb => hx_e_pi hb)] at hP2 hD2
  exact kk H1 locs1 _ rfl ⟨hK, hP2, hD2, hS2, hA⟩ (hx_S.rf.pi g (by rw [hd]; exact List.mem_singleton.mpr rfl))
theorem hk_zast (hx : p.tables.exec = Jvm.exec) (hb : c.code = cc) (hW : hx_W tb tys D cl A H0 L h s H locs) {t : Nat} (g : hx_g L h a t) {t0 n : Nat} {b : Int × Int} (hd : tb[t]? = some (.inr (t0, n, .inl b))) {cA : ClassId} (ht : tys[t0]? = some (cA, .boolean)) {i x y : Int32} (hin : 0 ≤ i.toInt ∧ i.toInt < n) (hy : (vp_nar .boolean x) = y) (hdg : decode cc pc = .ok (.bastore, 1))
    (kk : ∀ (H1 : Heap) (locs1 : List Loc) (h1 : hx_h), h1 = hx_pi h a i.toNatClampNeg y → hx_W tb tys D cl A H0 L h1 s H1 locs1 → hx_S tb [(t, 0)] L h L h1 → W p l e R s m args below meth c H1 locs1 cells slots Q (F0 m (pc + 1) ls rest)) : W p l e R s m args below meth c H locs cells slots Q (F0 m pc ls (.int x :: .int i :: .ref a :: rest)) := by
  obtain ⟨k0, hk0⟩ := hx_at (tb := tb) (tys := tys) (h := h) g.1
  have hk1 := hk0
  rw [hx_e_arr g.2 hd] at hk0
  have hin2 : vp_in i n := vp_in_iff.mpr hin
  have hcA : hx_t tys t0 = cA := by simp [hx_t, ht]
  rw [hcA] at hk0
  obtain ⟨hK, hP, hD, hS, hA⟩ := hW
  refine va_zast hx hb hK hP hD hS k0 t0 hk0 ht hin2 hdg (fun H1 locs1 hP2 hD2 hS2 => ?_)
  rw [hy] at hP2 hD2
  have he : hx_e tb tys (hx_pi h a i.toNatClampNeg y) a = .inl (cA, n, .inl (upd (h.2.1 a) i.toNatClampNeg y)) := by
    rw [hx_e_arr (h := hx_pi h a i.toNatClampNeg y) g.2 hd, hcA]
    simp only [hx_a, hx_pi]
    congr 4
    funext j
    simp [upd]
  rw [hx_set (h1 := hx_pi h a i.toNatClampNeg y) hD g.1 hk1 he (fun b hb => hx_e_pi hb)] at hP2 hD2
  exact kk H1 locs1 _ rfl ⟨hK, hP2, hD2, hS2, hA⟩ (hx_S.rf.pi g (by rw [hd]; exact List.mem_singleton.mpr rfl))
theorem hk_aast (hx : p.tables.exec = Jvm.exec) (hb : c.code = cc) (hW : hx_W tb tys D cl A H0 L h s H locs) {t : Nat} (g : hx_g L h a t) {t0 n : Nat} {b : Bool × List Nat} (hd : tb[t]? = some (.inr (t0, n, .inr b))) {cA : ClassId} {r : vw_C} (ht : tys[t0]? = some (cA, .object r.1)) {v t1 ci : Nat} {fs : List hx_f} (gv : hx_g L h v t1) (hd1 : tb[t1]? = some (.inl (ci, fs))) (hc : cl[ci]? = some r) {i : Int32} (hin : 0 ≤ i.toInt ∧ i.toInt < n) (hdg : decode cc pc = .ok (.aastore, 1))
    (kk : ∀ (H1 : Heap) (locs1 : List Loc) (h1 : hx_h), h1 = hx_pr h a i.toNatClampNeg (some v) → hx_W tb tys D cl A H0 L h1 s H1 locs1 → hx_S tb [(t, 0)] L h L h1 → W p l e R s m args below meth c H1 locs1 cells slots Q (F0 m (pc + 1) ls rest)) : W p l e R s m args below meth c H locs cells slots Q (F0 m pc ls (.ref v :: .int i :: .ref a :: rest)) := by
  obtain ⟨k0, hk0⟩ := hx_at (tb := tb) (tys := tys) (h := h) g.1
  obtain ⟨k2, hk2⟩ := hx_at (tb := tb) (tys := tys) (h := h) gv.1
  have hk1 := hk0
  rw [hx_e_arr g.2 hd] at hk0
  rw [hx_e_obj gv.2 hd1] at hk2
  have hin2 : vp_in i n := vp_in_iff.mpr hin
  have hcA : hx_t tys t0 = cA := by simp [hx_t, ht]
  rw [hcA] at hk0
  obtain ⟨hK, hP, hD, hS, hA⟩ := hW
  refine va_astq hx hb hK hP hD hS k0 t0 k2 ci hk0 ht hk2 hc hin2 hdg (fun H1 locs1 hP2 hD2 hS2 => ?_)
  have he : hx_e tb tys (hx_pr h a i.toNatClampNeg (some v)) a = .inl (cA, n, .inr (.inr (.inr (.inr (va_up (h.2.2 a) i.toNatClampNeg (some v)))))) := by
    rw [hx_e_arr (h := hx_pr h a i.toNatClampNeg (some v)) g.2 hd, hcA]
    simp only [hx_a, hx_pr]
    congr 7
    funext j
    simp [va_up]
  rw [hx_set (h1 := hx_pr h a i.toNatClampNeg (some v)) hD g.1 hk1 he (fun b hb => hx_e_pr hb)] at hP2 hD2
  exact kk H1 locs1 _ rfl ⟨hK, hP2, hD2, hS2, hA⟩ (hx_S.rf.pr g (by rw [hd]; exact List.mem_singleton.mpr rfl))
theorem hk_iald (hx : p.tables.exec = Jvm.exec) (hb : c.code = cc) (hW : hx_W tb tys D cl A H0 L h s H locs) {t : Nat} (g : hx_g L h a t) {t0 n : Nat} {b : Int × Int} (hd : tb[t]? = some (.inr (t0, n, .inl b))) {cA : ClassId} (ht : tys[t0]? = some (cA, .int)) {i : Int32} (hin : 0 ≤ i.toInt ∧ i.toInt < n) {v : Int32} (hv : h.2.1 a i.toNatClampNeg = v) (hdg : decode cc pc = .ok (.iaload, 1))
    (kk : W p l e R s m args below meth c H locs cells slots Q (F0 m (pc + 1) ls (.int v :: rest))) : W p l e R s m args below meth c H locs cells slots Q (F0 m pc ls (.int i :: .ref a :: rest)) := by
  obtain ⟨k0, hk0⟩ := hx_at (tb := tb) (tys := tys) (h := h) g.1
  rw [hx_e_arr g.2 hd] at hk0
  have hin2 : vp_in i n := vp_in_iff.mpr hin
  have hcA : hx_t tys t0 = cA := by simp [hx_t, ht]
  rw [hcA] at hk0
  subst hv
  exact va_iald hx hb hW.1 hW.2.1 k0 t0 hk0 ht hin2 hdg kk
theorem hk_bald (hx : p.tables.exec = Jvm.exec) (hb : c.code = cc) (hW : hx_W tb tys D cl A H0 L h s H locs) {t : Nat} (g : hx_g L h a t) {t0 n : Nat} {b : Int × Int} (hd : tb[t]? = some (.inr (t0, n, .inl b))) {cA : ClassId} (ht : tys[t0]? = some (cA, .byte)) {i : Int32} (hin : 0 ≤ i.toInt ∧ i.toInt < n) {v : Int32} (hv : h.2.1 a i.toNatClampNeg = v) (hdg : decode cc pc = .ok (.baload, 1))
    (kk : W p l e R s m args below meth c H locs cells slots Q (F0 m (pc + 1) ls (.int v :: rest))) : W p l e R s m args below meth c H locs cells slots Q (F0 m pc ls (.int i :: .ref a :: rest)) := by
  obtain ⟨k0, hk0⟩ := hx_at (tb := tb) (tys := tys) (h := h) g.1
  rw [hx_e_arr g.2 hd] at hk0
  have hin2 : vp_in i n := vp_in_iff.mpr hin
  have hcA : hx_t tys t0 = cA := by simp [hx_t, ht]
  rw [hcA] at hk0
  subst hv
  exact va_bald hx hb hW.1 hW.2.1 k0 t0 hk0 ht hin2 hdg kk
theorem hk_zald (hx : p.tables.exec = Jvm.exec) (hb : c.code = cc) (hW : hx_W tb tys D cl A H0 L h s H locs) {t : Nat} (g : hx_g L h a t) {t0 n : Nat} {b : Int × Int} (hd : tb[t]? = some (.inr (t0, n, .inl b))) {cA : ClassId} (ht : tys[t0]? = some (cA, .boolean)) {i : Int32} (hin : 0 ≤ i.toInt ∧ i.toInt < n) {v : Int32} (hv : h.2.1 a i.toNatClampNeg = v) (hdg : decode cc pc = .ok (.baload, 1))
    (kk : W p l e R s m args below meth c H locs cells slots Q (F0 m (pc + 1) ls (.int v :: rest))) : W p l e R s m args below meth c H locs cells slots Q (F0 m pc ls (.int i :: .ref a :: rest)) := by
  obtain ⟨k0, hk0⟩ := hx_at (tb := tb) (tys := tys) (h := h) g.1
  rw [hx_e_arr g.2 hd] at hk0
  have hin2 : vp_in i n := vp_in_iff.mpr hin
  have hcA : hx_t tys t0 = cA := by simp [hx_t, ht]
  rw [hcA] at hk0
  subst hv
  exact va_zald hx hb hW.1 hW.2.1 k0 t0 hk0 ht hin2 hdg kk
/-- a cell that is new: its tag, nothing in it -/
def hx_nw (h : hx_h) (q t : Nat) : hx_h := (fun b => if b = q then t else h.1 b, fun b j => if b = q then 0 else h.2.1 b j, fun b j => if b = q then none else h.2.2 b j)
theorem hx_nw_S {q t : Nat} (hq : q ∉ L) : hx_S tb [] L h (L ++ [q]) (hx_nw h q t) := by
  refine ⟨fun b hb => ⟨List.mem_append_left _ hb, ?_⟩, fun b hb k _ => ⟨?_, ?_⟩⟩ <;>
    (have hbq : b ≠ q := fun z => hq (z ▸ hb)
     simp [hx_nw, hbq])
theorem hx_nw_g {q t : Nat} : hx_g (L ++ [q]) (hx_nw h q t) q t := ⟨by simp, by simp [hx_nw]⟩
theorem hx_nw_i {q t j : Nat} : (hx_nw h q t).2.1 q j = 0 := by simp [hx_nw]
theorem hx_nw_r {q t j : Nat} : (hx_nw h q t).2.2 q j = none := by simp [hx_nw]
theorem hx_push {q t : Nat} {e : va_E} (hq : q ∉ L) (he : hx_e tb tys (hx_nw h q t) q = e) : hx_p tb tys L h ++ [(q, e)] = hx_p tb tys (L ++ [q]) (hx_nw h q t) := by
  refine (va_pl_push hq).trans ?_
  refine va_pl_congr (fun b => ?_)
  by_cases hb : b = q
  · subst hb
    rw [va_up_self, he]
  · rw [va_up_ne _ _ hb]
    simp [hx_e, hx_fs, hx_a, hx_nw, hb]
def hx_df (fs : List hx_f) : List Value := (List.range fs.length).map (fun k => hx_v (fs.getD k (.inl (0, 0))) 0 none)
theorem hx_df_eq {fs : List hx_f} {q t : Nat} : hx_fs fs (hx_nw h q t) q = hx_df fs := by
  unfold hx_fs hx_df
  refine List.map_congr_left (fun k _ => ?_)
  rw [hx_nw_i, hx_nw_r]
theorem hx_df_get {fs : List hx_f} {j : Nat} (hj : j < fs.length) : (hx_df fs)[j]? = some (hx_v (fs.getD j (.inl (0, 0))) 0 none) := by
  simp [hx_df, List.getElem?_range hj]
theorem hx_fresh {A : Nat → Prop} {q : Nat} {e : va_E} (hD : va_D A (hx_p tb tys L h ++ [(q, e)])) : q ∉ L := by
  intro hq
  obtain ⟨k, hk⟩ := hx_at (tb := tb) (tys := tys) (h := h) hq
  have hl := (List.getElem?_eq_some_iff.mp hk).1
  have h1 : (hx_p tb tys L h ++ [(q, e)])[k]? = some (q, hx_e tb tys h q) := by rw [List.getElem?_append_left hl]; exact hk
  have h2 : (hx_p tb tys L h ++ [(q, e)])[(hx_p tb tys L h).length]? = some (q, e) := by simp
  have := hD.1 _ _ _ _ h1 h2 rfl
  omega
theorem hk_new (hx : p.tables.exec = Jvm.exec) (hb : c.code = cc) {own C : String} {T : u_T} {N ci index : Nat} {Ts : List Cond} {ty0 : Nat → FieldType} (hts : ∀ w ∈ Ts, w.before args s = true) (hC : hx_C Ts cl ci C T N ty0) (hown : s.vm.findClass own = some m.cls) (hW : hx_W tb tys D cl A H0 L h s H locs) (t : Nat) {fs : List hx_f} (hd : tb[t]? = some (.inl (ci, fs))) (hN : fs.length = N) (hfs : ∀ j, j < N → defaultValue (ty0 j) = hx_v (fs.getD j (.inl (0, 0))) 0 none) (hcl : Cond.classLink own index C ∈ Ts) (hinst : Cond.instantiable C N ∈ Ts) (hini : Cond.initialized C ∈ Ts) (hcells : cells + 1 ≤ R.cells) (hslots : slots + N ≤ R.slots) (hdg : decode cc pc = .ok (.new index, 3))
    (kk : ∀ (q : Nat) (H1 : Heap) (h1 : hx_h), h1 = hx_nw h q t → q ∉ L → hx_W tb tys D cl A H0 (L ++ [q]) h1 s H1 locs → hx_S tb [] L h (L ++ [q]) h1 → hx_g (L ++ [q]) h1 q t → W p l e R s m args below meth c H1 locs (cells + 1) (slots + N) Q (F0 m (pc + 3) ls (.ref q :: rest))) : W p l e R s m args below meth c H locs cells slots Q (F0 m pc ls rest) := by
  obtain ⟨hK, hP, hD, hS, hA⟩ := hW
  refine va_new (fs := hx_df fs) hx hb hts hC.2.1 ty0 hC.2.2.1 hown (hts _ hcl) (hts _ hinst) (hts _ hini) hK hP hD hS hA hC.1 (fun j hj => ?_) hcells hslots hdg (fun q H1 hP2 hD2 hS2 => ?_)
  · rw [hfs j hj]
    simp only [vp_V, List.getD]
    rw [hx_df_get (by rw [hN]; exact hj)]
    simp [List.getD]
  · have hq := hx_fresh hD2
    have he : hx_e tb tys (hx_nw h q t) q = .inr (ci, hx_df fs) := by
      rw [hx_e_obj (h := hx_nw h q t) (t := t) (by simp [hx_nw]) hd, hx_df_eq]
    rw [hx_push hq he] at hP2 hD2
    exact kk q H1 _ rfl hq ⟨hK, hP2, hD2, hS2, hA⟩ (hx_nw_S hq) hx_nw_g
theorem hk_newa (hx : p.tables.exec = Jvm.exec) (hb : c.code = cc) {Ts : List Cond} (hts : ∀ w ∈ Ts, w.before args s = true) (hW : hx_W tb tys D cl A H0 L h s H locs) (t : Nat) {t0 n : Nat} {b : Int × Int} (hd : tb[t]? = some (.inr (t0, n, .inl b))) {atype : ArrayType} {ty : FieldType} (hty : newarray.typeOf atype = ty) (harr : Cond.arrayClass ty ∈ Ts) {cA : ClassId} (ht : tys[t0]? = some (cA, ty)) (hra : ∀ c1 : ClassId, va_RA s c1 ty ↔ s.vm.findClass ("[" ++ ty.toString) = some c1) (hdv : defaultValue ty = .int 0) {i : Int32} (hi : i.toInt = n) (hbytes : n * componentBytes ty ≤ 536870912) (hcells : cells + 1 ≤ R.cells) (hslots : slots + n ≤ R.slots) (hdg : decode cc pc = .ok (.newarray atype, 2))
    (kk : ∀ (q : Nat) (H1 : Heap) (h1 : hx_h), h1 = hx_nw h q t → q ∉ L → hx_W tb tys D cl A H0 (L ++ [q]) h1 s H1 locs → hx_S tb [] L h (L ++ [q]) h1 → hx_g (L ++ [q]) h1 q t → W p l e R s m args below meth c H1 locs (cells + 1) (slots + n) Q (F0 m (pc + 2) ls (.ref q :: rest))) : W p l e R s m args below meth c H locs cells slots Q (F0 m pc ls (.int i :: rest)) := by
  obtain ⟨hK, hP, hD, hS, hA⟩ := hW
  have hneg : ¬ i < 0 := by rw [Int32.lt_iff_toInt_lt, hi]; simp
  have hcl : i.toNatClampNeg = n := by unfold Int32.toNatClampNeg; rw [hi]; simp
  refine va_newa (a0 := (n, .inl (fun _ => 0))) hx hb (by rw [hty]; exact hts _ harr) hty hK hP hD hS hA (fun c1 => ?_) hneg hcl hbytes hcells hslots hdg (fun q c1 H1 hK2 hP2 hD2 hS2 => ?_)
  · rw [hdv]; rfl
  · have hq := hx_fresh hD2
    have hc1 : c1 = cA := by
      have h1 := (hK2.2 tys.length (c1, ty) (by simp)).2
      have h2 := (hK.2 t0 (cA, ty) ht).2
      have e1 := (hra c1).mp h1
      have e2 := (hra cA).mp h2
      exact Option.some.inj (e1.symm.trans e2)
    subst hc1
    have hcA : hx_t tys t0 = c1 := by simp [hx_t, ht]
    have he : hx_e tb tys (hx_nw h q t) q = .inl (c1, n, .inl (fun _ => 0)) := by
      rw [hx_e_arr (h := hx_nw h q t) (t := t) (by simp [hx_nw]) hd, hcA]
      simp only [hx_a, hx_nw, if_true]
    rw [hx_push hq he] at hP2 hD2
    exact kk q H1 _ rfl hq ⟨hK, hP2, hD2, hS2, hA⟩ (hx_nw_S hq) hx_nw_g
theorem hk_newq (hx : p.tables.exec = Jvm.exec) (hb : c.code = cc) {own C : String} {index : Nat} {Ts : List Cond} (hts : ∀ w ∈ Ts, w.before args s = true) (hown : s.vm.findClass own = some m.cls) (hW : hx_W tb tys D cl A H0 L h s H locs) (t : Nat) {t0 n : Nat} {b : Bool × List Nat} (hd : tb[t]? = some (.inr (t0, n, .inr b))) (hcl : Cond.classLink own index C ∈ Ts) (hover : Cond.arrayOver (.object C) ∈ Ts) {cA : ClassId} (ht : tys[t0]? = some (cA, .object C)) {i : Int32} (hi : i.toInt = n) (hbytes : n * 4 ≤ 536870912) (hcells : cells + 1 ≤ R.cells) (hslots : slots + n ≤ R.slots) (hdg : decode cc pc = .ok (.anewarray index, 3))
    (kk : ∀ (q : Nat) (H1 : Heap) (h1 : hx_h), h1 = hx_nw h q t → q ∉ L → hx_W tb tys D cl A H0 (L ++ [q]) h1 s H1 locs → hx_S tb [] L h (L ++ [q]) h1 → hx_g (L ++ [q]) h1 q t → W p l e R s m args below meth c H1 locs (cells + 1) (slots + n) Q (F0 m (pc + 3) ls (.ref q :: rest))) : W p l e R s m args below meth c H locs cells slots Q (F0 m pc ls (.int i :: rest)) := by
  obtain ⟨hK, hP, hD, hS, hA⟩ := hW
  have hneg : ¬ i < 0 := by rw [Int32.lt_iff_toInt_lt, hi]; simp
  have hcl2 : i.toNatClampNeg = n := by unfold Int32.toNatClampNeg; rw [hi]; simp
  refine va_newq hx hb hown (hts _ hcl) (va_AO.of (hts _ hover)) hK hP hD hS hA hneg hcl2 hbytes hcells hslots hdg (fun q c1 H1 hK2 hP2 hD2 hS2 => ?_)
  have hq := hx_fresh hD2
  have hc1 : c1 = cA := by
    obtain ⟨_, _, _, _, _, e1⟩ := (hK2.2 tys.length (c1, .object C) (by simp)).2
    obtain ⟨_, _, _, _, _, e2⟩ := (hK.2 t0 (cA, .object C) ht).2
    exact Option.some.inj (e1.symm.trans e2)
  subst hc1
  have hcA : hx_t tys t0 = c1 := by simp [hx_t, ht]
  have he : hx_e tb tys (hx_nw h q t) q = .inl (c1, n, .inr (.inr (.inr (.inr (fun _ => none))))) := by
    rw [hx_e_arr (h := hx_nw h q t) (t := t) (by simp [hx_nw]) hd, hcA]
    simp only [hx_a, hx_nw, if_true]
  rw [hx_push hq he] at hP2 hD2
  exact kk q H1 _ rfl hq ⟨hK, hP2, hD2, hS2, hA⟩ (hx_nw_S hq) hx_nw_g
end HKR
/-! branches told in whole numbers -/
section HKB
variable {p : Program} {l : Launch} {e : Env} {R : Room} {s : State} {m : MethodId} {args : Array Value} {below : List Frame} {meth : Method} {c : Code} {H : Heap} {locs : List Loc} {cells slots : Nat} {Q : State → Prop}
variable {cc : ByteArray} {pc : Nat} {ls : Array Slot} {rest : List Value}
theorem hb_icmp_lt (hx : p.tables.exec = Jvm.exec) (hb : c.code = cc) {x y : Int32} {zx zy : Int} (ex : x.toInt = zx) (ey : y.toInt = zy) {off : Int} {tgt : Nat} (hdg : decode cc pc = .ok (.if_icmp .lt off, 3)) (ht : (pc : Int) + off = (tgt : Int))
    (kt : zx < zy → W p l e R s m args below meth c H locs cells slots Q (F0 m tgt ls rest)) (kf : zy ≤ zx → W p l e R s m args below meth c H locs cells slots Q (F0 m (pc + 3) ls rest)) : W p l e R s m args below meth c H locs cells slots Q (F0 m pc ls (.int y :: .int x :: rest)) := by
  subst ex; subst ey
  refine lv_icmp_lt hx hb hdg ht (fun q => kt ?_) (fun q => kf ?_)
  · exact Int32.lt_iff_toInt_lt.mp q
  · exact Int.not_lt.mp (fun z => q (Int32.lt_iff_toInt_lt.mpr z))
theorem hb_if_lt (hx : p.tables.exec = Jvm.exec) (hb : c.code = cc) {x : Int32} {zx : Int} (ex : x.toInt = zx) {off : Int} {tgt : Nat} (hdg : decode cc pc = .ok (.ifCond .lt off, 3)) (ht : (pc : Int) + off = (tgt : Int))
    (kt : zx < 0 → W p l e R s m args below meth c H locs cells slots Q (F0 m tgt ls rest)) (kf : 0 ≤ zx → W p l e R s m args below meth c H locs cells slots Q (F0 m (pc + 3) ls rest)) : W p l e R s m args below meth c H locs cells slots Q (F0 m pc ls (.int x :: rest)) := by
  subst ex
  refine lv_if_lt hx hb hdg ht (fun q => kt ?_) (fun q => kf ?_)
  · exact Int32.lt_iff_toInt_lt.mp q
  · exact Int.not_lt.mp (fun z => q (Int32.lt_iff_toInt_lt.mpr z))
theorem hb_icmp_ge (hx : p.tables.exec = Jvm.exec) (hb : c.code = cc) {x y : Int32} {zx zy : Int} (ex : x.toInt = zx) (ey : y.toInt = zy) {off : Int} {tgt : Nat} (hdg : decode cc pc = .ok (.if_icmp .ge off, 3)) (ht : (pc : Int) + off = (tgt : Int))
    (kt : zy ≤ zx → W p l e R s m args below meth c H locs cells slots Q (F0 m tgt ls rest)) (kf : zx < zy → W p l e R s m args below meth c H locs cells slots Q (F0 m (pc + 3) ls rest)) : W p l e R s m args below meth c H locs cells slots Q (F0 m pc ls (.int y :: .int x :: rest)) := by
  subst ex; subst ey
  refine lv_icmp_ge hx hb hdg ht (fun q => kt ?_) (fun q => kf ?_)
  · exact Int32.le_iff_toInt_le.mp q
  · exact Int.not_le.mp (fun z => q (Int32.le_iff_toInt_le.mpr z))
theorem hb_if_ge (hx : p.tables.exec = Jvm.exec) (hb : c.code = cc) {x : Int32} {zx : Int} (ex : x.toInt = zx) {off : Int} {tgt : Nat} (hdg : decode cc pc = .ok (.ifCond .ge off, 3)) (ht : (pc : Int) + off = (tgt : Int))
    (kt : 0 ≤ zx → W p l e R s m args below meth c H locs cells slots Q (F0 m tgt ls rest)) (kf : zx < 0 → W p l e R s m args below meth c H locs cells slots Q (F0 m (pc + 3) ls rest)) : W p l e R s m args below meth c H locs cells slots Q (F0 m pc ls (.int x :: rest)) := by
  subst ex
  refine lv_if_ge hx hb hdg ht (fun q => kt ?_) (fun q => kf ?_)
  · exact Int32.le_iff_toInt_le.mp q
  · exact Int.not_le.mp (fun z => q (Int32.le_iff_toInt_le.mpr z))
theorem hb_icmp_gt (hx : p.tables.exec = Jvm.exec) (hb : c.code = cc) {x y : Int32} {zx zy : Int} (ex : x.toInt = zx) (ey : y.toInt = zy) {off : Int} {tgt : Nat} (hdg : decode cc pc = .ok (.if_icmp .gt off, 3)) (ht : (pc : Int) + off = (tgt : Int))
    (kt : zy < zx → W p l e R s m args below meth c H locs cells slots Q (F0 m tgt ls rest)) (kf : zx ≤ zy → W p l e R s m args below meth c H locs cells slots Q (F0 m (pc + 3) ls rest)) : W p l e R s m args below meth c H locs cells slots Q (F0 m pc ls (.int y :: .int x :: rest)) := by
  subst ex; subst ey
  refine lv_icmp_gt hx hb hdg ht (fun q => kt ?_) (fun q => kf ?_)
  · exact Int32.lt_iff_toInt_lt.mp q
  · exact Int.not_lt.mp (fun z => q (Int32.lt_iff_toInt_lt.mpr z))
theorem hb_if_gt (hx : p.tables.exec = Jvm.exec) (hb : c.code = cc) {x : Int32} {zx : Int} (ex : x.toInt = zx) {off : Int} {tgt : Nat} (hdg : decode cc pc = .ok (.ifCond .gt off, 3)) (ht : (pc : Int) + off = (tgt : Int))
    (kt : 0 < zx → W p l e R s m args below meth c H locs cells slots Q (F0 m tgt ls rest)) (kf : zx ≤ 0 → W p l e R s m args below meth c H locs cells slots Q (F0 m (pc + 3) ls rest)) : W p l e R s m args below meth c H locs cells slots Q (F0 m pc ls (.int x :: rest)) := by
  subst ex
  refine lv_if_gt hx hb hdg ht (fun q => kt ?_) (fun q => kf ?_)
  · exact Int32.lt_iff_toInt_lt.mp q
  · exact Int.not_lt.mp (fun z => q (Int32.lt_iff_toInt_lt.mpr z))
theorem hb_icmp_le (hx : p.tables.exec = Jvm.exec) (hb : c.code = cc) {x y : Int32} {zx zy : Int} (ex : x.toInt = zx) (ey : y.toInt = zy) {off : Int} {tgt : Nat} (hdg : decode cc pc = .ok (.if_icmp .le off, 3)) (ht : (pc : Int) + off = (tgt : Int))
    (kt : zx ≤ zy → W p l e R s m args below meth c H locs cells slots Q (F0 m tgt ls rest)) (kf : zy < zx → W p l e R s m args below meth c H locs cells slots Q (F0 m (pc + 3) ls rest)) : W p l e R s m args below meth c H locs cells slots Q (F0 m pc ls (.int y :: .int x :: rest)) := by
  subst ex; subst ey
  refine lv_icmp_le hx hb hdg ht (fun q => kt ?_) (fun q => kf ?_)
  · exact Int32.le_iff_toInt_le.mp q
  · exact Int.not_le.mp (fun z => q (Int32.le_iff_toInt_le.mpr z))
theorem hb_if_le (hx : p.tables.exec = Jvm.exec) (hb : c.code = cc) {x : Int32} {zx : Int} (ex : x.toInt = zx) {off : Int} {tgt : Nat} (hdg : decode cc pc = .ok (.ifCond .le off, 3)) (ht : (pc : Int) + off = (tgt : Int))
    (kt : zx ≤ 0 → W p l e R s m args below meth c H locs cells slots Q (F0 m tgt ls rest)) (kf : 0 < zx → W p l e R s m args below meth c H locs cells slots Q (F0 m (pc + 3) ls rest)) : W p l e R s m args below meth c H locs cells slots Q (F0 m pc ls (.int x :: rest)) := by
  subst ex
  refine lv_if_le hx hb hdg ht (fun q => kt ?_) (fun q => kf ?_)
  · exact Int32.le_iff_toInt_le.mp q
  · exact Int.not_le.mp (fun z => q (Int32.le_iff_toInt_le.mpr z))
theorem hb_icmp_eq (hx : p.tables.exec = Jvm.exec) (hb : c.code = cc) {x y : Int32} {zx zy : Int} (ex : x.toInt = zx) (ey : y.toInt = zy) {off : Int} {tgt : Nat} (hdg : decode cc pc = .ok (.if_icmp .eq off, 3)) (ht : (pc : Int) + off = (tgt : Int))
    (kt : zx = zy → W p l e R s m args below meth c H locs cells slots Q (F0 m tgt ls rest)) (kf : zx ≠ zy → W p l e R s m args below meth c H locs cells slots Q (F0 m (pc + 3) ls rest)) : W p l e R s m args below meth c H locs cells slots Q (F0 m pc ls (.int y :: .int x :: rest)) := by
  subst ex; subst ey
  refine lv_icmp_eq hx hb hdg ht (fun q => kt ?_) (fun q => kf ?_)
  · exact congrArg Int32.toInt q
  · exact fun z => q (Int32.toInt_inj.mp z)
theorem hb_if_eq (hx : p.tables.exec = Jvm.exec) (hb : c.code = cc) {x : Int32} {zx : Int} (ex : x.toInt = zx) {off : Int} {tgt : Nat} (hdg : decode cc pc = .ok (.ifCond .eq off, 3)) (ht : (pc : Int) + off = (tgt : Int))
    (kt : zx = 0 → W p l e R s m args below meth c H locs cells slots Q (F0 m tgt ls rest)) (kf : zx ≠ 0 → W p l e R s m args below meth c H locs cells slots Q (F0 m (pc + 3) ls rest)) : W p l e R s m args below meth c H locs cells slots Q (F0 m pc ls (.int x :: rest)) := by
  subst ex
  refine lv_if_eq hx hb hdg ht (fun q => kt ?_) (fun q => kf ?_)
  · exact congrArg Int32.toInt q
  · exact fun z => q (Int32.toInt_inj.mp z)
theorem hb_icmp_ne (hx : p.tables.exec = Jvm.exec) (hb : c.code = cc) {x y : Int32} {zx zy : Int} (ex : x.toInt = zx) (ey : y.toInt = zy) {off : Int} {tgt : Nat} (hdg : decode cc pc = .ok (.if_icmp .ne off, 3)) (ht : (pc : Int) + off = (tgt : Int))
    (kt : zx ≠ zy → W p l e R s m args below meth c H locs cells slots Q (F0 m tgt ls rest)) (kf : zx = zy → W p l e R s m args below meth c H locs cells slots Q (F0 m (pc + 3) ls rest)) : W p l e R s m args below meth c H locs cells slots Q (F0 m pc ls (.int y :: .int x :: rest)) := by
  subst ex; subst ey
  refine lv_icmp_ne hx hb hdg ht (fun q => kt ?_) (fun q => kf ?_)
  · first | exact fun z => q (Int32.toInt_inj.mp z) | exact congrArg Int32.toInt q
  · first | exact congrArg Int32.toInt q | exact congrArg Int32.toInt (Classical.not_not.mp q) | exact Classical.byContradiction fun z => q fun w => z (congrArg Int32.toInt w)
theorem hb_if_ne (hx : p.tables.exec = Jvm.exec) (hb : c.code = cc) {x : Int32} {zx : Int} (ex : x.toInt = zx) {off : Int} {tgt : Nat} (hdg : decode cc pc = .ok (.ifCond .ne off, 3)) (ht : (pc : Int) + off = (tgt : Int))
    (kt : zx ≠ 0 → W p l e R s m args below meth c H locs cells slots Q (F0 m tgt ls rest)) (kf : zx = 0 → W p l e R s m args below meth c H locs cells slots Q (F0 m (pc + 3) ls rest)) : W p l e R s m args below meth c H locs cells slots Q (F0 m pc ls (.int x :: rest)) := by
  subst ex
  refine lv_if_ne hx hb hdg ht (fun q => kt ?_) (fun q => kf ?_)
  · first | exact fun z => q (Int32.toInt_inj.mp z) | exact congrArg Int32.toInt q
  · first | exact congrArg Int32.toInt q | exact congrArg Int32.toInt (Classical.not_not.mp q) | exact Classical.byContradiction fun z => q fun w => z (congrArg Int32.toInt w)
end HKB
theorem i32_add {x y : Int32} {zx zy : Int} (ex : x.toInt = zx) (ey : y.toInt = zy) (h1 : -2147483648 ≤ zx + zy) (h2 : zx + zy ≤ 2147483647) : (x + y).toInt = zx + zy := by
  subst ex; subst ey
  rw [Int32.toInt_add, Int.bmod_def]
  split <;> omega
theorem i32_sub {x y : Int32} {zx zy : Int} (ex : x.toInt = zx) (ey : y.toInt = zy) (h1 : -2147483648 ≤ zx - zy) (h2 : zx - zy ≤ 2147483647) : (x - y).toInt = zx - zy := by
  subst ex; subst ey
  rw [Int32.toInt_sub, Int.bmod_def]
  split <;> omega
theorem i32_mul {x y : Int32} {zx zy z : Int} (ex : x.toInt = zx) (ey : y.toInt = zy) (hz : zx * zy = z) (h1 : -2147483648 ≤ z) (h2 : z ≤ 2147483647) : (x * y).toInt = z := by
  subst ex; subst ey; subst hz
  rw [Int32.toInt_mul, Int.bmod_def]
  split <;> omega
theorem hx_g.ne {L : List Nat} {h : hx_h} {a b t u : Nat} (g : hx_g L h a t) (k : hx_g L h b u) (n : t ≠ u) : a ≠ b := fun z => n (by rw [← g.2, ← k.2, z])
/-- what an object's reference fields hold: cells of their tags, an array's contents nothing where it is told so -/
def hx_con (L : List Nat) (h : hx_h) (a ta : Nat) (cs : List (Nat × Nat × Bool)) (zs : List Nat) : Prop :=
  hx_g L h a ta ∧ (∀ k t z, (k, t, z) ∈ cs → ∃ q, h.2.2 a k = some q ∧ hx_g L h q t ∧ (z = true → (∀ j, h.2.1 q j = 0) ∧ ∀ j, h.2.2 q j = none)) ∧ ∀ k ∈ zs, h.2.1 a k = 0
theorem hx_S.o {tb : List hx_d} {M : hx_m} {L L1 : List Nat} {h h1 : hx_h} {a t k : Nat} (hs : hx_S tb M L h L1 h1) (g : hx_g L h a t) (ho : match tb[t]? with | some (.inr _) => False | _ => True) (hk : M.contains (t, k) = false) : h1.2.1 a k = h.2.1 a k ∧ h1.2.2 a k = h.2.2 a k := by
  refine hs.2 a g.1 k ?_
  rw [g.2]
  have hn : (t, k) ∉ M := fun z => by rw [List.contains_iff_mem.mpr z] at hk; cases hk
  revert ho
  cases tb[t]? with
  | none => exact fun _ => hn
  | some d => rcases d with d | d
              · exact fun _ => hn
              · exact fun z => z.elim
theorem hx_S.a {tb : List hx_d} {M : hx_m} {L L1 : List Nat} {h h1 : hx_h} {a t : Nat} (hs : hx_S tb M L h L1 h1) (g : hx_g L h a t) (hk : M.any (fun q => q.1 == t) = false) (j : Nat) : h1.2.1 a j = h.2.1 a j ∧ h1.2.2 a j = h.2.2 a j := by
  refine hs.2 a g.1 j ?_
  rw [g.2]
  have hn : ∀ k, (t, k) ∉ M := fun k z => by
    have := List.any_eq_false.mp hk _ z
    simp at this
  cases tb[t]? with
  | none => exact hn j
  | some d => rcases d with d | d
              · exact hn j
              · exact hn 0
theorem hx_con.S {tb : List hx_d} {M : hx_m} {L L1 : List Nat} {h h1 : hx_h} {a ta : Nat} {cs : List (Nat × Nat × Bool)} {zs : List Nat} (c : hx_con L h a ta cs zs) (hs : hx_S tb M L h L1 h1) (ho : match tb[ta]? with | some (.inr _) => False | _ => True)
    (ok : (cs.all (fun p => !(M.contains (ta, p.1)) && !(M.any (fun q => q.1 == p.2.1))) && zs.all (fun k => !(M.contains (ta, k)))) = true) : hx_con L1 h1 a ta cs zs := by
  rw [Bool.and_eq_true, List.all_eq_true, List.all_eq_true] at ok
  refine ⟨c.1.S hs, fun k t z hk => ?_, fun k hk => ?_⟩
  · obtain ⟨q, e1, g1, z1⟩ := c.2.1 k t z hk
    have o1 := ok.1 _ hk
    rw [Bool.and_eq_true, Bool.not_eq_true', Bool.not_eq_true'] at o1
    refine ⟨q, (hs.o c.1 ho o1.1).2.trans e1, g1.S hs, fun hz => ⟨fun j => (hs.a g1 o1.2 j).1.trans ((z1 hz).1 j), fun j => (hs.a g1 o1.2 j).2.trans ((z1 hz).2 j)⟩⟩
  · have o1 := ok.2 _ hk
    rw [Bool.not_eq_true'] at o1
    exact (hs.o c.1 ho o1).1.trans (c.2.2 k hk)
theorem hx_con.add {tb : List hx_d} {L : List Nat} {h : hx_h} {a ta k t q : Nat} {cs : List (Nat × Nat × Bool)} {zs : List Nat} (c : hx_con L h a ta cs zs) (z : Bool) (e : h.2.2 a k = some q) (g : hx_g L h q t) (hz : z = true → (∀ j, h.2.1 q j = 0) ∧ ∀ j, h.2.2 q j = none) : hx_con L h a ta ((k, t, z) :: cs) zs := by
  refine ⟨c.1, fun k2 t2 z2 hk => ?_, c.2.2⟩
  rcases List.mem_cons.mp hk with hk | hk
  · cases hk
    exact ⟨q, e, g, hz⟩
  · exact c.2.1 k2 t2 z2 hk
theorem hx_con.get {L : List Nat} {h : hx_h} {a ta k t : Nat} {z : Bool} {cs : List (Nat × Nat × Bool)} {zs : List Nat} (c : hx_con L h a ta cs zs) (i : Nat) (hi : cs[i]? = some (k, t, z)) : ∃ q, h.2.2 a k = some q ∧ hx_g L h q t ∧ (z = true → (∀ j, h.2.1 q j = 0) ∧ ∀ j, h.2.2 q j = none) := c.2.1 k t z (List.mem_of_getElem? hi)
theorem hx_con.zero {L : List Nat} {h : hx_h} {a ta : Nat} {cs : List (Nat × Nat × Bool)} {zs : List Nat} (c : hx_con L h a ta cs zs) (k : Nat) (hk : zs.contains k = true) : h.2.1 a k = 0 := c.2.2 k (List.contains_iff_mem.mp hk)
end
section
-- ===== PART A: goes FIRST, ahead of the names: the tables' words, and 'selects' of the private methods out of them =====
/-- a private method of a class that the tables say can be made, by its rows of tables_1 -/
def lw_okq (q : MethodName × Nat) : Prop := (q.1.cls ≠ "java/lang/invoke/MethodHandle" ∧ q.1.cls ≠ "java/lang/invoke/VarHandle") ∧ Cond.instantiable q.1.cls q.2 ∈ tables_1 ∧ Cond.privateMethod q.1 ∈ tables_1 ∧ Cond.instanceMethod q.1 ∈ tables_1
theorem lw_p0 : lw_okq (⟨"SmallCourt", "feedBytes", "(I)V"⟩, 20) := ⟨⟨by decide +kernel, by decide +kernel⟩, List.mem_of_getElem? (i := 19) (by decide +kernel), List.mem_of_getElem? (i := 347) (by decide +kernel), List.mem_of_getElem? (i := 348) (by decide +kernel)⟩
theorem lw_p1 : lw_okq (⟨"SmallCourt$Reader", "skipBlanks", "()V"⟩, 7) := ⟨⟨by decide +kernel, by decide +kernel⟩, List.mem_of_getElem? (i := 27) (by decide +kernel), List.mem_of_getElem? (i := 363) (by decide +kernel), List.mem_of_getElem? (i := 364) (by decide +kernel)⟩
theorem lw_p2 : lw_okq (⟨"SmallCourt$Reader", "readClause", "()Z"⟩, 7) := ⟨⟨by decide +kernel, by decide +kernel⟩, List.mem_of_getElem? (i := 27) (by decide +kernel), List.mem_of_getElem? (i := 367) (by decide +kernel), List.mem_of_getElem? (i := 368) (by decide +kernel)⟩
theorem lw_p3 : lw_okq (⟨"SmallCourt$Reader", "readWord", "(Ljava/lang/String;)I"⟩, 7) := ⟨⟨by decide +kernel, by decide +kernel⟩, List.mem_of_getElem? (i := 27) (by decide +kernel), List.mem_of_getElem? (i := 372) (by decide +kernel), List.mem_of_getElem? (i := 373) (by decide +kernel)⟩
theorem lw_p4 : lw_okq (⟨"SmallCourt$Reader", "wordEnd", "()I"⟩, 7) := ⟨⟨by decide +kernel, by decide +kernel⟩, List.mem_of_getElem? (i := 27) (by decide +kernel), List.mem_of_getElem? (i := 376) (by decide +kernel), List.mem_of_getElem? (i := 377) (by decide +kernel)⟩
theorem lw_p5 : lw_okq (⟨"SmallCourt$Reader", "isSlot", "(Ljava/lang/String;II)Z"⟩, 7) := ⟨⟨by decide +kernel, by decide +kernel⟩, List.mem_of_getElem? (i := 27) (by decide +kernel), List.mem_of_getElem? (i := 390) (by decide +kernel), List.mem_of_getElem? (i := 391) (by decide +kernel)⟩
theorem lw_p6 : lw_okq (⟨"SmallCourt$Reader", "refuse", "(II)Z"⟩, 7) := ⟨⟨by decide +kernel, by decide +kernel⟩, List.mem_of_getElem? (i := 27) (by decide +kernel), List.mem_of_getElem? (i := 432) (by decide +kernel), List.mem_of_getElem? (i := 433) (by decide +kernel)⟩
theorem lw_p7 : lw_okq (⟨"SmallCourt$Reader", "readCost", "()Z"⟩, 7) := ⟨⟨by decide +kernel, by decide +kernel⟩, List.mem_of_getElem? (i := 27) (by decide +kernel), List.mem_of_getElem? (i := 436) (by decide +kernel), List.mem_of_getElem? (i := 437) (by decide +kernel)⟩
theorem lw_p8 : lw_okq (⟨"SmallCourt$Reader", "tellOnce", "(II)Z"⟩, 7) := ⟨⟨by decide +kernel, by decide +kernel⟩, List.mem_of_getElem? (i := 27) (by decide +kernel), List.mem_of_getElem? (i := 441) (by decide +kernel), List.mem_of_getElem? (i := 442) (by decide +kernel)⟩
theorem lw_p9 : lw_okq (⟨"SmallCourt$Reader", "readTold", "(I)Z"⟩, 7) := ⟨⟨by decide +kernel, by decide +kernel⟩, List.mem_of_getElem? (i := 27) (by decide +kernel), List.mem_of_getElem? (i := 445) (by decide +kernel), List.mem_of_getElem? (i := 446) (by decide +kernel)⟩
theorem lw_p10 : lw_okq (⟨"SmallCourt$Reader", "isDigit", "(I)Z"⟩, 7) := ⟨⟨by decide +kernel, by decide +kernel⟩, List.mem_of_getElem? (i := 27) (by decide +kernel), List.mem_of_getElem? (i := 449) (by decide +kernel), List.mem_of_getElem? (i := 450) (by decide +kernel)⟩
theorem lw_p11 : lw_okq (⟨"SmallCourt$Reader", "readNumber", "()I"⟩, 7) := ⟨⟨by decide +kernel, by decide +kernel⟩, List.mem_of_getElem? (i := 27) (by decide +kernel), List.mem_of_getElem? (i := 453) (by decide +kernel), List.mem_of_getElem? (i := 454) (by decide +kernel)⟩
theorem lw_p12 : lw_okq (⟨"SmallCourt$Reader", "readEither", "(I)Z"⟩, 7) := ⟨⟨by decide +kernel, by decide +kernel⟩, List.mem_of_getElem? (i := 27) (by decide +kernel), List.mem_of_getElem? (i := 461) (by decide +kernel), List.mem_of_getElem? (i := 462) (by decide +kernel)⟩
theorem lw_p13 : lw_okq (⟨"SmallCourt$Reader", "readOne", "(I)Z"⟩, 7) := ⟨⟨by decide +kernel, by decide +kernel⟩, List.mem_of_getElem? (i := 27) (by decide +kernel), List.mem_of_getElem? (i := 465) (by decide +kernel), List.mem_of_getElem? (i := 466) (by decide +kernel)⟩
theorem lw_p14 : lw_okq (⟨"SmallCourt$Reader", "isNextWord", "(Ljava/lang/String;)Z"⟩, 7) := ⟨⟨by decide +kernel, by decide +kernel⟩, List.mem_of_getElem? (i := 27) (by decide +kernel), List.mem_of_getElem? (i := 470) (by decide +kernel), List.mem_of_getElem? (i := 471) (by decide +kernel)⟩
theorem lw_p15 : lw_okq (⟨"SmallCourt$Reader", "isByte", "(C)Z"⟩, 7) := ⟨⟨by decide +kernel, by decide +kernel⟩, List.mem_of_getElem? (i := 27) (by decide +kernel), List.mem_of_getElem? (i := 474) (by decide +kernel), List.mem_of_getElem? (i := 475) (by decide +kernel)⟩
def lw_privs_1 : List (MethodName × Nat) := [(⟨"SmallCourt", "feedBytes", "(I)V"⟩, 20), (⟨"SmallCourt$Reader", "skipBlanks", "()V"⟩, 7), (⟨"SmallCourt$Reader", "readClause", "()Z"⟩, 7), (⟨"SmallCourt$Reader", "readWord", "(Ljava/lang/String;)I"⟩, 7), (⟨"SmallCourt$Reader", "wordEnd", "()I"⟩, 7), (⟨"SmallCourt$Reader", "isSlot", "(Ljava/lang/String;II)Z"⟩, 7), (⟨"SmallCourt$Reader", "refuse", "(II)Z"⟩, 7), (⟨"SmallCourt$Reader", "readCost", "()Z"⟩, 7), (⟨"SmallCourt$Reader", "tellOnce", "(II)Z"⟩, 7), (⟨"SmallCourt$Reader", "readTold", "(I)Z"⟩, 7), (⟨"SmallCourt$Reader", "isDigit", "(I)Z"⟩, 7), (⟨"SmallCourt$Reader", "readNumber", "()I"⟩, 7), (⟨"SmallCourt$Reader", "readEither", "(I)Z"⟩, 7), (⟨"SmallCourt$Reader", "readOne", "(I)Z"⟩, 7), (⟨"SmallCourt$Reader", "isNextWord", "(Ljava/lang/String;)Z"⟩, 7), (⟨"SmallCourt$Reader", "isByte", "(C)Z"⟩, 7)]
theorem lw_r1 : ∀ q ∈ lw_privs_1, lw_okq q := List.forall_mem_cons.mpr ⟨lw_p0, List.forall_mem_cons.mpr ⟨lw_p1, List.forall_mem_cons.mpr ⟨lw_p2, List.forall_mem_cons.mpr ⟨lw_p3, List.forall_mem_cons.mpr ⟨lw_p4, List.forall_mem_cons.mpr ⟨lw_p5, List.forall_mem_cons.mpr ⟨lw_p6, List.forall_mem_cons.mpr ⟨lw_p7, List.forall_mem_cons.mpr ⟨lw_p8, List.forall_mem_cons.mpr ⟨lw_p9, List.forall_mem_cons.mpr ⟨lw_p10, List.forall_mem_cons.mpr ⟨lw_p11, List.forall_mem_cons.mpr ⟨lw_p12, List.forall_mem_cons.mpr ⟨lw_p13, List.forall_mem_cons.mpr ⟨lw_p14, List.forall_mem_cons.mpr ⟨lw_p15, fun _ h => absurd h List.not_mem_nil⟩⟩⟩⟩⟩⟩⟩⟩⟩⟩⟩⟩⟩⟩⟩⟩
theorem lw_p16 : lw_okq (⟨"SmallCourt$Reader", "readTerm", "()Z"⟩, 7) := ⟨⟨by decide +kernel, by decide +kernel⟩, List.mem_of_getElem? (i := 27) (by decide +kernel), List.mem_of_getElem? (i := 478) (by decide +kernel), List.mem_of_getElem? (i := 479) (by decide +kernel)⟩
theorem lw_p17 : lw_okq (⟨"SmallCourt$Reader", "readSign", "()I"⟩, 7) := ⟨⟨by decide +kernel, by decide +kernel⟩, List.mem_of_getElem? (i := 27) (by decide +kernel), List.mem_of_getElem? (i := 483) (by decide +kernel), List.mem_of_getElem? (i := 484) (by decide +kernel)⟩
theorem lw_p18 : lw_okq (⟨"SmallCourt$Reader", "isAnotherClause", "()Z"⟩, 7) := ⟨⟨by decide +kernel, by decide +kernel⟩, List.mem_of_getElem? (i := 27) (by decide +kernel), List.mem_of_getElem? (i := 494) (by decide +kernel), List.mem_of_getElem? (i := 495) (by decide +kernel)⟩
theorem lw_p19 : lw_okq (⟨"SmallCourt", "inForce", "(I)LSmallCourt$Act;"⟩, 20) := ⟨⟨by decide +kernel, by decide +kernel⟩, List.mem_of_getElem? (i := 19) (by decide +kernel), List.mem_of_getElem? (i := 502) (by decide +kernel), List.mem_of_getElem? (i := 503) (by decide +kernel)⟩
theorem lw_p20 : lw_okq (⟨"SmallCourt", "personAt", "(I)LSmallCourt$Person;"⟩, 20) := ⟨⟨by decide +kernel, by decide +kernel⟩, List.mem_of_getElem? (i := 19) (by decide +kernel), List.mem_of_getElem? (i := 564) (by decide +kernel), List.mem_of_getElem? (i := 565) (by decide +kernel)⟩
theorem lw_p21 : lw_okq (⟨"SmallCourt", "areTwo", "(II)Z"⟩, 20) := ⟨⟨by decide +kernel, by decide +kernel⟩, List.mem_of_getElem? (i := 19) (by decide +kernel), List.mem_of_getElem? (i := 580) (by decide +kernel), List.mem_of_getElem? (i := 581) (by decide +kernel)⟩
theorem lw_p22 : lw_okq (⟨"SmallCourt$Books", "isLine", "(IIII)Z"⟩, 8) := ⟨⟨by decide +kernel, by decide +kernel⟩, List.mem_of_getElem? (i := 98) (by decide +kernel), List.mem_of_getElem? (i := 597) (by decide +kernel), List.mem_of_getElem? (i := 598) (by decide +kernel)⟩
theorem lw_p23 : lw_okq (⟨"SmallCourt$Books", "takeTwin", "(II)Z"⟩, 8) := ⟨⟨by decide +kernel, by decide +kernel⟩, List.mem_of_getElem? (i := 98) (by decide +kernel), List.mem_of_getElem? (i := 605) (by decide +kernel), List.mem_of_getElem? (i := 606) (by decide +kernel)⟩
theorem lw_p24 : lw_okq (⟨"SmallCourt$Books", "areTwins", "(II)Z"⟩, 8) := ⟨⟨by decide +kernel, by decide +kernel⟩, List.mem_of_getElem? (i := 98) (by decide +kernel), List.mem_of_getElem? (i := 609) (by decide +kernel), List.mem_of_getElem? (i := 610) (by decide +kernel)⟩
theorem lw_p25 : lw_okq (⟨"SmallCourt", "claimAt", "(I)LSmallCourt$Claim;"⟩, 20) := ⟨⟨by decide +kernel, by decide +kernel⟩, List.mem_of_getElem? (i := 19) (by decide +kernel), List.mem_of_getElem? (i := 715) (by decide +kernel), List.mem_of_getElem? (i := 716) (by decide +kernel)⟩
theorem lw_p26 : lw_okq (⟨"SmallCourt", "drawBench", "(LSmallCourt$Claim;I)Z"⟩, 20) := ⟨⟨by decide +kernel, by decide +kernel⟩, List.mem_of_getElem? (i := 19) (by decide +kernel), List.mem_of_getElem? (i := 723) (by decide +kernel), List.mem_of_getElem? (i := 724) (by decide +kernel)⟩
theorem lw_p27 : lw_okq (⟨"SmallCourt$Person", "isKinOf", "(LSmallCourt$Person;)Z"⟩, 10) := ⟨⟨by decide +kernel, by decide +kernel⟩, List.mem_of_getElem? (i := 512) (by decide +kernel), List.mem_of_getElem? (i := 731) (by decide +kernel), List.mem_of_getElem? (i := 732) (by decide +kernel)⟩
theorem lw_p28 : lw_okq (⟨"SmallCourt", "judgement", "(LSmallCourt$Claim;LSmallCourt$Act;)I"⟩, 20) := ⟨⟨by decide +kernel, by decide +kernel⟩, List.mem_of_getElem? (i := 19) (by decide +kernel), List.mem_of_getElem? (i := 735) (by decide +kernel), List.mem_of_getElem? (i := 736) (by decide +kernel)⟩
theorem lw_p29 : lw_okq (⟨"SmallCourt", "sumOfSplit", "(LSmallCourt$Claim;LSmallCourt$Act;)I"⟩, 20) := ⟨⟨by decide +kernel, by decide +kernel⟩, List.mem_of_getElem? (i := 19) (by decide +kernel), List.mem_of_getElem? (i := 739) (by decide +kernel), List.mem_of_getElem? (i := 740) (by decide +kernel)⟩
theorem lw_p30 : lw_okq (⟨"SmallCourt", "openInstalments", "(LSmallCourt$Person;)I"⟩, 20) := ⟨⟨by decide +kernel, by decide +kernel⟩, List.mem_of_getElem? (i := 19) (by decide +kernel), List.mem_of_getElem? (i := 758) (by decide +kernel), List.mem_of_getElem? (i := 759) (by decide +kernel)⟩
theorem lw_p31 : lw_okq (⟨"SmallCourt$Claim", "owedOn", "(I)I"⟩, 19) := ⟨⟨by decide +kernel, by decide +kernel⟩, List.mem_of_getElem? (i := 623) (by decide +kernel), List.mem_of_getElem? (i := 777) (by decide +kernel), List.mem_of_getElem? (i := 778) (by decide +kernel)⟩
def lw_privs_2 : List (MethodName × Nat) := [(⟨"SmallCourt$Reader", "readTerm", "()Z"⟩, 7), (⟨"SmallCourt$Reader", "readSign", "()I"⟩, 7), (⟨"SmallCourt$Reader", "isAnotherClause", "()Z"⟩, 7), (⟨"SmallCourt", "inForce", "(I)LSmallCourt$Act;"⟩, 20), (⟨"SmallCourt", "personAt", "(I)LSmallCourt$Person;"⟩, 20), (⟨"SmallCourt", "areTwo", "(II)Z"⟩, 20), (⟨"SmallCourt$Books", "isLine", "(IIII)Z"⟩, 8), (⟨"SmallCourt$Books", "takeTwin", "(II)Z"⟩, 8), (⟨"SmallCourt$Books", "areTwins", "(II)Z"⟩, 8), (⟨"SmallCourt", "claimAt", "(I)LSmallCourt$Claim;"⟩, 20), (⟨"SmallCourt", "drawBench", "(LSmallCourt$Claim;I)Z"⟩, 20), (⟨"SmallCourt$Person", "isKinOf", "(LSmallCourt$Person;)Z"⟩, 10), (⟨"SmallCourt", "judgement", "(LSmallCourt$Claim;LSmallCourt$Act;)I"⟩, 20), (⟨"SmallCourt", "sumOfSplit", "(LSmallCourt$Claim;LSmallCourt$Act;)I"⟩, 20), (⟨"SmallCourt", "openInstalments", "(LSmallCourt$Person;)I"⟩, 20), (⟨"SmallCourt$Claim", "owedOn", "(I)I"⟩, 19)]
theorem lw_r2 : ∀ q ∈ lw_privs_2, lw_okq q := List.forall_mem_cons.mpr ⟨lw_p16, List.forall_mem_cons.mpr ⟨lw_p17, List.forall_mem_cons.mpr ⟨lw_p18, List.forall_mem_cons.mpr ⟨lw_p19, List.forall_mem_cons.mpr ⟨lw_p20, List.forall_mem_cons.mpr ⟨lw_p21, List.forall_mem_cons.mpr ⟨lw_p22, List.forall_mem_cons.mpr ⟨lw_p23, List.forall_mem_cons.mpr ⟨lw_p24, List.forall_mem_cons.mpr ⟨lw_p25, List.forall_mem_cons.mpr ⟨lw_p26, List.forall_mem_cons.mpr ⟨lw_p27, List.forall_mem_cons.mpr ⟨lw_p28, List.forall_mem_cons.mpr ⟨lw_p29, List.forall_mem_cons.mpr ⟨lw_p30, List.forall_mem_cons.mpr ⟨lw_p31, fun _ h => absurd h List.not_mem_nil⟩⟩⟩⟩⟩⟩⟩⟩⟩⟩⟩⟩⟩⟩⟩⟩
theorem lw_p32 : lw_okq (⟨"SmallCourt$Claim", "stateAheadOfOrder", "(I)I"⟩, 19) := ⟨⟨by decide +kernel, by decide +kernel⟩, List.mem_of_getElem? (i := 623) (by decide +kernel), List.mem_of_getElem? (i := 816) (by decide +kernel), List.mem_of_getElem? (i := 817) (by decide +kernel)⟩
theorem lw_p33 : lw_okq (⟨"SmallCourt$Plan", "leastFrom", "(I)I"⟩, 13) := ⟨⟨by decide +kernel, by decide +kernel⟩, List.mem_of_getElem? (i := 160) (by decide +kernel), List.mem_of_getElem? (i := 869) (by decide +kernel), List.mem_of_getElem? (i := 870) (by decide +kernel)⟩
theorem lw_p34 : lw_okq (⟨"SmallCourt$Plan", "tryFrom", "(IIII)V"⟩, 13) := ⟨⟨by decide +kernel, by decide +kernel⟩, List.mem_of_getElem? (i := 160) (by decide +kernel), List.mem_of_getElem? (i := 874) (by decide +kernel), List.mem_of_getElem? (i := 875) (by decide +kernel)⟩
theorem lw_p35 : lw_okq (⟨"SmallCourt$Plan", "keepIfBetter", "(II)V"⟩, 13) := ⟨⟨by decide +kernel, by decide +kernel⟩, List.mem_of_getElem? (i := 160) (by decide +kernel), List.mem_of_getElem? (i := 878) (by decide +kernel), List.mem_of_getElem? (i := 879) (by decide +kernel)⟩
theorem lw_p36 : lw_okq (⟨"SmallCourt$Rings", "goOn", "(II)V"⟩, 8) := ⟨⟨by decide +kernel, by decide +kernel⟩, List.mem_of_getElem? (i := 211) (by decide +kernel), List.mem_of_getElem? (i := 906) (by decide +kernel), List.mem_of_getElem? (i := 907) (by decide +kernel)⟩
theorem lw_p37 : lw_okq (⟨"SmallCourt$Rings", "keepIfBetter", "(II)V"⟩, 8) := ⟨⟨by decide +kernel, by decide +kernel⟩, List.mem_of_getElem? (i := 211) (by decide +kernel), List.mem_of_getElem? (i := 911) (by decide +kernel), List.mem_of_getElem? (i := 912) (by decide +kernel)⟩
theorem lw_p38 : lw_okq (⟨"SmallCourt$Rings", "isInRing", "(II)Z"⟩, 8) := ⟨⟨by decide +kernel, by decide +kernel⟩, List.mem_of_getElem? (i := 211) (by decide +kernel), List.mem_of_getElem? (i := 916) (by decide +kernel), List.mem_of_getElem? (i := 917) (by decide +kernel)⟩
theorem lw_p39 : lw_okq (⟨"SmallCourt", "ringNeeds", "()I"⟩, 20) := ⟨⟨by decide +kernel, by decide +kernel⟩, List.mem_of_getElem? (i := 19) (by decide +kernel), List.mem_of_getElem? (i := 920) (by decide +kernel), List.mem_of_getElem? (i := 921) (by decide +kernel)⟩
theorem lw_p40 : lw_okq (⟨"SmallCourt$Rings", "placeAfter", "(I)I"⟩, 8) := ⟨⟨by decide +kernel, by decide +kernel⟩, List.mem_of_getElem? (i := 211) (by decide +kernel), List.mem_of_getElem? (i := 928) (by decide +kernel), List.mem_of_getElem? (i := 929) (by decide +kernel)⟩
theorem lw_p41 : lw_okq (⟨"SmallCourt", "takeOffRing", "()I"⟩, 20) := ⟨⟨by decide +kernel, by decide +kernel⟩, List.mem_of_getElem? (i := 19) (by decide +kernel), List.mem_of_getElem? (i := 932) (by decide +kernel), List.mem_of_getElem? (i := 933) (by decide +kernel)⟩
theorem lw_p42 : lw_okq (⟨"SmallCourt$Walk", "fromCourt", "(I)I"⟩, 5) := ⟨⟨by decide +kernel, by decide +kernel⟩, List.mem_of_getElem? (i := 246) (by decide +kernel), List.mem_of_getElem? (i := 967) (by decide +kernel), List.mem_of_getElem? (i := 968) (by decide +kernel)⟩
theorem lw_p43 : lw_okq (⟨"SmallCourt$Walk", "leastOn", "(II)I"⟩, 5) := ⟨⟨by decide +kernel, by decide +kernel⟩, List.mem_of_getElem? (i := 246) (by decide +kernel), List.mem_of_getElem? (i := 972) (by decide +kernel), List.mem_of_getElem? (i := 973) (by decide +kernel)⟩
theorem lw_p44 : lw_okq (⟨"SmallCourt$Walk", "stepsBy", "(III)I"⟩, 5) := ⟨⟨by decide +kernel, by decide +kernel⟩, List.mem_of_getElem? (i := 246) (by decide +kernel), List.mem_of_getElem? (i := 977) (by decide +kernel), List.mem_of_getElem? (i := 978) (by decide +kernel)⟩
theorem lw_p45 : lw_okq (⟨"SmallCourt$Walk", "retrace", "(I)V"⟩, 5) := ⟨⟨by decide +kernel, by decide +kernel⟩, List.mem_of_getElem? (i := 246) (by decide +kernel), List.mem_of_getElem? (i := 985) (by decide +kernel), List.mem_of_getElem? (i := 986) (by decide +kernel)⟩
theorem lw_p46 : lw_okq (⟨"SmallCourt$Walk", "firstOnWay", "(III)I"⟩, 5) := ⟨⟨by decide +kernel, by decide +kernel⟩, List.mem_of_getElem? (i := 246) (by decide +kernel), List.mem_of_getElem? (i := 989) (by decide +kernel), List.mem_of_getElem? (i := 990) (by decide +kernel)⟩
theorem lw_p47 : lw_okq (⟨"SmallCourt", "livingJudges", "()I"⟩, 20) := ⟨⟨by decide +kernel, by decide +kernel⟩, List.mem_of_getElem? (i := 19) (by decide +kernel), List.mem_of_getElem? (i := 1017) (by decide +kernel), List.mem_of_getElem? (i := 1018) (by decide +kernel)⟩
def lw_privs_3 : List (MethodName × Nat) := [(⟨"SmallCourt$Claim", "stateAheadOfOrder", "(I)I"⟩, 19), (⟨"SmallCourt$Plan", "leastFrom", "(I)I"⟩, 13), (⟨"SmallCourt$Plan", "tryFrom", "(IIII)V"⟩, 13), (⟨"SmallCourt$Plan", "keepIfBetter", "(II)V"⟩, 13), (⟨"SmallCourt$Rings", "goOn", "(II)V"⟩, 8), (⟨"SmallCourt$Rings", "keepIfBetter", "(II)V"⟩, 8), (⟨"SmallCourt$Rings", "isInRing", "(II)Z"⟩, 8), (⟨"SmallCourt", "ringNeeds", "()I"⟩, 20), (⟨"SmallCourt$Rings", "placeAfter", "(I)I"⟩, 8), (⟨"SmallCourt", "takeOffRing", "()I"⟩, 20), (⟨"SmallCourt$Walk", "fromCourt", "(I)I"⟩, 5), (⟨"SmallCourt$Walk", "leastOn", "(II)I"⟩, 5), (⟨"SmallCourt$Walk", "stepsBy", "(III)I"⟩, 5), (⟨"SmallCourt$Walk", "retrace", "(I)V"⟩, 5), (⟨"SmallCourt$Walk", "firstOnWay", "(III)I"⟩, 5), (⟨"SmallCourt", "livingJudges", "()I"⟩, 20)]
theorem lw_r3 : ∀ q ∈ lw_privs_3, lw_okq q := List.forall_mem_cons.mpr ⟨lw_p32, List.forall_mem_cons.mpr ⟨lw_p33, List.forall_mem_cons.mpr ⟨lw_p34, List.forall_mem_cons.mpr ⟨lw_p35, List.forall_mem_cons.mpr ⟨lw_p36, List.forall_mem_cons.mpr ⟨lw_p37, List.forall_mem_cons.mpr ⟨lw_p38, List.forall_mem_cons.mpr ⟨lw_p39, List.forall_mem_cons.mpr ⟨lw_p40, List.forall_mem_cons.mpr ⟨lw_p41, List.forall_mem_cons.mpr ⟨lw_p42, List.forall_mem_cons.mpr ⟨lw_p43, List.forall_mem_cons.mpr ⟨lw_p44, List.forall_mem_cons.mpr ⟨lw_p45, List.forall_mem_cons.mpr ⟨lw_p46, List.forall_mem_cons.mpr ⟨lw_p47, fun _ h => absurd h List.not_mem_nil⟩⟩⟩⟩⟩⟩⟩⟩⟩⟩⟩⟩⟩⟩⟩⟩
theorem lw_p48 : lw_okq (⟨"SmallCourtModel", "clears", "()V"⟩, 98) := ⟨⟨by decide +kernel, by decide +kernel⟩, List.mem_of_getElem? (i := 1021) (by decide +kernel), List.mem_of_getElem? (i := 1030) (by decide +kernel), List.mem_of_getElem? (i := 1031) (by decide +kernel)⟩
theorem lw_p49 : lw_okq (⟨"SmallCourtModel", "withoutProof", "()V"⟩, 98) := ⟨⟨by decide +kernel, by decide +kernel⟩, List.mem_of_getElem? (i := 1021) (by decide +kernel), List.mem_of_getElem? (i := 1034) (by decide +kernel), List.mem_of_getElem? (i := 1035) (by decide +kernel)⟩
theorem lw_p50 : lw_okq (⟨"SmallCourtModel", "writes", "(I)V"⟩, 98) := ⟨⟨by decide +kernel, by decide +kernel⟩, List.mem_of_getElem? (i := 1021) (by decide +kernel), List.mem_of_getElem? (i := 1043) (by decide +kernel), List.mem_of_getElem? (i := 1044) (by decide +kernel)⟩
theorem lw_p51 : lw_okq (⟨"SmallCourtModel", "keepsProof", "(I)V"⟩, 98) := ⟨⟨by decide +kernel, by decide +kernel⟩, List.mem_of_getElem? (i := 1021) (by decide +kernel), List.mem_of_getElem? (i := 1047) (by decide +kernel), List.mem_of_getElem? (i := 1048) (by decide +kernel)⟩
theorem lw_p52 : lw_okq (⟨"SmallCourtModel", "four", "(I)V"⟩, 98) := ⟨⟨by decide +kernel, by decide +kernel⟩, List.mem_of_getElem? (i := 1021) (by decide +kernel), List.mem_of_getElem? (i := 1358) (by decide +kernel), List.mem_of_getElem? (i := 1359) (by decide +kernel)⟩
theorem lw_p53 : lw_okq (⟨"SmallCourtModel", "see", "()I"⟩, 98) := ⟨⟨by decide +kernel, by decide +kernel⟩, List.mem_of_getElem? (i := 1021) (by decide +kernel), List.mem_of_getElem? (i := 1373) (by decide +kernel), List.mem_of_getElem? (i := 1374) (by decide +kernel)⟩
theorem lw_p54 : lw_okq (⟨"SmallCourtModel", "clause", "()Z"⟩, 98) := ⟨⟨by decide +kernel, by decide +kernel⟩, List.mem_of_getElem? (i := 1021) (by decide +kernel), List.mem_of_getElem? (i := 1377) (by decide +kernel), List.mem_of_getElem? (i := 1378) (by decide +kernel)⟩
theorem lw_p55 : lw_okq (⟨"SmallCourtModel", "wordHere", "()I"⟩, 98) := ⟨⟨by decide +kernel, by decide +kernel⟩, List.mem_of_getElem? (i := 1021) (by decide +kernel), List.mem_of_getElem? (i := 1381) (by decide +kernel), List.mem_of_getElem? (i := 1382) (by decide +kernel)⟩
theorem lw_p56 : lw_okq (⟨"SmallCourtModel", "fails", "(II)Z"⟩, 98) := ⟨⟨by decide +kernel, by decide +kernel⟩, List.mem_of_getElem? (i := 1021) (by decide +kernel), List.mem_of_getElem? (i := 1385) (by decide +kernel), List.mem_of_getElem? (i := 1386) (by decide +kernel)⟩
theorem lw_p57 : lw_okq (⟨"SmallCourtModel", "isNew", "(II)Z"⟩, 98) := ⟨⟨by decide +kernel, by decide +kernel⟩, List.mem_of_getElem? (i := 1021) (by decide +kernel), List.mem_of_getElem? (i := 1389) (by decide +kernel), List.mem_of_getElem? (i := 1390) (by decide +kernel)⟩
theorem lw_p58 : lw_okq (⟨"SmallCourtModel", "either", "()Z"⟩, 98) := ⟨⟨by decide +kernel, by decide +kernel⟩, List.mem_of_getElem? (i := 1021) (by decide +kernel), List.mem_of_getElem? (i := 1393) (by decide +kernel), List.mem_of_getElem? (i := 1394) (by decide +kernel)⟩
theorem lw_p59 : lw_okq (⟨"SmallCourtModel", "begins", "()Z"⟩, 98) := ⟨⟨by decide +kernel, by decide +kernel⟩, List.mem_of_getElem? (i := 1021) (by decide +kernel), List.mem_of_getElem? (i := 1397) (by decide +kernel), List.mem_of_getElem? (i := 1398) (by decide +kernel)⟩
theorem lw_p60 : lw_okq (⟨"SmallCourtModel", "compare", "(I)Z"⟩, 98) := ⟨⟨by decide +kernel, by decide +kernel⟩, List.mem_of_getElem? (i := 1021) (by decide +kernel), List.mem_of_getElem? (i := 1401) (by decide +kernel), List.mem_of_getElem? (i := 1402) (by decide +kernel)⟩
theorem lw_p61 : lw_okq (⟨"SmallCourtModel", "number", "(II)Z"⟩, 98) := ⟨⟨by decide +kernel, by decide +kernel⟩, List.mem_of_getElem? (i := 1021) (by decide +kernel), List.mem_of_getElem? (i := 1408) (by decide +kernel), List.mem_of_getElem? (i := 1409) (by decide +kernel)⟩
theorem lw_p62 : lw_okq (⟨"SmallCourtModel", "deep", "()I"⟩, 98) := ⟨⟨by decide +kernel, by decide +kernel⟩, List.mem_of_getElem? (i := 1021) (by decide +kernel), List.mem_of_getElem? (i := 1412) (by decide +kernel), List.mem_of_getElem? (i := 1413) (by decide +kernel)⟩
theorem lw_p63 : lw_okq (⟨"SmallCourtModel", "closesNots", "()V"⟩, 98) := ⟨⟨by decide +kernel, by decide +kernel⟩, List.mem_of_getElem? (i := 1021) (by decide +kernel), List.mem_of_getElem? (i := 1416) (by decide +kernel), List.mem_of_getElem? (i := 1417) (by decide +kernel)⟩
def lw_privs_4 : List (MethodName × Nat) := [(⟨"SmallCourtModel", "clears", "()V"⟩, 98), (⟨"SmallCourtModel", "withoutProof", "()V"⟩, 98), (⟨"SmallCourtModel", "writes", "(I)V"⟩, 98), (⟨"SmallCourtModel", "keepsProof", "(I)V"⟩, 98), (⟨"SmallCourtModel", "four", "(I)V"⟩, 98), (⟨"SmallCourtModel", "see", "()I"⟩, 98), (⟨"SmallCourtModel", "clause", "()Z"⟩, 98), (⟨"SmallCourtModel", "wordHere", "()I"⟩, 98), (⟨"SmallCourtModel", "fails", "(II)Z"⟩, 98), (⟨"SmallCourtModel", "isNew", "(II)Z"⟩, 98), (⟨"SmallCourtModel", "either", "()Z"⟩, 98), (⟨"SmallCourtModel", "begins", "()Z"⟩, 98), (⟨"SmallCourtModel", "compare", "(I)Z"⟩, 98), (⟨"SmallCourtModel", "number", "(II)Z"⟩, 98), (⟨"SmallCourtModel", "deep", "()I"⟩, 98), (⟨"SmallCourtModel", "closesNots", "()V"⟩, 98)]
theorem lw_r4 : ∀ q ∈ lw_privs_4, lw_okq q := List.forall_mem_cons.mpr ⟨lw_p48, List.forall_mem_cons.mpr ⟨lw_p49, List.forall_mem_cons.mpr ⟨lw_p50, List.forall_mem_cons.mpr ⟨lw_p51, List.forall_mem_cons.mpr ⟨lw_p52, List.forall_mem_cons.mpr ⟨lw_p53, List.forall_mem_cons.mpr ⟨lw_p54, List.forall_mem_cons.mpr ⟨lw_p55, List.forall_mem_cons.mpr ⟨lw_p56, List.forall_mem_cons.mpr ⟨lw_p57, List.forall_mem_cons.mpr ⟨lw_p58, List.forall_mem_cons.mpr ⟨lw_p59, List.forall_mem_cons.mpr ⟨lw_p60, List.forall_mem_cons.mpr ⟨lw_p61, List.forall_mem_cons.mpr ⟨lw_p62, List.forall_mem_cons.mpr ⟨lw_p63, fun _ h => absurd h List.not_mem_nil⟩⟩⟩⟩⟩⟩⟩⟩⟩⟩⟩⟩⟩⟩⟩⟩
theorem lw_p64 : lw_okq (⟨"SmallCourtModel", "closesDown", "(I)V"⟩, 98) := ⟨⟨by decide +kernel, by decide +kernel⟩, List.mem_of_getElem? (i := 1021) (by decide +kernel), List.mem_of_getElem? (i := 1420) (by decide +kernel), List.mem_of_getElem? (i := 1421) (by decide +kernel)⟩
theorem lw_p65 : lw_okq (⟨"SmallCourtModel", "inForce", "(I)I"⟩, 98) := ⟨⟨by decide +kernel, by decide +kernel⟩, List.mem_of_getElem? (i := 1021) (by decide +kernel), List.mem_of_getElem? (i := 1434) (by decide +kernel), List.mem_of_getElem? (i := 1435) (by decide +kernel)⟩
theorem lw_p66 : lw_okq (⟨"SmallCourtModel", "ruleOf", "(II)I"⟩, 98) := ⟨⟨by decide +kernel, by decide +kernel⟩, List.mem_of_getElem? (i := 1021) (by decide +kernel), List.mem_of_getElem? (i := 1438) (by decide +kernel), List.mem_of_getElem? (i := 1439) (by decide +kernel)⟩
theorem lw_p67 : lw_okq (⟨"SmallCourtModel", "lives", "(IIIII)V"⟩, 98) := ⟨⟨by decide +kernel, by decide +kernel⟩, List.mem_of_getElem? (i := 1021) (by decide +kernel), List.mem_of_getElem? (i := 1449) (by decide +kernel), List.mem_of_getElem? (i := 1450) (by decide +kernel)⟩
theorem lw_p68 : lw_okq (⟨"SmallCourtModel", "isPerson", "(I)Z"⟩, 98) := ⟨⟨by decide +kernel, by decide +kernel⟩, List.mem_of_getElem? (i := 1021) (by decide +kernel), List.mem_of_getElem? (i := 1457) (by decide +kernel), List.mem_of_getElem? (i := 1458) (by decide +kernel)⟩
theorem lw_p69 : lw_okq (⟨"SmallCourtModel", "bookSum", "(III)I"⟩, 98) := ⟨⟨by decide +kernel, by decide +kernel⟩, List.mem_of_getElem? (i := 1021) (by decide +kernel), List.mem_of_getElem? (i := 1478) (by decide +kernel), List.mem_of_getElem? (i := 1479) (by decide +kernel)⟩
theorem lw_p70 : lw_okq (⟨"SmallCourtModel", "alike", "(III)I"⟩, 98) := ⟨⟨by decide +kernel, by decide +kernel⟩, List.mem_of_getElem? (i := 1021) (by decide +kernel), List.mem_of_getElem? (i := 1482) (by decide +kernel), List.mem_of_getElem? (i := 1483) (by decide +kernel)⟩
theorem lw_p71 : lw_okq (⟨"SmallCourtModel", "areTwins", "(II)Z"⟩, 98) := ⟨⟨by decide +kernel, by decide +kernel⟩, List.mem_of_getElem? (i := 1021) (by decide +kernel), List.mem_of_getElem? (i := 1486) (by decide +kernel), List.mem_of_getElem? (i := 1487) (by decide +kernel)⟩
theorem lw_p72 : lw_okq (⟨"SmallCourtModel", "disorder", "(I)I"⟩, 98) := ⟨⟨by decide +kernel, by decide +kernel⟩, List.mem_of_getElem? (i := 1021) (by decide +kernel), List.mem_of_getElem? (i := 1490) (by decide +kernel), List.mem_of_getElem? (i := 1491) (by decide +kernel)⟩
theorem lw_p73 : lw_okq (⟨"SmallCourtModel", "isClaim", "(I)Z"⟩, 98) := ⟨⟨by decide +kernel, by decide +kernel⟩, List.mem_of_getElem? (i := 1021) (by decide +kernel), List.mem_of_getElem? (i := 1502) (by decide +kernel), List.mem_of_getElem? (i := 1503) (by decide +kernel)⟩
theorem lw_p74 : lw_okq (⟨"SmallCourtModel", "sits", "(I)I"⟩, 98) := ⟨⟨by decide +kernel, by decide +kernel⟩, List.mem_of_getElem? (i := 1021) (by decide +kernel), List.mem_of_getElem? (i := 1510) (by decide +kernel), List.mem_of_getElem? (i := 1511) (by decide +kernel)⟩
theorem lw_p75 : lw_okq (⟨"SmallCourtModel", "isKinOf", "(II)Z"⟩, 98) := ⟨⟨by decide +kernel, by decide +kernel⟩, List.mem_of_getElem? (i := 1021) (by decide +kernel), List.mem_of_getElem? (i := 1514) (by decide +kernel), List.mem_of_getElem? (i := 1515) (by decide +kernel)⟩
theorem lw_p76 : lw_okq (⟨"SmallCourtModel", "draws", "(III)V"⟩, 98) := ⟨⟨by decide +kernel, by decide +kernel⟩, List.mem_of_getElem? (i := 1021) (by decide +kernel), List.mem_of_getElem? (i := 1518) (by decide +kernel), List.mem_of_getElem? (i := 1519) (by decide +kernel)⟩
theorem lw_p77 : lw_okq (⟨"SmallCourtModel", "judges", "(II)I"⟩, 98) := ⟨⟨by decide +kernel, by decide +kernel⟩, List.mem_of_getElem? (i := 1021) (by decide +kernel), List.mem_of_getElem? (i := 1522) (by decide +kernel), List.mem_of_getElem? (i := 1523) (by decide +kernel)⟩
theorem lw_p78 : lw_okq (⟨"SmallCourtModel", "isSplit", "(II)Z"⟩, 98) := ⟨⟨by decide +kernel, by decide +kernel⟩, List.mem_of_getElem? (i := 1021) (by decide +kernel), List.mem_of_getElem? (i := 1526) (by decide +kernel), List.mem_of_getElem? (i := 1527) (by decide +kernel)⟩
theorem lw_p79 : lw_okq (⟨"SmallCourtModel", "isProved", "(II)Z"⟩, 98) := ⟨⟨by decide +kernel, by decide +kernel⟩, List.mem_of_getElem? (i := 1021) (by decide +kernel), List.mem_of_getElem? (i := 1530) (by decide +kernel), List.mem_of_getElem? (i := 1531) (by decide +kernel)⟩
def lw_privs_5 : List (MethodName × Nat) := [(⟨"SmallCourtModel", "closesDown", "(I)V"⟩, 98), (⟨"SmallCourtModel", "inForce", "(I)I"⟩, 98), (⟨"SmallCourtModel", "ruleOf", "(II)I"⟩, 98), (⟨"SmallCourtModel", "lives", "(IIIII)V"⟩, 98), (⟨"SmallCourtModel", "isPerson", "(I)Z"⟩, 98), (⟨"SmallCourtModel", "bookSum", "(III)I"⟩, 98), (⟨"SmallCourtModel", "alike", "(III)I"⟩, 98), (⟨"SmallCourtModel", "areTwins", "(II)Z"⟩, 98), (⟨"SmallCourtModel", "disorder", "(I)I"⟩, 98), (⟨"SmallCourtModel", "isClaim", "(I)Z"⟩, 98), (⟨"SmallCourtModel", "sits", "(I)I"⟩, 98), (⟨"SmallCourtModel", "isKinOf", "(II)Z"⟩, 98), (⟨"SmallCourtModel", "draws", "(III)V"⟩, 98), (⟨"SmallCourtModel", "judges", "(II)I"⟩, 98), (⟨"SmallCourtModel", "isSplit", "(II)Z"⟩, 98), (⟨"SmallCourtModel", "isProved", "(II)Z"⟩, 98)]
theorem lw_r5 : ∀ q ∈ lw_privs_5, lw_okq q := List.forall_mem_cons.mpr ⟨lw_p64, List.forall_mem_cons.mpr ⟨lw_p65, List.forall_mem_cons.mpr ⟨lw_p66, List.forall_mem_cons.mpr ⟨lw_p67, List.forall_mem_cons.mpr ⟨lw_p68, List.forall_mem_cons.mpr ⟨lw_p69, List.forall_mem_cons.mpr ⟨lw_p70, List.forall_mem_cons.mpr ⟨lw_p71, List.forall_mem_cons.mpr ⟨lw_p72, List.forall_mem_cons.mpr ⟨lw_p73, List.forall_mem_cons.mpr ⟨lw_p74, List.forall_mem_cons.mpr ⟨lw_p75, List.forall_mem_cons.mpr ⟨lw_p76, List.forall_mem_cons.mpr ⟨lw_p77, List.forall_mem_cons.mpr ⟨lw_p78, List.forall_mem_cons.mpr ⟨lw_p79, fun _ h => absurd h List.not_mem_nil⟩⟩⟩⟩⟩⟩⟩⟩⟩⟩⟩⟩⟩⟩⟩⟩
theorem lw_p80 : lw_okq (⟨"SmallCourtModel", "isSo", "(II)Z"⟩, 98) := ⟨⟨by decide +kernel, by decide +kernel⟩, List.mem_of_getElem? (i := 1021) (by decide +kernel), List.mem_of_getElem? (i := 1534) (by decide +kernel), List.mem_of_getElem? (i := 1535) (by decide +kernel)⟩
theorem lw_p81 : lw_okq (⟨"SmallCourtModel", "isOpen", "(I)Z"⟩, 98) := ⟨⟨by decide +kernel, by decide +kernel⟩, List.mem_of_getElem? (i := 1021) (by decide +kernel), List.mem_of_getElem? (i := 1542) (by decide +kernel), List.mem_of_getElem? (i := 1543) (by decide +kernel)⟩
theorem lw_p82 : lw_okq (⟨"SmallCourtModel", "looks", "(III)V"⟩, 98) := ⟨⟨by decide +kernel, by decide +kernel⟩, List.mem_of_getElem? (i := 1021) (by decide +kernel), List.mem_of_getElem? (i := 1546) (by decide +kernel), List.mem_of_getElem? (i := 1547) (by decide +kernel)⟩
theorem lw_p83 : lw_okq (⟨"SmallCourtModel", "means", "(II)I"⟩, 98) := ⟨⟨by decide +kernel, by decide +kernel⟩, List.mem_of_getElem? (i := 1021) (by decide +kernel), List.mem_of_getElem? (i := 1550) (by decide +kernel), List.mem_of_getElem? (i := 1551) (by decide +kernel)⟩
theorem lw_p84 : lw_okq (⟨"SmallCourtModel", "pays", "(III)I"⟩, 98) := ⟨⟨by decide +kernel, by decide +kernel⟩, List.mem_of_getElem? (i := 1021) (by decide +kernel), List.mem_of_getElem? (i := 1558) (by decide +kernel), List.mem_of_getElem? (i := 1559) (by decide +kernel)⟩
theorem lw_p85 : lw_okq (⟨"SmallCourtModel", "weeksOf", "(III)I"⟩, 98) := ⟨⟨by decide +kernel, by decide +kernel⟩, List.mem_of_getElem? (i := 1021) (by decide +kernel), List.mem_of_getElem? (i := 1587) (by decide +kernel), List.mem_of_getElem? (i := 1588) (by decide +kernel)⟩
theorem lw_p86 : lw_okq (⟨"SmallCourtModel", "debts", "()V"⟩, 98) := ⟨⟨by decide +kernel, by decide +kernel⟩, List.mem_of_getElem? (i := 1021) (by decide +kernel), List.mem_of_getElem? (i := 1599) (by decide +kernel), List.mem_of_getElem? (i := 1600) (by decide +kernel)⟩
theorem lw_p87 : lw_okq (⟨"SmallCourtModel", "finds", "()V"⟩, 98) := ⟨⟨by decide +kernel, by decide +kernel⟩, List.mem_of_getElem? (i := 1021) (by decide +kernel), List.mem_of_getElem? (i := 1603) (by decide +kernel), List.mem_of_getElem? (i := 1604) (by decide +kernel)⟩
theorem lw_p88 : lw_okq (⟨"SmallCourtModel", "offers", "(II)V"⟩, 98) := ⟨⟨by decide +kernel, by decide +kernel⟩, List.mem_of_getElem? (i := 1021) (by decide +kernel), List.mem_of_getElem? (i := 1607) (by decide +kernel), List.mem_of_getElem? (i := 1608) (by decide +kernel)⟩
theorem lw_p89 : lw_okq (⟨"SmallCourtModel", "takes", "(IIIZ)I"⟩, 98) := ⟨⟨by decide +kernel, by decide +kernel⟩, List.mem_of_getElem? (i := 1021) (by decide +kernel), List.mem_of_getElem? (i := 1614) (by decide +kernel), List.mem_of_getElem? (i := 1615) (by decide +kernel)⟩
theorem lw_p90 : lw_okq (⟨"SmallCourtModel", "far", "(II)I"⟩, 98) := ⟨⟨by decide +kernel, by decide +kernel⟩, List.mem_of_getElem? (i := 1021) (by decide +kernel), List.mem_of_getElem? (i := 1630) (by decide +kernel), List.mem_of_getElem? (i := 1631) (by decide +kernel)⟩
theorem lw_p91 : lw_okq (⟨"SmallCourtModel", "habits", "(I)V"⟩, 98) := ⟨⟨by decide +kernel, by decide +kernel⟩, List.mem_of_getElem? (i := 1021) (by decide +kernel), List.mem_of_getElem? (i := 1645) (by decide +kernel), List.mem_of_getElem? (i := 1646) (by decide +kernel)⟩
theorem lw_p92 : lw_okq (⟨"SmallCourtModel", "isRare", "(II)Z"⟩, 98) := ⟨⟨by decide +kernel, by decide +kernel⟩, List.mem_of_getElem? (i := 1021) (by decide +kernel), List.mem_of_getElem? (i := 1649) (by decide +kernel), List.mem_of_getElem? (i := 1650) (by decide +kernel)⟩
def lw_privs_6 : List (MethodName × Nat) := [(⟨"SmallCourtModel", "isSo", "(II)Z"⟩, 98), (⟨"SmallCourtModel", "isOpen", "(I)Z"⟩, 98), (⟨"SmallCourtModel", "looks", "(III)V"⟩, 98), (⟨"SmallCourtModel", "means", "(II)I"⟩, 98), (⟨"SmallCourtModel", "pays", "(III)I"⟩, 98), (⟨"SmallCourtModel", "weeksOf", "(III)I"⟩, 98), (⟨"SmallCourtModel", "debts", "()V"⟩, 98), (⟨"SmallCourtModel", "finds", "()V"⟩, 98), (⟨"SmallCourtModel", "offers", "(II)V"⟩, 98), (⟨"SmallCourtModel", "takes", "(IIIZ)I"⟩, 98), (⟨"SmallCourtModel", "far", "(II)I"⟩, 98), (⟨"SmallCourtModel", "habits", "(I)V"⟩, 98), (⟨"SmallCourtModel", "isRare", "(II)Z"⟩, 98)]
theorem lw_r6 : ∀ q ∈ lw_privs_6, lw_okq q := List.forall_mem_cons.mpr ⟨lw_p80, List.forall_mem_cons.mpr ⟨lw_p81, List.forall_mem_cons.mpr ⟨lw_p82, List.forall_mem_cons.mpr ⟨lw_p83, List.forall_mem_cons.mpr ⟨lw_p84, List.forall_mem_cons.mpr ⟨lw_p85, List.forall_mem_cons.mpr ⟨lw_p86, List.forall_mem_cons.mpr ⟨lw_p87, List.forall_mem_cons.mpr ⟨lw_p88, List.forall_mem_cons.mpr ⟨lw_p89, List.forall_mem_cons.mpr ⟨lw_p90, List.forall_mem_cons.mpr ⟨lw_p91, List.forall_mem_cons.mpr ⟨lw_p92, fun _ h => absurd h List.not_mem_nil⟩⟩⟩⟩⟩⟩⟩⟩⟩⟩⟩⟩⟩
def lw_privs : List (MethodName × Nat) := lw_privs_1 ++ (lw_privs_2 ++ (lw_privs_3 ++ (lw_privs_4 ++ (lw_privs_5 ++ (lw_privs_6)))))
def lw_tbl : List Cond := k2_sels lw_privs ++ tables_1
theorem lw_privs_ok : ∀ q ∈ lw_privs, lw_okq q := by
  show ∀ q ∈ lw_privs_1 ++ (lw_privs_2 ++ (lw_privs_3 ++ (lw_privs_4 ++ (lw_privs_5 ++ (lw_privs_6))))), lw_okq q
  exact List.forall_mem_append.mpr ⟨lw_r1, List.forall_mem_append.mpr ⟨lw_r2, List.forall_mem_append.mpr ⟨lw_r3, List.forall_mem_append.mpr ⟨lw_r4, List.forall_mem_append.mpr ⟨lw_r5, lw_r6⟩⟩⟩⟩⟩
-- ===== end of PART A; then your names; then what follows =====
end
section
/-! ===== BEGIN words of one list among another's, by their places ===== -/
theorem goodIn_r {big : List Cond} (ws : List Cond) (ps : List Nat) (hp : ws = ps.filterMap (fun i => big[i]?)) (h : ws.all goodWord = true) : GoodIn big ws := by
  intro w hw
  have h1 := List.all_eq_true.mp h w hw
  rw [hp] at hw
  obtain ⟨i, -, hi⟩ := List.mem_filterMap.mp hw
  have hm : w ∈ big := by first | exact List.mem_of_getElem? hi | exact List.getElem?_mem hi
  exact ⟨hm, good_of_word h1⟩
theorem goodIn_app {big a b : List Cond} (ha : GoodIn big a) (hb : GoodIn big b) : GoodIn big (a ++ b) := fun w h => (List.mem_append.mp h).elim (ha w) (hb w)
theorem goodIn_ca {big a b : List Cond} {c : Cond} (ha : GoodIn big (c :: a)) (hb : GoodIn big b) : GoodIn big (c :: (a ++ b)) := fun w h => (List.mem_cons.mp h).elim (fun e => ha w (List.mem_cons.mpr (Or.inl e))) (fun h => (List.mem_append.mp h).elim (fun h => ha w (List.mem_cons.mpr (Or.inr h))) (hb w))
theorem goodIn_sub {big ws : List Cond} (hm : ∀ w ∈ ws, w ∈ big) (h : ws.all goodWord = true) : GoodIn big ws := fun w hw => ⟨hm w hw, good_of_word (List.all_eq_true.mp h w hw)⟩
/-! ===== END ===== -/

/-! ===== BEGIN printed: names, fields, word lists, decode rows ===== -/
def RX0 : String := "SmallCourt$Act"
def TX0 : u_T := fun k => match k with
  | 0 => ("SmallCourt$Act", "number", "I", true)
  | 1 => ("SmallCourt$Act", "day", "I", true)
  | 2 => ("SmallCourt$Act", "told", "[I", true)
  | 3 => ("SmallCourt$Act", "proof", "[I", true)
  | _ => ("SmallCourt$Act", "proofLength", "I", false)
def tyX0 : Nat → FieldType := fun k => match k with
  | 0 => .int
  | 1 => .int
  | 2 => .array .int
  | 3 => .array .int
  | _ => .int
abbrev wsX00 : List Cond := u_ws RX0 TX0 5
theorem nmX0 : ∀ a, a < 5 → ∀ b, b < 5 → a ≠ b → (TX0 a).2.1 ≠ (TX0 b).2.1 := by decide +kernel
theorem tyX0_ok : ∀ k, k < 5 → parseFieldDescriptor (TX0 k).2.2.1 = some (tyX0 k) := by decide +kernel
abbrev cX0_init : ByteArray := prog_2_method_1_code
def yX0_init : MethodName := ⟨RX0, "<init>", "(II)V"⟩
abbrev cX0_term : ByteArray := prog_2_method_2_code
def yX0_term : MethodName := ⟨RX0, "term", "(IIZI)I"⟩
abbrev cX0_addProof : ByteArray := prog_2_method_3_code
def yX0_addProof : MethodName := ⟨RX0, "addProof", "(I)V"⟩
abbrev cX0_proves : ByteArray := prog_2_method_4_code
def yX0_proves : MethodName := ⟨RX0, "proves", "([I)Z"⟩
abbrev cX0_holds : ByteArray := prog_2_method_5_code
def yX0_holds : MethodName := ⟨RX0, "holds", "(I[I)Z"⟩
def RX1 : String := "SmallCourt$Books"
def TX1 : u_T := fun k => match k with
  | 0 => ("SmallCourt$Books", "count", "I", false)
  | 1 => ("SmallCourt$Books", "owner", "[I", true)
  | 2 => ("SmallCourt$Books", "with", "[I", true)
  | 3 => ("SmallCourt$Books", "day", "[I", true)
  | 4 => ("SmallCourt$Books", "kind", "[I", true)
  | 5 => ("SmallCourt$Books", "sum", "[I", true)
  | 6 => ("SmallCourt$Books", "byDay", "[I", true)
  | _ => ("SmallCourt$Books", "taken", "[Z", true)
def tyX1 : Nat → FieldType := fun k => match k with
  | 0 => .int
  | 1 => .array .int
  | 2 => .array .int
  | 3 => .array .int
  | 4 => .array .int
  | 5 => .array .int
  | 6 => .array .int
  | _ => .array .boolean
abbrev wsX10 : List Cond := u_ws RX1 TX1 8
theorem nmX1 : ∀ a, a < 8 → ∀ b, b < 8 → a ≠ b → (TX1 a).2.1 ≠ (TX1 b).2.1 := by decide +kernel
theorem tyX1_ok : ∀ k, k < 8 → parseFieldDescriptor (TX1 k).2.2.1 = some (tyX1 k) := by decide +kernel
abbrev cX1_init : ByteArray := prog_3_method_1_code
def yX1_init : MethodName := ⟨RX1, "<init>", "()V"⟩
abbrev cX1_addLine : ByteArray := prog_3_method_2_code
def yX1_addLine : MethodName := ⟨RX1, "addLine", "(IIIII)V"⟩
abbrev cX1_sumWith : ByteArray := prog_3_method_3_code
def yX1_sumWith : MethodName := ⟨RX1, "sumWith", "(III)I"⟩
abbrev cX1_isLine : ByteArray := prog_3_method_4_code
def yX1_isLine : MethodName := ⟨RX1, "isLine", "(IIII)Z"⟩
abbrev cX1_twinPairs : ByteArray := prog_3_method_5_code
def yX1_twinPairs : MethodName := ⟨RX1, "twinPairs", "(III)I"⟩
abbrev cX1_takeTwin : ByteArray := prog_3_method_6_code
def yX1_takeTwin : MethodName := ⟨RX1, "takeTwin", "(II)Z"⟩
abbrev cX1_areTwins : ByteArray := prog_3_method_7_code
def yX1_areTwins : MethodName := ⟨RX1, "areTwins", "(II)Z"⟩
abbrev cX1_disorder : ByteArray := prog_3_method_8_code
def yX1_disorder : MethodName := ⟨RX1, "disorder", "(I)I"⟩
def RX2 : String := "SmallCourt$Claim"
def TX2 : u_T := fun k => match k with
  | 0 => ("SmallCourt$Claim", "number", "I", true)
  | 1 => ("SmallCourt$Claim", "plaintiff", "LSmallCourt$Person;", true)
  | 2 => ("SmallCourt$Claim", "defendant", "LSmallCourt$Person;", true)
  | 3 => ("SmallCourt$Claim", "act", "LSmallCourt$Act;", true)
  | 4 => ("SmallCourt$Claim", "facts", "[I", true)
  | 5 => ("SmallCourt$Claim", "bench", "[I", true)
  | 6 => ("SmallCourt$Claim", "sum", "I", false)
  | 7 => ("SmallCourt$Claim", "from", "I", false)
  | 8 => ("SmallCourt$Claim", "filed", "I", false)
  | 9 => ("SmallCourt$Claim", "tries", "I", false)
  | 10 => ("SmallCourt$Claim", "found", "I", false)
  | 11 => ("SmallCourt$Claim", "heard", "I", false)
  | 12 => ("SmallCourt$Claim", "judged", "I", false)
  | 13 => ("SmallCourt$Claim", "ordered", "I", false)
  | 14 => ("SmallCourt$Claim", "weekly", "I", false)
  | 15 => ("SmallCourt$Claim", "owed", "I", false)
  | 16 => ("SmallCourt$Claim", "seized", "I", false)
  | 17 => ("SmallCourt$Claim", "worth", "I", false)
  | _ => ("SmallCourt$Claim", "served", "I", false)
def tyX2 : Nat → FieldType := fun k => match k with
  | 0 => .int
  | 1 => .object "SmallCourt$Person"
  | 2 => .object "SmallCourt$Person"
  | 3 => .object "SmallCourt$Act"
  | 4 => .array .int
  | 5 => .array .int
  | 6 => .int
  | 7 => .int
  | 8 => .int
  | 9 => .int
  | 10 => .int
  | 11 => .int
  | 12 => .int
  | 13 => .int
  | 14 => .int
  | 15 => .int
  | 16 => .int
  | 17 => .int
  | _ => .int
abbrev wsX20 : List Cond := u_ws RX2 TX2 19
theorem nmX2 : ∀ a, a < 19 → ∀ b, b < 19 → a ≠ b → (TX2 a).2.1 ≠ (TX2 b).2.1 := by decide +kernel
theorem tyX2_ok : ∀ k, k < 19 → parseFieldDescriptor (TX2 k).2.2.1 = some (tyX2 k) := by decide +kernel
abbrev cX2_init : ByteArray := prog_4_method_1_code
def yX2_init : MethodName := ⟨RX2, "<init>", "(ILSmallCourt$Person;LSmallCourt$Person;LSmallCourt$Act;)V"⟩
abbrev cX2_isOnBench : ByteArray := prog_4_method_2_code
def yX2_isOnBench : MethodName := ⟨RX2, "isOnBench", "(I)Z"⟩
abbrev cX2_costsBy : ByteArray := prog_4_method_3_code
def yX2_costsBy : MethodName := ⟨RX2, "costsBy", "(LSmallCourt$Act;Z)I"⟩
abbrev cX2_isOpen : ByteArray := prog_4_method_4_code
def yX2_isOpen : MethodName := ⟨RX2, "isOpen", "(LSmallCourt$Payments;I)Z"⟩
abbrev cX2_stateOn : ByteArray := prog_4_method_5_code
def yX2_stateOn : MethodName := ⟨RX2, "stateOn", "(LSmallCourt$Payments;II)I"⟩
abbrev cX2_stateAheadOfOrder : ByteArray := prog_4_method_6_code
def yX2_stateAheadOfOrder : MethodName := ⟨RX2, "stateAheadOfOrder", "(I)I"⟩
abbrev cX2_restOn : ByteArray := prog_4_method_7_code
def yX2_restOn : MethodName := ⟨RX2, "restOn", "(LSmallCourt$Payments;II)I"⟩
abbrev cX2_overOn : ByteArray := prog_4_method_8_code
def yX2_overOn : MethodName := ⟨RX2, "overOn", "(LSmallCourt$Payments;II)I"⟩
abbrev cX2_missedOn : ByteArray := prog_4_method_9_code
def yX2_missedOn : MethodName := ⟨RX2, "missedOn", "(LSmallCourt$Payments;II)I"⟩
abbrev cX2_balanceOn : ByteArray := prog_4_method_10_code
def yX2_balanceOn : MethodName := ⟨RX2, "balanceOn", "(LSmallCourt$Payments;II)I"⟩
abbrev cX2_paidOn : ByteArray := prog_4_method_11_code
def yX2_paidOn : MethodName := ⟨RX2, "paidOn", "(LSmallCourt$Payments;II)I"⟩
abbrev cX2_owedOn : ByteArray := prog_4_method_12_code
def yX2_owedOn : MethodName := ⟨RX2, "owedOn", "(I)I"⟩
abbrev cX2_isDone : ByteArray := prog_4_method_13_code
def yX2_isDone : MethodName := ⟨RX2, "isDone", "(II)Z"⟩
def RX3 : String := "SmallCourt$Payments"
def TX3 : u_T := fun k => match k with
  | 0 => ("SmallCourt$Payments", "count", "I", false)
  | 1 => ("SmallCourt$Payments", "struck", "[I", true)
  | 2 => ("SmallCourt$Payments", "of", "[I", true)
  | 3 => ("SmallCourt$Payments", "day", "[I", true)
  | 4 => ("SmallCourt$Payments", "known", "[I", true)
  | _ => ("SmallCourt$Payments", "sum", "[I", true)
def tyX3 : Nat → FieldType := fun k => match k with
  | 0 => .int
  | 1 => .array .int
  | 2 => .array .int
  | 3 => .array .int
  | 4 => .array .int
  | _ => .array .int
abbrev wsX30 : List Cond := u_ws RX3 TX3 6
theorem nmX3 : ∀ a, a < 6 → ∀ b, b < 6 → a ≠ b → (TX3 a).2.1 ≠ (TX3 b).2.1 := by decide +kernel
theorem tyX3_ok : ∀ k, k < 6 → parseFieldDescriptor (TX3 k).2.2.1 = some (tyX3 k) := by decide +kernel
abbrev cX3_init : ByteArray := prog_5_method_1_code
def yX3_init : MethodName := ⟨RX3, "<init>", "()V"⟩
abbrev cX3_addPayment : ByteArray := prog_5_method_2_code
def yX3_addPayment : MethodName := ⟨RX3, "addPayment", "(IIII)I"⟩
abbrev cX3_sumFor : ByteArray := prog_5_method_3_code
def yX3_sumFor : MethodName := ⟨RX3, "sumFor", "(III)I"⟩
def RX4 : String := "SmallCourt$Person"
def TX4 : u_T := fun k => match k with
  | 0 => ("SmallCourt$Person", "number", "I", true)
  | 1 => ("SmallCourt$Person", "born", "I", true)
  | 2 => ("SmallCourt$Person", "kin", "I", true)
  | 3 => ("SmallCourt$Person", "earns", "I", false)
  | 4 => ("SmallCourt$Person", "heads", "I", false)
  | 5 => ("SmallCourt$Person", "x", "I", false)
  | 6 => ("SmallCourt$Person", "y", "I", false)
  | 7 => ("SmallCourt$Person", "dead", "Z", false)
  | 8 => ("SmallCourt$Person", "isJudge", "Z", false)
  | _ => ("SmallCourt$Person", "wasJudge", "Z", false)
def tyX4 : Nat → FieldType := fun k => match k with
  | 0 => .int
  | 1 => .int
  | 2 => .int
  | 3 => .int
  | 4 => .int
  | 5 => .int
  | 6 => .int
  | 7 => .boolean
  | 8 => .boolean
  | _ => .boolean
abbrev wsX40 : List Cond := u_ws RX4 TX4 10
theorem nmX4 : ∀ a, a < 10 → ∀ b, b < 10 → a ≠ b → (TX4 a).2.1 ≠ (TX4 b).2.1 := by decide +kernel
theorem tyX4_ok : ∀ k, k < 10 → parseFieldDescriptor (TX4 k).2.2.1 = some (tyX4 k) := by decide +kernel
abbrev cX4_init : ByteArray := prog_6_method_1_code
def yX4_init : MethodName := ⟨RX4, "<init>", "(III)V"⟩
abbrev cX4_tell : ByteArray := prog_6_method_2_code
def yX4_tell : MethodName := ⟨RX4, "tell", "(IIII)V"⟩
abbrev cX4_meansBy : ByteArray := prog_6_method_3_code
def yX4_meansBy : MethodName := ⟨RX4, "meansBy", "(LSmallCourt$Act;)I"⟩
abbrev cX4_maySit : ByteArray := prog_6_method_4_code
def yX4_maySit : MethodName := ⟨RX4, "maySit", "(LSmallCourt$Claim;)Z"⟩
abbrev cX4_isKinOf : ByteArray := prog_6_method_5_code
def yX4_isKinOf : MethodName := ⟨RX4, "isKinOf", "(LSmallCourt$Person;)Z"⟩
def RX5 : String := "SmallCourt$Plan"
def TX5 : u_T := fun k => match k with
  | 0 => ("SmallCourt$Plan", "open", "I", false)
  | 1 => ("SmallCourt$Plan", "told", "I", false)
  | 2 => ("SmallCourt$Plan", "claims", "[I", true)
  | 3 => ("SmallCourt$Plan", "weekly", "[I", true)
  | 4 => ("SmallCourt$Plan", "weeks", "[I", true)
  | 5 => ("SmallCourt$Plan", "opened", "[I", true)
  | 6 => ("SmallCourt$Plan", "rest", "[I", true)
  | 7 => ("SmallCourt$Plan", "least", "[I", true)
  | 8 => ("SmallCourt$Plan", "tried", "[I", true)
  | 9 => ("SmallCourt$Plan", "unit", "I", false)
  | 10 => ("SmallCourt$Plan", "means", "I", false)
  | 11 => ("SmallCourt$Plan", "bestLast", "I", false)
  | _ => ("SmallCourt$Plan", "bestAll", "I", false)
def tyX5 : Nat → FieldType := fun k => match k with
  | 0 => .int
  | 1 => .int
  | 2 => .array .int
  | 3 => .array .int
  | 4 => .array .int
  | 5 => .array .int
  | 6 => .array .int
  | 7 => .array .int
  | 8 => .array .int
  | 9 => .int
  | 10 => .int
  | 11 => .int
  | _ => .int
abbrev wsX50 : List Cond := u_ws RX5 TX5 13
theorem nmX5 : ∀ a, a < 13 → ∀ b, b < 13 → a ≠ b → (TX5 a).2.1 ≠ (TX5 b).2.1 := by decide +kernel
theorem tyX5_ok : ∀ k, k < 13 → parseFieldDescriptor (TX5 k).2.2.1 = some (tyX5 k) := by decide +kernel
abbrev cX5_init : ByteArray := prog_7_method_1_code
def yX5_init : MethodName := ⟨RX5, "<init>", "()V"⟩
abbrev cX5_clear : ByteArray := prog_7_method_2_code
def yX5_clear : MethodName := ⟨RX5, "clear", "(II)V"⟩
abbrev cX5_addOpen : ByteArray := prog_7_method_3_code
def yX5_addOpen : MethodName := ⟨RX5, "addOpen", "(LSmallCourt$Claim;I)V"⟩
abbrev cX5_settle : ByteArray := prog_7_method_4_code
def yX5_settle : MethodName := ⟨RX5, "settle", "()I"⟩
abbrev cX5_leastFrom : ByteArray := prog_7_method_5_code
def yX5_leastFrom : MethodName := ⟨RX5, "leastFrom", "(I)I"⟩
abbrev cX5_tryFrom : ByteArray := prog_7_method_6_code
def yX5_tryFrom : MethodName := ⟨RX5, "tryFrom", "(IIII)V"⟩
abbrev cX5_keepIfBetter : ByteArray := prog_7_method_7_code
def yX5_keepIfBetter : MethodName := ⟨RX5, "keepIfBetter", "(II)V"⟩
def RX6 : String := "SmallCourt$Reader"
def TX6 : u_T := fun k => match k with
  | 0 => ("SmallCourt$Reader", "text", "[B", false)
  | 1 => ("SmallCourt$Reader", "length", "I", false)
  | 2 => ("SmallCourt$Reader", "at", "I", false)
  | 3 => ("SmallCourt$Reader", "fault", "I", false)
  | 4 => ("SmallCourt$Reader", "toldOnce", "I", false)
  | 5 => ("SmallCourt$Reader", "terms", "I", false)
  | _ => ("SmallCourt$Reader", "into", "LSmallCourt$Act;", false)
def tyX6 : Nat → FieldType := fun k => match k with
  | 0 => .array .byte
  | 1 => .int
  | 2 => .int
  | 3 => .int
  | 4 => .int
  | 5 => .int
  | _ => .object "SmallCourt$Act"
abbrev wsX60 : List Cond := u_ws RX6 TX6 7
theorem nmX6 : ∀ a, a < 7 → ∀ b, b < 7 → a ≠ b → (TX6 a).2.1 ≠ (TX6 b).2.1 := by decide +kernel
theorem tyX6_ok : ∀ k, k < 7 → parseFieldDescriptor (TX6 k).2.2.1 = some (tyX6 k) := by decide +kernel
abbrev cX6_init : ByteArray := prog_8_method_1_code
def yX6_init : MethodName := ⟨RX6, "<init>", "()V"⟩
abbrev cX6_readAct : ByteArray := prog_8_method_2_code
def yX6_readAct : MethodName := ⟨RX6, "readAct", "([BILSmallCourt$Act;)I"⟩
abbrev cX6_isAnotherClause : ByteArray := prog_8_method_3_code
def yX6_isAnotherClause : MethodName := ⟨RX6, "isAnotherClause", "()Z"⟩
abbrev cX6_readClause : ByteArray := prog_8_method_4_code
def yX6_readClause : MethodName := ⟨RX6, "readClause", "()Z"⟩
abbrev cX6_readCost : ByteArray := prog_8_method_5_code
def yX6_readCost : MethodName := ⟨RX6, "readCost", "()Z"⟩
abbrev cX6_tellOnce : ByteArray := prog_8_method_6_code
def yX6_tellOnce : MethodName := ⟨RX6, "tellOnce", "(II)Z"⟩
abbrev cX6_readTold : ByteArray := prog_8_method_7_code
def yX6_readTold : MethodName := ⟨RX6, "readTold", "(I)Z"⟩
abbrev cX6_readEither : ByteArray := prog_8_method_8_code
def yX6_readEither : MethodName := ⟨RX6, "readEither", "(I)Z"⟩
abbrev cX6_readOne : ByteArray := prog_8_method_9_code
def yX6_readOne : MethodName := ⟨RX6, "readOne", "(I)Z"⟩
abbrev cX6_readTerm : ByteArray := prog_8_method_10_code
def yX6_readTerm : MethodName := ⟨RX6, "readTerm", "()Z"⟩
abbrev cX6_readSign : ByteArray := prog_8_method_11_code
def yX6_readSign : MethodName := ⟨RX6, "readSign", "()I"⟩
abbrev cX6_readWord : ByteArray := prog_8_method_12_code
def yX6_readWord : MethodName := ⟨RX6, "readWord", "(Ljava/lang/String;)I"⟩
abbrev cX6_isNextWord : ByteArray := prog_8_method_13_code
def yX6_isNextWord : MethodName := ⟨RX6, "isNextWord", "(Ljava/lang/String;)Z"⟩
abbrev cX6_isSlot : ByteArray := prog_8_method_14_code
def yX6_isSlot : MethodName := ⟨RX6, "isSlot", "(Ljava/lang/String;II)Z"⟩
abbrev cX6_wordEnd : ByteArray := prog_8_method_15_code
def yX6_wordEnd : MethodName := ⟨RX6, "wordEnd", "()I"⟩
abbrev cX6_readNumber : ByteArray := prog_8_method_16_code
def yX6_readNumber : MethodName := ⟨RX6, "readNumber", "()I"⟩
abbrev cX6_isDigit : ByteArray := prog_8_method_17_code
def yX6_isDigit : MethodName := ⟨RX6, "isDigit", "(I)Z"⟩
abbrev cX6_isByte : ByteArray := prog_8_method_18_code
def yX6_isByte : MethodName := ⟨RX6, "isByte", "(C)Z"⟩
abbrev cX6_skipBlanks : ByteArray := prog_8_method_19_code
def yX6_skipBlanks : MethodName := ⟨RX6, "skipBlanks", "()V"⟩
abbrev cX6_refuse : ByteArray := prog_8_method_20_code
def yX6_refuse : MethodName := ⟨RX6, "refuse", "(II)Z"⟩
def RX7 : String := "SmallCourt$Rings"
def TX7 : u_T := fun k => match k with
  | 0 => ("SmallCourt$Rings", "count", "I", false)
  | 1 => ("SmallCourt$Rings", "bestLength", "I", false)
  | 2 => ("SmallCourt$Rings", "bestLeast", "I", false)
  | 3 => ("SmallCourt$Rings", "leasts", "[I", true)
  | 4 => ("SmallCourt$Rings", "size", "I", false)
  | 5 => ("SmallCourt$Rings", "owes", "[I", true)
  | 6 => ("SmallCourt$Rings", "ring", "[I", true)
  | _ => ("SmallCourt$Rings", "best", "[I", true)
def tyX7 : Nat → FieldType := fun k => match k with
  | 0 => .int
  | 1 => .int
  | 2 => .int
  | 3 => .array .int
  | 4 => .int
  | 5 => .array .int
  | 6 => .array .int
  | _ => .array .int
abbrev wsX70 : List Cond := u_ws RX7 TX7 8
theorem nmX7 : ∀ a, a < 8 → ∀ b, b < 8 → a ≠ b → (TX7 a).2.1 ≠ (TX7 b).2.1 := by decide +kernel
theorem tyX7_ok : ∀ k, k < 8 → parseFieldDescriptor (TX7 k).2.2.1 = some (tyX7 k) := by decide +kernel
abbrev cX7_init : ByteArray := prog_9_method_1_code
def yX7_init : MethodName := ⟨RX7, "<init>", "()V"⟩
abbrev cX7_clear : ByteArray := prog_9_method_2_code
def yX7_clear : MethodName := ⟨RX7, "clear", "(I)V"⟩
abbrev cX7_owe : ByteArray := prog_9_method_3_code
def yX7_owe : MethodName := ⟨RX7, "owe", "(III)V"⟩
abbrev cX7_findBest : ByteArray := prog_9_method_4_code
def yX7_findBest : MethodName := ⟨RX7, "findBest", "()Z"⟩
abbrev cX7_goOn : ByteArray := prog_9_method_5_code
def yX7_goOn : MethodName := ⟨RX7, "goOn", "(II)V"⟩
abbrev cX7_isInRing : ByteArray := prog_9_method_6_code
def yX7_isInRing : MethodName := ⟨RX7, "isInRing", "(II)Z"⟩
abbrev cX7_keepIfBetter : ByteArray := prog_9_method_7_code
def yX7_keepIfBetter : MethodName := ⟨RX7, "keepIfBetter", "(II)V"⟩
abbrev cX7_isDebt : ByteArray := prog_9_method_8_code
def yX7_isDebt : MethodName := ⟨RX7, "isDebt", "(ILSmallCourt$Claim;)Z"⟩
abbrev cX7_placeAfter : ByteArray := prog_9_method_9_code
def yX7_placeAfter : MethodName := ⟨RX7, "placeAfter", "(I)I"⟩
abbrev cX7_takeOff : ByteArray := prog_9_method_10_code
def yX7_takeOff : MethodName := ⟨RX7, "takeOff", "()V"⟩
def RX8 : String := "SmallCourt$Walk"
def TX8 : u_T := fun k => match k with
  | 0 => ("SmallCourt$Walk", "listed", "I", false)
  | 1 => ("SmallCourt$Walk", "walked", "I", false)
  | 2 => ("SmallCourt$Walk", "latest", "[I", true)
  | 3 => ("SmallCourt$Walk", "list", "[LSmallCourt$Claim;", true)
  | _ => ("SmallCourt$Walk", "left", "[I", true)
def tyX8 : Nat → FieldType := fun k => match k with
  | 0 => .int
  | 1 => .int
  | 2 => .array .int
  | 3 => .array (.object "SmallCourt$Claim")
  | _ => .array .int
abbrev wsX80 : List Cond := u_ws RX8 TX8 5
theorem nmX8 : ∀ a, a < 5 → ∀ b, b < 5 → a ≠ b → (TX8 a).2.1 ≠ (TX8 b).2.1 := by decide +kernel
theorem tyX8_ok : ∀ k, k < 5 → parseFieldDescriptor (TX8 k).2.2.1 = some (tyX8 k) := by decide +kernel
abbrev cX8_init : ByteArray := prog_10_method_1_code
def yX8_init : MethodName := ⟨RX8, "<init>", "()V"⟩
abbrev cX8_isListed : ByteArray := prog_10_method_2_code
def yX8_isListed : MethodName := ⟨RX8, "isListed", "(LSmallCourt$Claim;)Z"⟩
abbrev cX8_putOnList : ByteArray := prog_10_method_3_code
def yX8_putOnList : MethodName := ⟨RX8, "putOnList", "(LSmallCourt$Claim;)V"⟩
abbrev cX8_walkList : ByteArray := prog_10_method_4_code
def yX8_walkList : MethodName := ⟨RX8, "walkList", "()I"⟩
abbrev cX8_leastOn : ByteArray := prog_10_method_5_code
def yX8_leastOn : MethodName := ⟨RX8, "leastOn", "(II)I"⟩
abbrev cX8_retrace : ByteArray := prog_10_method_6_code
def yX8_retrace : MethodName := ⟨RX8, "retrace", "(I)V"⟩
abbrev cX8_firstOnWay : ByteArray := prog_10_method_7_code
def yX8_firstOnWay : MethodName := ⟨RX8, "firstOnWay", "(III)I"⟩
abbrev cX8_stepsBy : ByteArray := prog_10_method_8_code
def yX8_stepsBy : MethodName := ⟨RX8, "stepsBy", "(III)I"⟩
abbrev cX8_isIn : ByteArray := prog_10_method_9_code
def yX8_isIn : MethodName := ⟨RX8, "isIn", "(II)Z"⟩
abbrev cX8_fromCourt : ByteArray := prog_10_method_10_code
def yX8_fromCourt : MethodName := ⟨RX8, "fromCourt", "(I)I"⟩
abbrev cX8_between : ByteArray := prog_10_method_11_code
def yX8_between : MethodName := ⟨RX8, "between", "(LSmallCourt$Person;LSmallCourt$Person;)I"⟩
def RX9 : String := "SmallCourt"
def TX9 : u_T := fun k => match k with
  | 0 => ("SmallCourt", "tape", "[B", true)
  | 1 => ("SmallCourt", "tapeLength", "I", false)
  | 2 => ("SmallCourt", "now", "I", false)
  | 3 => ("SmallCourt", "reader", "LSmallCourt$Reader;", true)
  | 4 => ("SmallCourt", "without", "LSmallCourt$Act;", true)
  | 5 => ("SmallCourt", "acts", "[LSmallCourt$Act;", true)
  | 6 => ("SmallCourt", "actCount", "I", false)
  | 7 => ("SmallCourt", "persons", "[LSmallCourt$Person;", true)
  | 8 => ("SmallCourt", "personCount", "I", false)
  | 9 => ("SmallCourt", "books", "LSmallCourt$Books;", true)
  | 10 => ("SmallCourt", "claims", "[LSmallCourt$Claim;", true)
  | 11 => ("SmallCourt", "claimCount", "I", false)
  | 12 => ("SmallCourt", "heard", "[LSmallCourt$Claim;", true)
  | 13 => ("SmallCourt", "heardCount", "I", false)
  | 14 => ("SmallCourt", "payments", "LSmallCourt$Payments;", true)
  | 15 => ("SmallCourt", "fit", "[I", true)
  | 16 => ("SmallCourt", "rests", "[I", true)
  | 17 => ("SmallCourt", "planning", "LSmallCourt$Plan;", true)
  | 18 => ("SmallCourt", "rings", "LSmallCourt$Rings;", true)
  | _ => ("SmallCourt", "walking", "LSmallCourt$Walk;", true)
def tyX9 : Nat → FieldType := fun k => match k with
  | 0 => .array .byte
  | 1 => .int
  | 2 => .int
  | 3 => .object "SmallCourt$Reader"
  | 4 => .object "SmallCourt$Act"
  | 5 => .array (.object "SmallCourt$Act")
  | 6 => .int
  | 7 => .array (.object "SmallCourt$Person")
  | 8 => .int
  | 9 => .object "SmallCourt$Books"
  | 10 => .array (.object "SmallCourt$Claim")
  | 11 => .int
  | 12 => .array (.object "SmallCourt$Claim")
  | 13 => .int
  | 14 => .object "SmallCourt$Payments"
  | 15 => .array .int
  | 16 => .array .int
  | 17 => .object "SmallCourt$Plan"
  | 18 => .object "SmallCourt$Rings"
  | _ => .object "SmallCourt$Walk"
abbrev wsX90 : List Cond := u_ws RX9 TX9 20
theorem nmX9 : ∀ a, a < 20 → ∀ b, b < 20 → a ≠ b → (TX9 a).2.1 ≠ (TX9 b).2.1 := by decide +kernel
theorem tyX9_ok : ∀ k, k < 20 → parseFieldDescriptor (TX9 k).2.2.1 = some (tyX9 k) := by decide +kernel
abbrev cX9_init : ByteArray := prog_1_method_1_code
def yX9_init : MethodName := ⟨RX9, "<init>", "()V"⟩
abbrev cX9_clock : ByteArray := prog_1_method_2_code
def yX9_clock : MethodName := ⟨RX9, "clock", "(I)Z"⟩
abbrev cX9_feed : ByteArray := prog_1_method_3_code
def yX9_feed : MethodName := ⟨RX9, "feed", "(IIIII)I"⟩
abbrev cX9_feedBytes : ByteArray := prog_1_method_4_code
def yX9_feedBytes : MethodName := ⟨RX9, "feedBytes", "(I)V"⟩
abbrev cX9_end : ByteArray := prog_1_method_5_code
def yX9_end : MethodName := ⟨RX9, "end", "(I)I"⟩
abbrev cX9_act : ByteArray := prog_1_method_6_code
def yX9_act : MethodName := ⟨RX9, "act", "(I)I"⟩
abbrev cX9_force : ByteArray := prog_1_method_7_code
def yX9_force : MethodName := ⟨RX9, "force", "(II)I"⟩
abbrev cX9_inForce : ByteArray := prog_1_method_8_code
def yX9_inForce : MethodName := ⟨RX9, "inForce", "(I)LSmallCourt$Act;"⟩
abbrev cX9_person : ByteArray := prog_1_method_9_code
def yX9_person : MethodName := ⟨RX9, "person", "(IIIIII)I"⟩
abbrev cX9_anew : ByteArray := prog_1_method_10_code
def yX9_anew : MethodName := ⟨RX9, "anew", "(IIIII)Z"⟩
abbrev cX9_dies : ByteArray := prog_1_method_11_code
def yX9_dies : MethodName := ⟨RX9, "dies", "(I)Z"⟩
abbrev cX9_judge : ByteArray := prog_1_method_12_code
def yX9_judge : MethodName := ⟨RX9, "judge", "(IZ)Z"⟩
abbrev cX9_line : ByteArray := prog_1_method_13_code
def yX9_line : MethodName := ⟨RX9, "line", "(IIIII)I"⟩
abbrev cX9_book : ByteArray := prog_1_method_14_code
def yX9_book : MethodName := ⟨RX9, "book", "(IIII)I"⟩
abbrev cX9_file : ByteArray := prog_1_method_15_code
def yX9_file : MethodName := ⟨RX9, "file", "(IIIIZI)I"⟩
abbrev cX9_summons : ByteArray := prog_1_method_16_code
def yX9_summons : MethodName := ⟨RX9, "summons", "(IZ)I"⟩
abbrev cX9_hear : ByteArray := prog_1_method_17_code
def yX9_hear : MethodName := ⟨RX9, "hear", "(IZZI)I"⟩
abbrev cX9_drawBench : ByteArray := prog_1_method_18_code
def yX9_drawBench : MethodName := ⟨RX9, "drawBench", "(LSmallCourt$Claim;I)Z"⟩
abbrev cX9_judgement : ByteArray := prog_1_method_19_code
def yX9_judgement : MethodName := ⟨RX9, "judgement", "(LSmallCourt$Claim;LSmallCourt$Act;)I"⟩
abbrev cX9_sumOfSplit : ByteArray := prog_1_method_20_code
def yX9_sumOfSplit : MethodName := ⟨RX9, "sumOfSplit", "(LSmallCourt$Claim;LSmallCourt$Act;)I"⟩
abbrev cX9_order : ByteArray := prog_1_method_21_code
def yX9_order : MethodName := ⟨RX9, "order", "(II)I"⟩
abbrev cX9_openInstalments : ByteArray := prog_1_method_22_code
def yX9_openInstalments : MethodName := ⟨RX9, "openInstalments", "(LSmallCourt$Person;)I"⟩
abbrev cX9_pay : ByteArray := prog_1_method_23_code
def yX9_pay : MethodName := ⟨RX9, "pay", "(III)I"⟩
abbrev cX9_strike : ByteArray := prog_1_method_24_code
def yX9_strike : MethodName := ⟨RX9, "strike", "(I)Z"⟩
abbrev cX9_seize : ByteArray := prog_1_method_25_code
def yX9_seize : MethodName := ⟨RX9, "seize", "(II)I"⟩
abbrev cX9_gaol : ByteArray := prog_1_method_26_code
def yX9_gaol : MethodName := ⟨RX9, "gaol", "(I)I"⟩
abbrev cX9_claim : ByteArray := prog_1_method_27_code
def yX9_claim : MethodName := ⟨RX9, "claim", "(II)I"⟩
abbrev cX9_state : ByteArray := prog_1_method_28_code
def yX9_state : MethodName := ⟨RX9, "state", "(IIII)I"⟩
abbrev cX9_plan : ByteArray := prog_1_method_29_code
def yX9_plan : MethodName := ⟨RX9, "plan", "(II)I"⟩
abbrev cX9_planned : ByteArray := prog_1_method_30_code
def yX9_planned : MethodName := ⟨RX9, "planned", "(II)I"⟩
abbrev cX9_net : ByteArray := prog_1_method_31_code
def yX9_net : MethodName := ⟨RX9, "net", "()I"⟩
abbrev cX9_ringNeeds : ByteArray := prog_1_method_32_code
def yX9_ringNeeds : MethodName := ⟨RX9, "ringNeeds", "()I"⟩
abbrev cX9_takeOffRing : ByteArray := prog_1_method_33_code
def yX9_takeOffRing : MethodName := ⟨RX9, "takeOffRing", "()I"⟩
abbrev cX9_netted : ByteArray := prog_1_method_34_code
def yX9_netted : MethodName := ⟨RX9, "netted", "(I)I"⟩
abbrev cX9_list : ByteArray := prog_1_method_35_code
def yX9_list : MethodName := ⟨RX9, "list", "(I)I"⟩
abbrev cX9_walk : ByteArray := prog_1_method_36_code
def yX9_walk : MethodName := ⟨RX9, "walk", "()I"⟩
abbrev cX9_walked : ByteArray := prog_1_method_37_code
def yX9_walked : MethodName := ⟨RX9, "walked", "(I)I"⟩
abbrev cX9_habit : ByteArray := prog_1_method_38_code
def yX9_habit : MethodName := ⟨RX9, "habit", "(II)I"⟩
abbrev cX9_isBeyondDoubt : ByteArray := prog_1_method_39_code
def yX9_isBeyondDoubt : MethodName := ⟨RX9, "isBeyondDoubt", "(II)Z"⟩
abbrev cX9_other : ByteArray := prog_1_method_40_code
def yX9_other : MethodName := ⟨RX9, "other", "(II)I"⟩
abbrev cX9_count : ByteArray := prog_1_method_41_code
def yX9_count : MethodName := ⟨RX9, "count", "(I)I"⟩
abbrev cX9_livingJudges : ByteArray := prog_1_method_42_code
def yX9_livingJudges : MethodName := ⟨RX9, "livingJudges", "()I"⟩
abbrev cX9_personAt : ByteArray := prog_1_method_43_code
def yX9_personAt : MethodName := ⟨RX9, "personAt", "(I)LSmallCourt$Person;"⟩
abbrev cX9_claimAt : ByteArray := prog_1_method_44_code
def yX9_claimAt : MethodName := ⟨RX9, "claimAt", "(I)LSmallCourt$Claim;"⟩
abbrev cX9_areTwo : ByteArray := prog_1_method_45_code
def yX9_areTwo : MethodName := ⟨RX9, "areTwo", "(II)Z"⟩
abbrev cX9_isDay : ByteArray := prog_1_method_46_code
def yX9_isDay : MethodName := ⟨RX9, "isDay", "(I)Z"⟩
abbrev cX9_isHousehold : ByteArray := prog_1_method_47_code
def yX9_isHousehold : MethodName := ⟨RX9, "isHousehold", "(IIII)Z"⟩
abbrev cX9_isWithin : ByteArray := prog_1_method_48_code
def yX9_isWithin : MethodName := ⟨RX9, "isWithin", "(III)Z"⟩
abbrev cX9_roundUp : ByteArray := prog_1_method_49_code
def yX9_roundUp : MethodName := ⟨RX9, "roundUp", "(II)I"⟩
def RX10 : String := "SmallCourtModel"
def TX10 : u_T := fun k => match k with
  | 0 => ("SmallCourtModel", "now", "I", false)
  | 1 => ("SmallCourtModel", "acts", "I", false)
  | 2 => ("SmallCourtModel", "actDay", "[I", true)
  | 3 => ("SmallCourtModel", "rule", "[I", true)
  | 4 => ("SmallCourtModel", "proofSteps", "[I", true)
  | 5 => ("SmallCourtModel", "proof", "[I", true)
  | 6 => ("SmallCourtModel", "tape", "[B", true)
  | 7 => ("SmallCourtModel", "taped", "I", false)
  | 8 => ("SmallCourtModel", "next", "I", false)
  | 9 => ("SmallCourtModel", "fault", "I", false)
  | 10 => ("SmallCourtModel", "said", "I", false)
  | 11 => ("SmallCourtModel", "wordSize", "I", false)
  | 12 => ("SmallCourtModel", "read", "[I", true)
  | 13 => ("SmallCourtModel", "seen", "I", false)
  | 14 => ("SmallCourtModel", "steps", "I", false)
  | 15 => ("SmallCourtModel", "step", "[I", true)
  | 16 => ("SmallCourtModel", "compares", "I", false)
  | 17 => ("SmallCourtModel", "open", "[I", true)
  | 18 => ("SmallCourtModel", "opened", "I", false)
  | 19 => ("SmallCourtModel", "words", "[B", true)
  | 20 => ("SmallCourtModel", "persons", "I", false)
  | 21 => ("SmallCourtModel", "born", "[I", true)
  | 22 => ("SmallCourtModel", "earns", "[I", true)
  | 23 => ("SmallCourtModel", "heads", "[I", true)
  | 24 => ("SmallCourtModel", "doorX", "[I", true)
  | 25 => ("SmallCourtModel", "doorY", "[I", true)
  | 26 => ("SmallCourtModel", "kin", "[I", true)
  | 27 => ("SmallCourtModel", "isDead", "[Z", true)
  | 28 => ("SmallCourtModel", "isJudge", "[Z", true)
  | 29 => ("SmallCourtModel", "lines", "I", false)
  | 30 => ("SmallCourtModel", "lineOf", "[I", true)
  | 31 => ("SmallCourtModel", "lineWith", "[I", true)
  | 32 => ("SmallCourtModel", "lineDay", "[I", true)
  | 33 => ("SmallCourtModel", "lineKind", "[I", true)
  | 34 => ("SmallCourtModel", "lineSum", "[I", true)
  | 35 => ("SmallCourtModel", "isTwin", "[Z", true)
  | 36 => ("SmallCourtModel", "claims", "I", false)
  | 37 => ("SmallCourtModel", "by", "[I", true)
  | 38 => ("SmallCourtModel", "against", "[I", true)
  | 39 => ("SmallCourtModel", "sum", "[I", true)
  | 40 => ("SmallCourtModel", "owedFrom", "[I", true)
  | 41 => ("SmallCourtModel", "hasNote", "[Z", true)
  | 42 => ("SmallCourtModel", "witnesses", "[I", true)
  | 43 => ("SmallCourtModel", "filed", "[I", true)
  | 44 => ("SmallCourtModel", "place", "[I", true)
  | 45 => ("SmallCourtModel", "tries", "[I", true)
  | 46 => ("SmallCourtModel", "found", "[I", true)
  | 47 => ("SmallCourtModel", "heard", "[I", true)
  | 48 => ("SmallCourtModel", "ordered", "[I", true)
  | 49 => ("SmallCourtModel", "seized", "[I", true)
  | 50 => ("SmallCourtModel", "served", "[I", true)
  | 51 => ("SmallCourtModel", "judged", "[I", true)
  | 52 => ("SmallCourtModel", "bench", "[I", true)
  | 53 => ("SmallCourtModel", "fact", "[I", true)
  | 54 => ("SmallCourtModel", "weekly", "[I", true)
  | 55 => ("SmallCourtModel", "owed", "[I", true)
  | 56 => ("SmallCourtModel", "goods", "[I", true)
  | 57 => ("SmallCourtModel", "heardMany", "I", false)
  | 58 => ("SmallCourtModel", "heardOf", "[I", true)
  | 59 => ("SmallCourtModel", "payments", "I", false)
  | 60 => ("SmallCourtModel", "payOf", "[I", true)
  | 61 => ("SmallCourtModel", "payDay", "[I", true)
  | 62 => ("SmallCourtModel", "paySum", "[I", true)
  | 63 => ("SmallCourtModel", "payKnown", "[I", true)
  | 64 => ("SmallCourtModel", "payStruck", "[I", true)
  | 65 => ("SmallCourtModel", "sitting", "[I", true)
  | 66 => ("SmallCourtModel", "stack", "[Z", true)
  | 67 => ("SmallCourtModel", "isPaid", "I", false)
  | 68 => ("SmallCourtModel", "isRest", "I", false)
  | 69 => ("SmallCourtModel", "isOver", "I", false)
  | 70 => ("SmallCourtModel", "isMissed", "I", false)
  | 71 => ("SmallCourtModel", "isState", "I", false)
  | 72 => ("SmallCourtModel", "planMany", "I", false)
  | 73 => ("SmallCourtModel", "planClaim", "[I", true)
  | 74 => ("SmallCourtModel", "planWeekly", "[I", true)
  | 75 => ("SmallCourtModel", "few", "I", false)
  | 76 => ("SmallCourtModel", "fewOf", "[I", true)
  | 77 => ("SmallCourtModel", "fewRest", "[I", true)
  | 78 => ("SmallCourtModel", "fewLeast", "[I", true)
  | 79 => ("SmallCourtModel", "more", "[I", true)
  | 80 => ("SmallCourtModel", "bestMore", "[I", true)
  | 81 => ("SmallCourtModel", "planWeeks", "[I", true)
  | 82 => ("SmallCourtModel", "debt", "[I", true)
  | 83 => ("SmallCourtModel", "hasNetted", "Z", false)
  | 84 => ("SmallCourtModel", "ringMany", "I", false)
  | 85 => ("SmallCourtModel", "ringLeast", "[I", true)
  | 86 => ("SmallCourtModel", "bestLeast", "I", false)
  | 87 => ("SmallCourtModel", "bestSize", "I", false)
  | 88 => ("SmallCourtModel", "bestRing", "[I", true)
  | 89 => ("SmallCourtModel", "ring", "[I", true)
  | 90 => ("SmallCourtModel", "listed", "I", false)
  | 91 => ("SmallCourtModel", "list", "[I", true)
  | 92 => ("SmallCourtModel", "walkedMany", "I", false)
  | 93 => ("SmallCourtModel", "walked", "[I", true)
  | 94 => ("SmallCourtModel", "home", "[I", true)
  | 95 => ("SmallCourtModel", "habitMany", "I", false)
  | 96 => ("SmallCourtModel", "habitProved", "I", false)
  | _ => ("SmallCourtModel", "ways", "[J", true)
def tyX10 : Nat → FieldType := fun k => match k with
  | 0 => .int
  | 1 => .int
  | 2 => .array .int
  | 3 => .array .int
  | 4 => .array .int
  | 5 => .array .int
  | 6 => .array .byte
  | 7 => .int
  | 8 => .int
  | 9 => .int
  | 10 => .int
  | 11 => .int
  | 12 => .array .int
  | 13 => .int
  | 14 => .int
  | 15 => .array .int
  | 16 => .int
  | 17 => .array .int
  | 18 => .int
  | 19 => .array .byte
  | 20 => .int
  | 21 => .array .int
  | 22 => .array .int
  | 23 => .array .int
  | 24 => .array .int
  | 25 => .array .int
  | 26 => .array .int
  | 27 => .array .boolean
  | 28 => .array .boolean
  | 29 => .int
  | 30 => .array .int
  | 31 => .array .int
  | 32 => .array .int
  | 33 => .array .int
  | 34 => .array .int
  | 35 => .array .boolean
  | 36 => .int
  | 37 => .array .int
  | 38 => .array .int
  | 39 => .array .int
  | 40 => .array .int
  | 41 => .array .boolean
  | 42 => .array .int
  | 43 => .array .int
  | 44 => .array .int
  | 45 => .array .int
  | 46 => .array .int
  | 47 => .array .int
  | 48 => .array .int
  | 49 => .array .int
  | 50 => .array .int
  | 51 => .array .int
  | 52 => .array .int
  | 53 => .array .int
  | 54 => .array .int
  | 55 => .array .int
  | 56 => .array .int
  | 57 => .int
  | 58 => .array .int
  | 59 => .int
  | 60 => .array .int
  | 61 => .array .int
  | 62 => .array .int
  | 63 => .array .int
  | 64 => .array .int
  | 65 => .array .int
  | 66 => .array .boolean
  | 67 => .int
  | 68 => .int
  | 69 => .int
  | 70 => .int
  | 71 => .int
  | 72 => .int
  | 73 => .array .int
  | 74 => .array .int
  | 75 => .int
  | 76 => .array .int
  | 77 => .array .int
  | 78 => .array .int
  | 79 => .array .int
  | 80 => .array .int
  | 81 => .array .int
  | 82 => .array .int
  | 83 => .boolean
  | 84 => .int
  | 85 => .array .int
  | 86 => .int
  | 87 => .int
  | 88 => .array .int
  | 89 => .array .int
  | 90 => .int
  | 91 => .array .int
  | 92 => .int
  | 93 => .array .int
  | 94 => .array .int
  | 95 => .int
  | 96 => .int
  | _ => .array .long
abbrev wsX100 : List Cond := u_ws RX10 TX10 98
theorem nmX10 : ∀ a, a < 98 → ∀ b, b < 98 → a ≠ b → (TX10 a).2.1 ≠ (TX10 b).2.1 := by decide +kernel
theorem tyX10_ok : ∀ k, k < 98 → parseFieldDescriptor (TX10 k).2.2.1 = some (tyX10 k) := by decide +kernel
abbrev cX10_init : ByteArray := prog_12_method_1_code
def yX10_init : MethodName := ⟨RX10, "<init>", "()V"⟩
abbrev cX10_in : ByteArray := prog_12_method_2_code
def yX10_in : MethodName := ⟨RX10, "in", "(III)Z"⟩
abbrev cX10_isDay : ByteArray := prog_12_method_3_code
def yX10_isDay : MethodName := ⟨RX10, "isDay", "(I)Z"⟩
abbrev cX10_clock : ByteArray := prog_12_method_4_code
def yX10_clock : MethodName := ⟨RX10, "clock", "(I)Z"⟩
abbrev cX10_without : ByteArray := prog_12_method_5_code
def yX10_without : MethodName := ⟨RX10, "without", "(I)I"⟩
abbrev cX10_leastOf : ByteArray := prog_12_method_6_code
def yX10_leastOf : MethodName := ⟨RX10, "leastOf", "(I)I"⟩
abbrev cX10_mostOf : ByteArray := prog_12_method_7_code
def yX10_mostOf : MethodName := ⟨RX10, "mostOf", "(I)I"⟩
abbrev cX10_four : ByteArray := prog_12_method_8_code
def yX10_four : MethodName := ⟨RX10, "four", "(I)V"⟩
abbrev cX10_feed : ByteArray := prog_12_method_9_code
def yX10_feed : MethodName := ⟨RX10, "feed", "(IIIII)I"⟩
abbrev cX10_end : ByteArray := prog_12_method_10_code
def yX10_end : MethodName := ⟨RX10, "end", "(I)I"⟩
abbrev cX10_fails : ByteArray := prog_12_method_11_code
def yX10_fails : MethodName := ⟨RX10, "fails", "(II)Z"⟩
abbrev cX10_see : ByteArray := prog_12_method_12_code
def yX10_see : MethodName := ⟨RX10, "see", "()I"⟩
abbrev cX10_wordHere : ByteArray := prog_12_method_13_code
def yX10_wordHere : MethodName := ⟨RX10, "wordHere", "()I"⟩
abbrev cX10_number : ByteArray := prog_12_method_14_code
def yX10_number : MethodName := ⟨RX10, "number", "(II)Z"⟩
abbrev cX10_writes : ByteArray := prog_12_method_15_code
def yX10_writes : MethodName := ⟨RX10, "writes", "(I)V"⟩
abbrev cX10_deep : ByteArray := prog_12_method_16_code
def yX10_deep : MethodName := ⟨RX10, "deep", "()I"⟩
abbrev cX10_isFact : ByteArray := prog_12_method_17_code
def yX10_isFact : MethodName := ⟨RX10, "isFact", "(I)Z"⟩
abbrev cX10_compareOf : ByteArray := prog_12_method_18_code
def yX10_compareOf : MethodName := ⟨RX10, "compareOf", "(III)I"⟩
abbrev cX10_compare : ByteArray := prog_12_method_19_code
def yX10_compare : MethodName := ⟨RX10, "compare", "(I)Z"⟩
abbrev cX10_begins : ByteArray := prog_12_method_20_code
def yX10_begins : MethodName := ⟨RX10, "begins", "()Z"⟩
abbrev cX10_closesNots : ByteArray := prog_12_method_21_code
def yX10_closesNots : MethodName := ⟨RX10, "closesNots", "()V"⟩
abbrev cX10_closesDown : ByteArray := prog_12_method_22_code
def yX10_closesDown : MethodName := ⟨RX10, "closesDown", "(I)V"⟩
abbrev cX10_clears : ByteArray := prog_12_method_23_code
def yX10_clears : MethodName := ⟨RX10, "clears", "()V"⟩
abbrev cX10_withoutProof : ByteArray := prog_12_method_24_code
def yX10_withoutProof : MethodName := ⟨RX10, "withoutProof", "()V"⟩
abbrev cX10_keepsProof : ByteArray := prog_12_method_25_code
def yX10_keepsProof : MethodName := ⟨RX10, "keepsProof", "(I)V"⟩
abbrev cX10_either : ByteArray := prog_12_method_26_code
def yX10_either : MethodName := ⟨RX10, "either", "()Z"⟩
abbrev cX10_isNew : ByteArray := prog_12_method_27_code
def yX10_isNew : MethodName := ⟨RX10, "isNew", "(II)Z"⟩
abbrev cX10_clause : ByteArray := prog_12_method_28_code
def yX10_clause : MethodName := ⟨RX10, "clause", "()Z"⟩
abbrev cX10_act : ByteArray := prog_12_method_29_code
def yX10_act : MethodName := ⟨RX10, "act", "(I)I"⟩
abbrev cX10_inForce : ByteArray := prog_12_method_30_code
def yX10_inForce : MethodName := ⟨RX10, "inForce", "(I)I"⟩
abbrev cX10_ruleOf : ByteArray := prog_12_method_31_code
def yX10_ruleOf : MethodName := ⟨RX10, "ruleOf", "(II)I"⟩
abbrev cX10_force : ByteArray := prog_12_method_32_code
def yX10_force : MethodName := ⟨RX10, "force", "(II)I"⟩
abbrev cX10_isPerson : ByteArray := prog_12_method_33_code
def yX10_isPerson : MethodName := ⟨RX10, "isPerson", "(I)Z"⟩
abbrev cX10_areLives : ByteArray := prog_12_method_34_code
def yX10_areLives : MethodName := ⟨RX10, "areLives", "(IIII)Z"⟩
abbrev cX10_person : ByteArray := prog_12_method_35_code
def yX10_person : MethodName := ⟨RX10, "person", "(IIIIII)I"⟩
abbrev cX10_lives : ByteArray := prog_12_method_36_code
def yX10_lives : MethodName := ⟨RX10, "lives", "(IIIII)V"⟩
abbrev cX10_anew : ByteArray := prog_12_method_37_code
def yX10_anew : MethodName := ⟨RX10, "anew", "(IIIII)Z"⟩
abbrev cX10_dies : ByteArray := prog_12_method_38_code
def yX10_dies : MethodName := ⟨RX10, "dies", "(I)Z"⟩
abbrev cX10_judge : ByteArray := prog_12_method_39_code
def yX10_judge : MethodName := ⟨RX10, "judge", "(IZ)Z"⟩
abbrev cX10_line : ByteArray := prog_12_method_40_code
def yX10_line : MethodName := ⟨RX10, "line", "(IIIII)I"⟩
abbrev cX10_bookSum : ByteArray := prog_12_method_41_code
def yX10_bookSum : MethodName := ⟨RX10, "bookSum", "(III)I"⟩
abbrev cX10_disorder : ByteArray := prog_12_method_42_code
def yX10_disorder : MethodName := ⟨RX10, "disorder", "(I)I"⟩
abbrev cX10_areTwins : ByteArray := prog_12_method_43_code
def yX10_areTwins : MethodName := ⟨RX10, "areTwins", "(II)Z"⟩
abbrev cX10_alike : ByteArray := prog_12_method_44_code
def yX10_alike : MethodName := ⟨RX10, "alike", "(III)I"⟩
abbrev cX10_book : ByteArray := prog_12_method_45_code
def yX10_book : MethodName := ⟨RX10, "book", "(IIII)I"⟩
abbrev cX10_isClaim : ByteArray := prog_12_method_46_code
def yX10_isClaim : MethodName := ⟨RX10, "isClaim", "(I)Z"⟩
abbrev cX10_file : ByteArray := prog_12_method_47_code
def yX10_file : MethodName := ⟨RX10, "file", "(IIIIZI)I"⟩
abbrev cX10_summons : ByteArray := prog_12_method_48_code
def yX10_summons : MethodName := ⟨RX10, "summons", "(IZ)I"⟩
abbrev cX10_isKinOf : ByteArray := prog_12_method_49_code
def yX10_isKinOf : MethodName := ⟨RX10, "isKinOf", "(II)Z"⟩
abbrev cX10_isSo : ByteArray := prog_12_method_50_code
def yX10_isSo : MethodName := ⟨RX10, "isSo", "(II)Z"⟩
abbrev cX10_isProved : ByteArray := prog_12_method_51_code
def yX10_isProved : MethodName := ⟨RX10, "isProved", "(II)Z"⟩
abbrev cX10_isSplit : ByteArray := prog_12_method_52_code
def yX10_isSplit : MethodName := ⟨RX10, "isSplit", "(II)Z"⟩
abbrev cX10_judges : ByteArray := prog_12_method_53_code
def yX10_judges : MethodName := ⟨RX10, "judges", "(II)I"⟩
abbrev cX10_sits : ByteArray := prog_12_method_54_code
def yX10_sits : MethodName := ⟨RX10, "sits", "(I)I"⟩
abbrev cX10_draws : ByteArray := prog_12_method_55_code
def yX10_draws : MethodName := ⟨RX10, "draws", "(III)V"⟩
abbrev cX10_hear : ByteArray := prog_12_method_56_code
def yX10_hear : MethodName := ⟨RX10, "hear", "(IZZI)I"⟩
abbrev cX10_looks : ByteArray := prog_12_method_57_code
def yX10_looks : MethodName := ⟨RX10, "looks", "(III)V"⟩
abbrev cX10_isOpen : ByteArray := prog_12_method_58_code
def yX10_isOpen : MethodName := ⟨RX10, "isOpen", "(I)Z"⟩
abbrev cX10_means : ByteArray := prog_12_method_59_code
def yX10_means : MethodName := ⟨RX10, "means", "(II)I"⟩
abbrev cX10_order : ByteArray := prog_12_method_60_code
def yX10_order : MethodName := ⟨RX10, "order", "(II)I"⟩
abbrev cX10_pays : ByteArray := prog_12_method_61_code
def yX10_pays : MethodName := ⟨RX10, "pays", "(III)I"⟩
abbrev cX10_pay : ByteArray := prog_12_method_62_code
def yX10_pay : MethodName := ⟨RX10, "pay", "(III)I"⟩
abbrev cX10_strike : ByteArray := prog_12_method_63_code
def yX10_strike : MethodName := ⟨RX10, "strike", "(I)Z"⟩
abbrev cX10_seize : ByteArray := prog_12_method_64_code
def yX10_seize : MethodName := ⟨RX10, "seize", "(II)I"⟩
abbrev cX10_gaol : ByteArray := prog_12_method_65_code
def yX10_gaol : MethodName := ⟨RX10, "gaol", "(I)I"⟩
abbrev cX10_claim : ByteArray := prog_12_method_66_code
def yX10_claim : MethodName := ⟨RX10, "claim", "(II)I"⟩
abbrev cX10_state : ByteArray := prog_12_method_67_code
def yX10_state : MethodName := ⟨RX10, "state", "(IIII)I"⟩
abbrev cX10_weeksOf : ByteArray := prog_12_method_68_code
def yX10_weeksOf : MethodName := ⟨RX10, "weeksOf", "(III)I"⟩
abbrev cX10_plan : ByteArray := prog_12_method_69_code
def yX10_plan : MethodName := ⟨RX10, "plan", "(II)I"⟩
abbrev cX10_planned : ByteArray := prog_12_method_70_code
def yX10_planned : MethodName := ⟨RX10, "planned", "(II)I"⟩
abbrev cX10_debts : ByteArray := prog_12_method_71_code
def yX10_debts : MethodName := ⟨RX10, "debts", "()V"⟩
abbrev cX10_offers : ByteArray := prog_12_method_72_code
def yX10_offers : MethodName := ⟨RX10, "offers", "(II)V"⟩
abbrev cX10_lesser : ByteArray := prog_12_method_73_code
def yX10_lesser : MethodName := ⟨RX10, "lesser", "(II)I"⟩
abbrev cX10_finds : ByteArray := prog_12_method_74_code
def yX10_finds : MethodName := ⟨RX10, "finds", "()V"⟩
abbrev cX10_takes : ByteArray := prog_12_method_75_code
def yX10_takes : MethodName := ⟨RX10, "takes", "(IIIZ)I"⟩
abbrev cX10_net : ByteArray := prog_12_method_76_code
def yX10_net : MethodName := ⟨RX10, "net", "()I"⟩
abbrev cX10_netted : ByteArray := prog_12_method_77_code
def yX10_netted : MethodName := ⟨RX10, "netted", "(I)I"⟩
abbrev cX10_list : ByteArray := prog_12_method_78_code
def yX10_list : MethodName := ⟨RX10, "list", "(I)I"⟩
abbrev cX10_stepsBetween : ByteArray := prog_12_method_79_code
def yX10_stepsBetween : MethodName := ⟨RX10, "stepsBetween", "(IIII)I"⟩
abbrev cX10_far : ByteArray := prog_12_method_80_code
def yX10_far : MethodName := ⟨RX10, "far", "(II)I"⟩
abbrev cX10_walk : ByteArray := prog_12_method_81_code
def yX10_walk : MethodName := ⟨RX10, "walk", "()I"⟩
abbrev cX10_walked : ByteArray := prog_12_method_82_code
def yX10_walked : MethodName := ⟨RX10, "walked", "(I)I"⟩
abbrev cX10_habits : ByteArray := prog_12_method_83_code
def yX10_habits : MethodName := ⟨RX10, "habits", "(I)V"⟩
abbrev cX10_isRare : ByteArray := prog_12_method_84_code
def yX10_isRare : MethodName := ⟨RX10, "isRare", "(II)Z"⟩
abbrev cX10_habit : ByteArray := prog_12_method_85_code
def yX10_habit : MethodName := ⟨RX10, "habit", "(II)I"⟩
abbrev cX10_other : ByteArray := prog_12_method_86_code
def yX10_other : MethodName := ⟨RX10, "other", "(II)I"⟩
abbrev cX10_count : ByteArray := prog_12_method_87_code
def yX10_count : MethodName := ⟨RX10, "count", "(I)I"⟩
def RJ9 : String := "java/lang/Math"
def TJ9 : u_T := fun k => match k with
  | _ => ("", "", "", false)
def tyJ9 : Nat → FieldType := fun k => match k with
  | _ => .int
abbrev wsJ90 : List Cond := u_ws RJ9 TJ9 0
theorem nmJ9 : ∀ a, a < 0 → ∀ b, b < 0 → a ≠ b → (TJ9 a).2.1 ≠ (TJ9 b).2.1 := by decide +kernel
theorem tyJ9_ok : ∀ k, k < 0 → parseFieldDescriptor (TJ9 k).2.2.1 = some (tyJ9 k) := by decide +kernel
abbrev cJ9_abs_0f7a4 : ByteArray := prog_13_method_59_code
def yJ9_abs_0f7a4 : MethodName := ⟨RJ9, "abs", "(I)I"⟩
abbrev cJ9_max_7cf53 : ByteArray := prog_13_method_65_code
def yJ9_max_7cf53 : MethodName := ⟨RJ9, "max", "(II)I"⟩
abbrev cJ9_min_7cf53 : ByteArray := prog_13_method_69_code
def yJ9_min_7cf53 : MethodName := ⟨RJ9, "min", "(II)I"⟩
def RJ0 : String := "java/lang/String"
def TJ0 : u_T := fun k => match k with
  | _ => ("", "", "", false)
def tyJ0 : Nat → FieldType := fun k => match k with
  | _ => .int
abbrev wsJ00 : List Cond := u_ws RJ0 TJ0 0
theorem nmJ0 : ∀ a, a < 0 → ∀ b, b < 0 → a ≠ b → (TJ0 a).2.1 ≠ (TJ0 b).2.1 := by decide +kernel
theorem tyJ0_ok : ∀ k, k < 0 → parseFieldDescriptor (TJ0 k).2.2.1 = some (tyJ0 k) := by decide +kernel
abbrev cJ0_length_8abf5 : ByteArray := prog_14_method_54_code
def yJ0_length_8abf5 : MethodName := ⟨RJ0, "length", "()I"⟩
abbrev cJ0_charAt_5068e : ByteArray := prog_14_method_56_code
def yJ0_charAt_5068e : MethodName := ⟨RJ0, "charAt", "(I)C"⟩
abbrev cJ0_coder_7d493 : ByteArray := prog_14_method_152_code
def yJ0_coder_7d493 : MethodName := ⟨RJ0, "coder", "()B"⟩
abbrev cJ0_isLatin1_aae02 : ByteArray := prog_14_method_154_code
def yJ0_isLatin1_aae02 : MethodName := ⟨RJ0, "isLatin1", "()Z"⟩
abbrev cJ0_checkIndex_df160 : ByteArray := prog_14_method_155_code
def yJ0_checkIndex_df160 : MethodName := ⟨RJ0, "checkIndex", "(II)V"⟩
def RJ1 : String := "java/lang/StringLatin1"
def TJ1 : u_T := fun k => match k with
  | _ => ("", "", "", false)
def tyJ1 : Nat → FieldType := fun k => match k with
  | _ => .int
abbrev wsJ10 : List Cond := u_ws RJ1 TJ1 0
theorem nmJ1 : ∀ a, a < 0 → ∀ b, b < 0 → a ≠ b → (TJ1 a).2.1 ≠ (TJ1 b).2.1 := by decide +kernel
theorem tyJ1_ok : ∀ k, k < 0 → parseFieldDescriptor (TJ1 k).2.2.1 = some (tyJ1 k) := by decide +kernel
abbrev cJ1_charAt_3b067 : ByteArray := prog_15_method_2_code
def yJ1_charAt_3b067 : MethodName := ⟨RJ1, "charAt", "([BI)C"⟩
def RJ2 : String := "java/lang/StringUTF16"
def TJ2 : u_T := fun k => match k with
  | _ => ("", "", "", false)
def tyJ2 : Nat → FieldType := fun k => match k with
  | _ => .int
abbrev wsJ20 : List Cond := u_ws RJ2 TJ2 0
theorem nmJ2 : ∀ a, a < 0 → ∀ b, b < 0 → a ≠ b → (TJ2 a).2.1 ≠ (TJ2 b).2.1 := by decide +kernel
theorem tyJ2_ok : ∀ k, k < 0 → parseFieldDescriptor (TJ2 k).2.2.1 = some (tyJ2 k) := by decide +kernel
abbrev cJ2_getChar_3b067 : ByteArray := prog_16_method_5_code
def yJ2_getChar_3b067 : MethodName := ⟨RJ2, "getChar", "([BI)C"⟩
abbrev cJ2_length_9d52b : ByteArray := prog_16_method_6_code
def yJ2_length_9d52b : MethodName := ⟨RJ2, "length", "([B)I"⟩
abbrev cJ2_charAt_3b067 : ByteArray := prog_16_method_83_code
def yJ2_charAt_3b067 : MethodName := ⟨RJ2, "charAt", "([BI)C"⟩
abbrev cJ2_checkIndex_2214a : ByteArray := prog_16_method_91_code
def yJ2_checkIndex_2214a : MethodName := ⟨RJ2, "checkIndex", "(I[B)V"⟩
def RJ10 : String := "java/lang/System"
def TJ10 : u_T := fun k => match k with
  | _ => ("", "", "", false)
def tyJ10 : Nat → FieldType := fun k => match k with
  | _ => .int
abbrev wsJ100 : List Cond := u_ws RJ10 TJ10 0
theorem nmJ10 : ∀ a, a < 0 → ∀ b, b < 0 → a ≠ b → (TJ10 a).2.1 ≠ (TJ10 b).2.1 := by decide +kernel
theorem tyJ10_ok : ∀ k, k < 0 → parseFieldDescriptor (TJ10 k).2.2.1 = some (tyJ10 k) := by decide +kernel
def RJ3 : String := "jdk/internal/util/Preconditions"
def TJ3 : u_T := fun k => match k with
  | _ => ("", "", "", false)
def tyJ3 : Nat → FieldType := fun k => match k with
  | _ => .int
abbrev wsJ30 : List Cond := u_ws RJ3 TJ3 0
theorem nmJ3 : ∀ a, a < 0 → ∀ b, b < 0 → a ≠ b → (TJ3 a).2.1 ≠ (TJ3 b).2.1 := by decide +kernel
theorem tyJ3_ok : ∀ k, k < 0 → parseFieldDescriptor (TJ3 k).2.2.1 = some (tyJ3 k) := by decide +kernel
abbrev cJ3_checkIndex_8e157 : ByteArray := prog_18_method_11_code
def yJ3_checkIndex_8e157 : MethodName := ⟨RJ3, "checkIndex", "(IILjava/util/function/BiFunction;)I"⟩
def RL : String := "SmallCourtLaw"
abbrev cL_law : ByteArray := code
def yL_law : MethodName := ⟨RL, "law", "([I)Z"⟩
abbrev vwCl : List vw_C := [(RX0, TX0, 5), (RX1, TX1, 8), (RX2, TX2, 19), (RX3, TX3, 6), (RX4, TX4, 10), (RX5, TX5, 13), (RX6, TX6, 7), (RX7, TX7, 8), (RX8, TX8, 5), (RX9, TX9, 20), (RX10, TX10, 98)]
end
section
/-! THE STATE: tags, the tables of the classes -/
def P_ty (dA : Nat → ClassId) : hx_y := [(dA 0, .int), (dA 1, .byte), (dA 2, .boolean), (dA 3, .long), (dA 4, .object "SmallCourt$Act"), (dA 5, .object "SmallCourt$Person"), (dA 6, .object "SmallCourt$Claim")]
def P_f0 : List hx_f := [.inl (-2147483648, 2147483647), .inl (-2147483648, 2147483647), .inr (false, []), .inr (false, []), .inl (-2147483648, 2147483647)]
def P_f1 : List hx_f := [.inl (-2147483648, 2147483647), .inr (false, []), .inr (false, []), .inr (false, []), .inr (false, []), .inr (false, []), .inr (false, []), .inr (false, [])]
def P_f2 : List hx_f := [.inl (-2147483648, 2147483647), .inr (false, []), .inr (false, []), .inr (false, []), .inr (false, []), .inr (false, []), .inl (-2147483648, 2147483647), .inl (-2147483648, 2147483647), .inl (-2147483648, 2147483647), .inl (-2147483648, 2147483647), .inl (-2147483648, 2147483647), .inl (-2147483648, 2147483647), .inl (-2147483648, 2147483647), .inl (-2147483648, 2147483647), .inl (-2147483648, 2147483647), .inl (-2147483648, 2147483647), .inl (-2147483648, 2147483647), .inl (-2147483648, 2147483647), .inl (-2147483648, 2147483647)]
def P_f3 : List hx_f := [.inl (-2147483648, 2147483647), .inr (false, []), .inr (false, []), .inr (false, []), .inr (false, []), .inr (false, [])]
def P_f4 : List hx_f := [.inl (-2147483648, 2147483647), .inl (-2147483648, 2147483647), .inl (-2147483648, 2147483647), .inl (-2147483648, 2147483647), .inl (-2147483648, 2147483647), .inl (-2147483648, 2147483647), .inl (-2147483648, 2147483647), .inl (-2147483648, 2147483647), .inl (-2147483648, 2147483647), .inl (-2147483648, 2147483647)]
def P_f5 : List hx_f := [.inl (-2147483648, 2147483647), .inl (-2147483648, 2147483647), .inr (false, []), .inr (false, []), .inr (false, []), .inr (false, []), .inr (false, []), .inr (false, []), .inr (false, []), .inl (-2147483648, 2147483647), .inl (-2147483648, 2147483647), .inl (-2147483648, 2147483647), .inl (-2147483648, 2147483647)]
def P_f6 : List hx_f := [.inr (false, []), .inl (-2147483648, 2147483647), .inl (-2147483648, 2147483647), .inl (-2147483648, 2147483647), .inl (-2147483648, 2147483647), .inl (-2147483648, 2147483647), .inr (false, [])]
def P_f7 : List hx_f := [.inl (-2147483648, 2147483647), .inl (-2147483648, 2147483647), .inl (-2147483648, 2147483647), .inr (false, []), .inl (-2147483648, 2147483647), .inr (false, []), .inr (false, []), .inr (false, [])]
def P_f8 : List hx_f := [.inl (-2147483648, 2147483647), .inl (-2147483648, 2147483647), .inr (false, []), .inr (false, []), .inr (false, [])]
def P_f9 : List hx_f := [.inr (false, []), .inl (-2147483648, 2147483647), .inl (-2147483648, 2147483647), .inr (false, []), .inr (false, []), .inr (false, []), .inl (-2147483648, 2147483647), .inr (false, []), .inl (-2147483648, 2147483647), .inr (false, []), .inr (false, []), .inl (-2147483648, 2147483647), .inr (false, []), .inl (-2147483648, 2147483647), .inr (false, []), .inr (false, []), .inr (false, []), .inr (false, []), .inr (false, []), .inr (false, [])]
def P_f10 : List hx_f := [.inl (-2147483648, 2147483647), .inl (-2147483648, 2147483647), .inr (false, []), .inr (false, []), .inr (false, []), .inr (false, []), .inr (false, []), .inl (-2147483648, 2147483647), .inl (-2147483648, 2147483647), .inl (-2147483648, 2147483647), .inl (-2147483648, 2147483647), .inl (-2147483648, 2147483647), .inr (false, []), .inl (-2147483648, 2147483647), .inl (-2147483648, 2147483647), .inr (false, []), .inl (-2147483648, 2147483647), .inr (false, []), .inl (-2147483648, 2147483647), .inr (false, []), .inl (-2147483648, 2147483647), .inr (false, []), .inr (false, []), .inr (false, []), .inr (false, []), .inr (false, []), .inr (false, []), .inr (false, []), .inr (false, []), .inl (-2147483648, 2147483647), .inr (false, []), .inr (false, []), .inr (false, []), .inr (false, []), .inr (false, []), .inr (false, []), .inl (-2147483648, 2147483647), .inr (false, []), .inr (false, []), .inr (false, []), .inr (false, []), .inr (false, []), .inr (false, []), .inr (false, []), .inr (false, []), .inr (false, []), .inr (false, []), .inr (false, []), .inr (false, []), .inr (false, []), .inr (false, []), .inr (false, []), .inr (false, []), .inr (false, []), .inr (false, []), .inr (false, []), .inr (false, []), .inl (-2147483648, 2147483647), .inr (false, []), .inl (-2147483648, 2147483647), .inr (false, []), .inr (false, []), .inr (false, []), .inr (false, []), .inr (false, []), .inr (false, []), .inr (false, []), .inl (-2147483648, 2147483647), .inl (-2147483648, 2147483647), .inl (-2147483648, 2147483647), .inl (-2147483648, 2147483647), .inl (-2147483648, 2147483647), .inl (-2147483648, 2147483647), .inr (false, []), .inr (false, []), .inl (-2147483648, 2147483647), .inr (false, []), .inr (false, []), .inr (false, []), .inr (false, []), .inr (false, []), .inr (false, []), .inr (false, []), .inl (-2147483648, 2147483647), .inl (-2147483648, 2147483647), .inr (false, []), .inl (-2147483648, 2147483647), .inl (-2147483648, 2147483647), .inr (false, []), .inr (false, []), .inl (-2147483648, 2147483647), .inr (false, []), .inl (-2147483648, 2147483647), .inr (false, []), .inr (false, []), .inl (-2147483648, 2147483647), .inl (-2147483648, 2147483647), .inr (false, [])]
def P_tb : List hx_d := [.inl (0, P_f0), .inl (1, P_f1), .inl (2, P_f2), .inl (3, P_f3), .inl (4, P_f4), .inl (5, P_f5), .inl (6, P_f6), .inl (7, P_f7), .inl (8, P_f8), .inl (9, P_f9), .inl (10, P_f10), .inr (0, 14, .inl (-2147483648, 2147483647)), .inr (0, 160, .inl (-2147483648, 2147483647)), .inr (0, 400, .inl (-2147483648, 2147483647)), .inr (0, 400, .inl (-2147483648, 2147483647)), .inr (0, 400, .inl (-2147483648, 2147483647)), .inr (0, 400, .inl (-2147483648, 2147483647)), .inr (0, 400, .inl (-2147483648, 2147483647)), .inr (0, 400, .inl (-2147483648, 2147483647)), .inr (2, 400, .inl (-2147483648, 2147483647)), .inr (0, 8, .inl (-2147483648, 2147483647)), .inr (0, 3, .inl (-2147483648, 2147483647)), .inr (0, 600, .inl (-2147483648, 2147483647)), .inr (0, 600, .inl (-2147483648, 2147483647)), .inr (0, 600, .inl (-2147483648, 2147483647)), .inr (0, 600, .inl (-2147483648, 2147483647)), .inr (0, 600, .inl (-2147483648, 2147483647)), .inr (0, 4, .inl (-2147483648, 2147483647)), .inr (0, 4, .inl (-2147483648, 2147483647)), .inr (0, 4, .inl (-2147483648, 2147483647)), .inr (0, 4, .inl (-2147483648, 2147483647)), .inr (0, 4, .inl (-2147483648, 2147483647)), .inr (0, 4, .inl (-2147483648, 2147483647)), .inr (0, 4, .inl (-2147483648, 2147483647)), .inr (1, 0, .inl (-2147483648, 2147483647)), .inr (0, 100, .inl (-2147483648, 2147483647)), .inr (0, 1600, .inl (-2147483648, 2147483647)), .inr (0, 4, .inl (-2147483648, 2147483647)), .inr (0, 4, .inl (-2147483648, 2147483647)), .inr (0, 8, .inl (-2147483648, 2147483647)), .inr (6, 8, .inr (false, [])), .inr (0, 2048, .inl (-2147483648, 2147483647)), .inr (1, 400, .inl (-2147483648, 2147483647)), .inr (4, 8, .inr (false, [])), .inr (5, 40, .inr (false, [])), .inr (6, 100, .inr (false, [])), .inr (6, 100, .inr (false, [])), .inr (0, 40, .inl (-2147483648, 2147483647)), .inr (0, 100, .inl (-2147483648, 2147483647)), .inr (0, 9, .inl (-2147483648, 2147483647)), .inr (0, 117, .inl (-2147483648, 2147483647)), .inr (0, 9, .inl (-2147483648, 2147483647)), .inr (0, 1152, .inl (-2147483648, 2147483647)), .inr (1, 400, .inl (-2147483648, 2147483647)), .inr (0, 13, .inl (-2147483648, 2147483647)), .inr (0, 128, .inl (-2147483648, 2147483647)), .inr (0, 128, .inl (-2147483648, 2147483647)), .inr (1, 175, .inl (-2147483648, 2147483647)), .inr (0, 40, .inl (-2147483648, 2147483647)), .inr (0, 40, .inl (-2147483648, 2147483647)), .inr (0, 40, .inl (-2147483648, 2147483647)), .inr (0, 40, .inl (-2147483648, 2147483647)), .inr (0, 40, .inl (-2147483648, 2147483647)), .inr (0, 40, .inl (-2147483648, 2147483647)), .inr (2, 40, .inl (-2147483648, 2147483647)), .inr (2, 40, .inl (-2147483648, 2147483647)), .inr (0, 400, .inl (-2147483648, 2147483647)), .inr (0, 400, .inl (-2147483648, 2147483647)), .inr (0, 400, .inl (-2147483648, 2147483647)), .inr (0, 400, .inl (-2147483648, 2147483647)), .inr (0, 400, .inl (-2147483648, 2147483647)), .inr (2, 400, .inl (-2147483648, 2147483647)), .inr (0, 100, .inl (-2147483648, 2147483647)), .inr (0, 100, .inl (-2147483648, 2147483647)), .inr (0, 100, .inl (-2147483648, 2147483647)), .inr (0, 100, .inl (-2147483648, 2147483647)), .inr (2, 100, .inl (-2147483648, 2147483647)), .inr (0, 100, .inl (-2147483648, 2147483647)), .inr (0, 100, .inl (-2147483648, 2147483647)), .inr (0, 100, .inl (-2147483648, 2147483647)), .inr (0, 100, .inl (-2147483648, 2147483647)), .inr (0, 100, .inl (-2147483648, 2147483647)), .inr (0, 100, .inl (-2147483648, 2147483647)), .inr (0, 100, .inl (-2147483648, 2147483647)), .inr (0, 100, .inl (-2147483648, 2147483647)), .inr (0, 100, .inl (-2147483648, 2147483647)), .inr (0, 100, .inl (-2147483648, 2147483647)), .inr (0, 300, .inl (-2147483648, 2147483647)), .inr (0, 800, .inl (-2147483648, 2147483647)), .inr (0, 100, .inl (-2147483648, 2147483647)), .inr (0, 100, .inl (-2147483648, 2147483647)), .inr (0, 100, .inl (-2147483648, 2147483647)), .inr (0, 100, .inl (-2147483648, 2147483647)), .inr (0, 600, .inl (-2147483648, 2147483647)), .inr (0, 600, .inl (-2147483648, 2147483647)), .inr (0, 600, .inl (-2147483648, 2147483647)), .inr (0, 600, .inl (-2147483648, 2147483647)), .inr (0, 600, .inl (-2147483648, 2147483647)), .inr (0, 40, .inl (-2147483648, 2147483647)), .inr (2, 128, .inl (-2147483648, 2147483647)), .inr (0, 4, .inl (-2147483648, 2147483647)), .inr (0, 4, .inl (-2147483648, 2147483647)), .inr (0, 4, .inl (-2147483648, 2147483647)), .inr (0, 4, .inl (-2147483648, 2147483647)), .inr (0, 4, .inl (-2147483648, 2147483647)), .inr (0, 4, .inl (-2147483648, 2147483647)), .inr (0, 4, .inl (-2147483648, 2147483647)), .inr (0, 4, .inl (-2147483648, 2147483647)), .inr (0, 1600, .inl (-2147483648, 2147483647)), .inr (0, 300, .inl (-2147483648, 2147483647)), .inr (0, 4, .inl (-2147483648, 2147483647)), .inr (0, 4, .inl (-2147483648, 2147483647)), .inr (0, 8, .inl (-2147483648, 2147483647)), .inr (0, 8, .inl (-2147483648, 2147483647)), .inr (0, 2304, .inl (-2147483648, 2147483647)), .inr (3, 61, .inl (0, 0))]
theorem hx_tn {i : Int32} {n : Nat} (h1 : 0 ≤ i.toInt) (h2 : i.toInt < n) : i.toNatClampNeg < n := by unfold Int32.toNatClampNeg; omega
def P_wo : Nat → Int32 := fun j => match j with | 1 => 480 | 2 => 30 | 3 => 12 | 4 => 60 | 5 => 2 | 6 => 4 | 7 => 1 | 8 => 40 | 9 => 21 | _ => 0
def P_w1 : Nat → Int32 := fun j => P_wo (j + 1)
def P_fr (w : Int32) : Int32 := if w.toInt = 0 then -1 else P_wo w.toInt.toNat
theorem td_0 : P_tb[0]? = some (.inl (0, P_f0)) := rfl
theorem td_1 : P_tb[1]? = some (.inl (1, P_f1)) := rfl
theorem td_2 : P_tb[2]? = some (.inl (2, P_f2)) := rfl
theorem td_3 : P_tb[3]? = some (.inl (3, P_f3)) := rfl
theorem td_4 : P_tb[4]? = some (.inl (4, P_f4)) := rfl
theorem td_5 : P_tb[5]? = some (.inl (5, P_f5)) := rfl
theorem td_6 : P_tb[6]? = some (.inl (6, P_f6)) := rfl
theorem td_7 : P_tb[7]? = some (.inl (7, P_f7)) := rfl
theorem td_8 : P_tb[8]? = some (.inl (8, P_f8)) := rfl
theorem td_9 : P_tb[9]? = some (.inl (9, P_f9)) := rfl
theorem td_10 : P_tb[10]? = some (.inl (10, P_f10)) := rfl
theorem td_11 : P_tb[11]? = some (.inr (0, 14, .inl (-2147483648, 2147483647))) := rfl
theorem td_12 : P_tb[12]? = some (.inr (0, 160, .inl (-2147483648, 2147483647))) := rfl
theorem td_13 : P_tb[13]? = some (.inr (0, 400, .inl (-2147483648, 2147483647))) := rfl
theorem td_14 : P_tb[14]? = some (.inr (0, 400, .inl (-2147483648, 2147483647))) := rfl
theorem td_15 : P_tb[15]? = some (.inr (0, 400, .inl (-2147483648, 2147483647))) := rfl
theorem td_16 : P_tb[16]? = some (.inr (0, 400, .inl (-2147483648, 2147483647))) := rfl
theorem td_17 : P_tb[17]? = some (.inr (0, 400, .inl (-2147483648, 2147483647))) := rfl
theorem td_18 : P_tb[18]? = some (.inr (0, 400, .inl (-2147483648, 2147483647))) := rfl
theorem td_19 : P_tb[19]? = some (.inr (2, 400, .inl (-2147483648, 2147483647))) := rfl
theorem td_20 : P_tb[20]? = some (.inr (0, 8, .inl (-2147483648, 2147483647))) := rfl
theorem td_21 : P_tb[21]? = some (.inr (0, 3, .inl (-2147483648, 2147483647))) := rfl
theorem td_22 : P_tb[22]? = some (.inr (0, 600, .inl (-2147483648, 2147483647))) := rfl
theorem td_23 : P_tb[23]? = some (.inr (0, 600, .inl (-2147483648, 2147483647))) := rfl
theorem td_24 : P_tb[24]? = some (.inr (0, 600, .inl (-2147483648, 2147483647))) := rfl
theorem td_25 : P_tb[25]? = some (.inr (0, 600, .inl (-2147483648, 2147483647))) := rfl
theorem td_26 : P_tb[26]? = some (.inr (0, 600, .inl (-2147483648, 2147483647))) := rfl
theorem td_27 : P_tb[27]? = some (.inr (0, 4, .inl (-2147483648, 2147483647))) := rfl
theorem td_28 : P_tb[28]? = some (.inr (0, 4, .inl (-2147483648, 2147483647))) := rfl
theorem td_29 : P_tb[29]? = some (.inr (0, 4, .inl (-2147483648, 2147483647))) := rfl
theorem td_30 : P_tb[30]? = some (.inr (0, 4, .inl (-2147483648, 2147483647))) := rfl
theorem td_31 : P_tb[31]? = some (.inr (0, 4, .inl (-2147483648, 2147483647))) := rfl
theorem td_32 : P_tb[32]? = some (.inr (0, 4, .inl (-2147483648, 2147483647))) := rfl
theorem td_33 : P_tb[33]? = some (.inr (0, 4, .inl (-2147483648, 2147483647))) := rfl
theorem td_34 : P_tb[34]? = some (.inr (1, 0, .inl (-2147483648, 2147483647))) := rfl
theorem td_35 : P_tb[35]? = some (.inr (0, 100, .inl (-2147483648, 2147483647))) := rfl
theorem td_36 : P_tb[36]? = some (.inr (0, 1600, .inl (-2147483648, 2147483647))) := rfl
theorem td_37 : P_tb[37]? = some (.inr (0, 4, .inl (-2147483648, 2147483647))) := rfl
theorem td_38 : P_tb[38]? = some (.inr (0, 4, .inl (-2147483648, 2147483647))) := rfl
theorem td_39 : P_tb[39]? = some (.inr (0, 8, .inl (-2147483648, 2147483647))) := rfl
theorem td_40 : P_tb[40]? = some (.inr (6, 8, .inr (false, []))) := rfl
theorem td_41 : P_tb[41]? = some (.inr (0, 2048, .inl (-2147483648, 2147483647))) := rfl
theorem td_42 : P_tb[42]? = some (.inr (1, 400, .inl (-2147483648, 2147483647))) := rfl
theorem td_43 : P_tb[43]? = some (.inr (4, 8, .inr (false, []))) := rfl
theorem td_44 : P_tb[44]? = some (.inr (5, 40, .inr (false, []))) := rfl
theorem td_45 : P_tb[45]? = some (.inr (6, 100, .inr (false, []))) := rfl
theorem td_46 : P_tb[46]? = some (.inr (6, 100, .inr (false, []))) := rfl
theorem td_47 : P_tb[47]? = some (.inr (0, 40, .inl (-2147483648, 2147483647))) := rfl
theorem td_48 : P_tb[48]? = some (.inr (0, 100, .inl (-2147483648, 2147483647))) := rfl
theorem td_49 : P_tb[49]? = some (.inr (0, 9, .inl (-2147483648, 2147483647))) := rfl
theorem td_50 : P_tb[50]? = some (.inr (0, 117, .inl (-2147483648, 2147483647))) := rfl
theorem td_51 : P_tb[51]? = some (.inr (0, 9, .inl (-2147483648, 2147483647))) := rfl
theorem td_52 : P_tb[52]? = some (.inr (0, 1152, .inl (-2147483648, 2147483647))) := rfl
theorem td_53 : P_tb[53]? = some (.inr (1, 400, .inl (-2147483648, 2147483647))) := rfl
theorem td_54 : P_tb[54]? = some (.inr (0, 13, .inl (-2147483648, 2147483647))) := rfl
theorem td_55 : P_tb[55]? = some (.inr (0, 128, .inl (-2147483648, 2147483647))) := rfl
theorem td_56 : P_tb[56]? = some (.inr (0, 128, .inl (-2147483648, 2147483647))) := rfl
theorem td_57 : P_tb[57]? = some (.inr (1, 175, .inl (-2147483648, 2147483647))) := rfl
theorem td_58 : P_tb[58]? = some (.inr (0, 40, .inl (-2147483648, 2147483647))) := rfl
theorem td_59 : P_tb[59]? = some (.inr (0, 40, .inl (-2147483648, 2147483647))) := rfl
theorem td_60 : P_tb[60]? = some (.inr (0, 40, .inl (-2147483648, 2147483647))) := rfl
theorem td_61 : P_tb[61]? = some (.inr (0, 40, .inl (-2147483648, 2147483647))) := rfl
theorem td_62 : P_tb[62]? = some (.inr (0, 40, .inl (-2147483648, 2147483647))) := rfl
theorem td_63 : P_tb[63]? = some (.inr (0, 40, .inl (-2147483648, 2147483647))) := rfl
theorem td_64 : P_tb[64]? = some (.inr (2, 40, .inl (-2147483648, 2147483647))) := rfl
theorem td_65 : P_tb[65]? = some (.inr (2, 40, .inl (-2147483648, 2147483647))) := rfl
theorem td_66 : P_tb[66]? = some (.inr (0, 400, .inl (-2147483648, 2147483647))) := rfl
theorem td_67 : P_tb[67]? = some (.inr (0, 400, .inl (-2147483648, 2147483647))) := rfl
theorem td_68 : P_tb[68]? = some (.inr (0, 400, .inl (-2147483648, 2147483647))) := rfl
theorem td_69 : P_tb[69]? = some (.inr (0, 400, .inl (-2147483648, 2147483647))) := rfl
theorem td_70 : P_tb[70]? = some (.inr (0, 400, .inl (-2147483648, 2147483647))) := rfl
theorem td_71 : P_tb[71]? = some (.inr (2, 400, .inl (-2147483648, 2147483647))) := rfl
theorem td_72 : P_tb[72]? = some (.inr (0, 100, .inl (-2147483648, 2147483647))) := rfl
theorem td_73 : P_tb[73]? = some (.inr (0, 100, .inl (-2147483648, 2147483647))) := rfl
theorem td_74 : P_tb[74]? = some (.inr (0, 100, .inl (-2147483648, 2147483647))) := rfl
theorem td_75 : P_tb[75]? = some (.inr (0, 100, .inl (-2147483648, 2147483647))) := rfl
theorem td_76 : P_tb[76]? = some (.inr (2, 100, .inl (-2147483648, 2147483647))) := rfl
theorem td_77 : P_tb[77]? = some (.inr (0, 100, .inl (-2147483648, 2147483647))) := rfl
theorem td_78 : P_tb[78]? = some (.inr (0, 100, .inl (-2147483648, 2147483647))) := rfl
theorem td_79 : P_tb[79]? = some (.inr (0, 100, .inl (-2147483648, 2147483647))) := rfl
theorem td_80 : P_tb[80]? = some (.inr (0, 100, .inl (-2147483648, 2147483647))) := rfl
theorem td_81 : P_tb[81]? = some (.inr (0, 100, .inl (-2147483648, 2147483647))) := rfl
theorem td_82 : P_tb[82]? = some (.inr (0, 100, .inl (-2147483648, 2147483647))) := rfl
theorem td_83 : P_tb[83]? = some (.inr (0, 100, .inl (-2147483648, 2147483647))) := rfl
theorem td_84 : P_tb[84]? = some (.inr (0, 100, .inl (-2147483648, 2147483647))) := rfl
theorem td_85 : P_tb[85]? = some (.inr (0, 100, .inl (-2147483648, 2147483647))) := rfl
theorem td_86 : P_tb[86]? = some (.inr (0, 100, .inl (-2147483648, 2147483647))) := rfl
theorem td_87 : P_tb[87]? = some (.inr (0, 300, .inl (-2147483648, 2147483647))) := rfl
theorem td_88 : P_tb[88]? = some (.inr (0, 800, .inl (-2147483648, 2147483647))) := rfl
theorem td_89 : P_tb[89]? = some (.inr (0, 100, .inl (-2147483648, 2147483647))) := rfl
theorem td_90 : P_tb[90]? = some (.inr (0, 100, .inl (-2147483648, 2147483647))) := rfl
theorem td_91 : P_tb[91]? = some (.inr (0, 100, .inl (-2147483648, 2147483647))) := rfl
theorem td_92 : P_tb[92]? = some (.inr (0, 100, .inl (-2147483648, 2147483647))) := rfl
theorem td_93 : P_tb[93]? = some (.inr (0, 600, .inl (-2147483648, 2147483647))) := rfl
theorem td_94 : P_tb[94]? = some (.inr (0, 600, .inl (-2147483648, 2147483647))) := rfl
theorem td_95 : P_tb[95]? = some (.inr (0, 600, .inl (-2147483648, 2147483647))) := rfl
theorem td_96 : P_tb[96]? = some (.inr (0, 600, .inl (-2147483648, 2147483647))) := rfl
theorem td_97 : P_tb[97]? = some (.inr (0, 600, .inl (-2147483648, 2147483647))) := rfl
theorem td_98 : P_tb[98]? = some (.inr (0, 40, .inl (-2147483648, 2147483647))) := rfl
theorem td_99 : P_tb[99]? = some (.inr (2, 128, .inl (-2147483648, 2147483647))) := rfl
theorem td_100 : P_tb[100]? = some (.inr (0, 4, .inl (-2147483648, 2147483647))) := rfl
theorem td_101 : P_tb[101]? = some (.inr (0, 4, .inl (-2147483648, 2147483647))) := rfl
theorem td_102 : P_tb[102]? = some (.inr (0, 4, .inl (-2147483648, 2147483647))) := rfl
theorem td_103 : P_tb[103]? = some (.inr (0, 4, .inl (-2147483648, 2147483647))) := rfl
theorem td_104 : P_tb[104]? = some (.inr (0, 4, .inl (-2147483648, 2147483647))) := rfl
theorem td_105 : P_tb[105]? = some (.inr (0, 4, .inl (-2147483648, 2147483647))) := rfl
theorem td_106 : P_tb[106]? = some (.inr (0, 4, .inl (-2147483648, 2147483647))) := rfl
theorem td_107 : P_tb[107]? = some (.inr (0, 4, .inl (-2147483648, 2147483647))) := rfl
theorem td_108 : P_tb[108]? = some (.inr (0, 1600, .inl (-2147483648, 2147483647))) := rfl
theorem td_109 : P_tb[109]? = some (.inr (0, 300, .inl (-2147483648, 2147483647))) := rfl
theorem td_110 : P_tb[110]? = some (.inr (0, 4, .inl (-2147483648, 2147483647))) := rfl
theorem td_111 : P_tb[111]? = some (.inr (0, 4, .inl (-2147483648, 2147483647))) := rfl
theorem td_112 : P_tb[112]? = some (.inr (0, 8, .inl (-2147483648, 2147483647))) := rfl
theorem td_113 : P_tb[113]? = some (.inr (0, 8, .inl (-2147483648, 2147483647))) := rfl
theorem td_114 : P_tb[114]? = some (.inr (0, 2304, .inl (-2147483648, 2147483647))) := rfl
theorem td_115 : P_tb[115]? = some (.inr (3, 61, .inl (0, 0))) := rfl
end
section
/-! THE WORDS that the methods need, by their places in the tables -/
def hx_all : List Cond := lw_tbl.filter goodWord
theorem hx_ok : ∀ w ∈ hx_all, (w.onTables && w.keeps) = true ∨ ∃ ty, w = .arrayClass ty := fun w h => good_of_word (List.mem_filter.mp h).2
theorem hx_sub : ∀ w ∈ hx_all, w ∈ lw_tbl := fun w h => (List.mem_filter.mp h).1
theorem hx_gA {y : MethodName} {cc : ByteArray} {n : Nat} {ret : Option FieldType} {ws : List Cond} (hc : Cond.code y cc n ret ∈ hx_all) (h : ∀ w ∈ ws, w ∈ hx_all) : GoodIn hx_all (ws ++ (Cond.code y cc n ret :: hx_all)) := by
  intro w hw
  have hw2 : w ∈ hx_all := by
    rcases List.mem_append.mp hw with q | q
    · exact h w q
    · rcases List.mem_cons.mp q with q | q
      · rw [q]; exact hc
      · exact q
  exact ⟨hw2, hx_ok w hw2⟩
theorem hx_gC {y : MethodName} {cc : ByteArray} {n : Nat} {ret : Option FieldType} (hc : Cond.code y cc n ret ∈ hx_all) : GoodIn hx_all (Cond.code y cc n ret :: hx_all) := hx_gA (ws := []) hc (fun _ h => by cases h)
theorem hx_gV {own : String} {idx : Nat} {C : String} {y : MethodName} {cc : ByteArray} {n : Nat} {ret : Option FieldType} (hc : Cond.code y cc n ret ∈ hx_all) (h1 : Cond.methodLink own idx y ∈ hx_all) (h2 : Cond.instanceMethod y ∈ hx_all) (h3 : Cond.selects C y y ∈ hx_all) (h4 : Cond.initialized C ∈ hx_all) : GoodIn hx_all (wsV own idx C y (Cond.code y cc n ret :: hx_all)) := by
  refine hx_gA hc (fun w hw => ?_)
  simp only [List.mem_cons, List.not_mem_nil, or_false] at hw
  rcases hw with rfl | rfl | rfl | rfl <;> assumption
theorem hx_gS {own : String} {idx : Nat} {y : MethodName} {cc : ByteArray} {n : Nat} {ret : Option FieldType} (hc : Cond.code y cc n ret ∈ hx_all) (h1 : Cond.methodLink own idx y ∈ hx_all) (h2 : Cond.static y ∈ hx_all) (h4 : Cond.initialized y.cls ∈ hx_all) : GoodIn hx_all (va_wsS own idx y (Cond.code y cc n ret :: hx_all)) := by
  refine hx_gA hc (fun w hw => ?_)
  simp only [List.mem_cons, List.not_mem_nil, or_false] at hw
  rcases hw with rfl | rfl | rfl <;> assumption
theorem kt_1 {w : Cond} (h : w ∈ tables_1_1) : w ∈ lw_tbl := List.mem_append_right _ (show w ∈ tables_1 from List.mem_append_left _ h)
theorem kt_2 {w : Cond} (h : w ∈ tables_1_2) : w ∈ lw_tbl := List.mem_append_right _ (show w ∈ tables_1 from List.mem_append_right _ (List.mem_append_left _ h))
theorem kt_3 {w : Cond} (h : w ∈ tables_1_3) : w ∈ lw_tbl := List.mem_append_right _ (show w ∈ tables_1 from List.mem_append_right _ (List.mem_append_right _ (List.mem_append_left _ h)))
theorem kt_4 {w : Cond} (h : w ∈ tables_1_4) : w ∈ lw_tbl := List.mem_append_right _ (show w ∈ tables_1 from List.mem_append_right _ (List.mem_append_right _ (List.mem_append_right _ (List.mem_append_left _ h))))
theorem kt_5 {w : Cond} (h : w ∈ tables_1_5) : w ∈ lw_tbl := List.mem_append_right _ (show w ∈ tables_1 from List.mem_append_right _ (List.mem_append_right _ (List.mem_append_right _ (List.mem_append_right _ (List.mem_append_left _ h)))))
theorem kt_6 {w : Cond} (h : w ∈ tables_1_6) : w ∈ lw_tbl := List.mem_append_right _ (show w ∈ tables_1 from List.mem_append_right _ (List.mem_append_right _ (List.mem_append_right _ (List.mem_append_right _ (List.mem_append_right _ (List.mem_append_left _ h))))))
theorem kt_7 {w : Cond} (h : w ∈ tables_1_7) : w ∈ lw_tbl := List.mem_append_right _ (show w ∈ tables_1 from List.mem_append_right _ (List.mem_append_right _ (List.mem_append_right _ (List.mem_append_right _ (List.mem_append_right _ (List.mem_append_right _ (h)))))))
theorem kt_0 {w : Cond} (i : Nat) (h : (k2_sels lw_privs)[i]? = some w) : w ∈ lw_tbl := List.mem_append_left _ (List.mem_of_getElem? h)
theorem kt_g {w : Cond} (h : w ∈ lw_tbl) (g : goodWord w = true) : w ∈ hx_all := List.mem_filter.mpr ⟨h, g⟩
theorem kw_0 : Cond.selects "SmallCourt" yX9_feedBytes yX9_feedBytes ∈ hx_all := kt_g (kt_0 0 rfl) rfl
theorem kw_1 : Cond.selects "SmallCourt$Reader" yX6_skipBlanks yX6_skipBlanks ∈ hx_all := kt_g (kt_0 1 rfl) rfl
theorem kw_2 : Cond.selects "SmallCourt$Reader" yX6_readClause yX6_readClause ∈ hx_all := kt_g (kt_0 2 rfl) rfl
theorem kw_3 : Cond.selects "SmallCourt$Reader" yX6_readWord yX6_readWord ∈ hx_all := kt_g (kt_0 3 rfl) rfl
theorem kw_4 : Cond.selects "SmallCourt$Reader" yX6_wordEnd yX6_wordEnd ∈ hx_all := kt_g (kt_0 4 rfl) rfl
theorem kw_5 : Cond.selects "SmallCourt$Reader" yX6_isSlot yX6_isSlot ∈ hx_all := kt_g (kt_0 5 rfl) rfl
theorem kw_6 : Cond.selects "SmallCourt$Reader" yX6_refuse yX6_refuse ∈ hx_all := kt_g (kt_0 6 rfl) rfl
theorem kw_7 : Cond.selects "SmallCourt$Reader" yX6_readCost yX6_readCost ∈ hx_all := kt_g (kt_0 7 rfl) rfl
theorem kw_8 : Cond.selects "SmallCourt$Reader" yX6_tellOnce yX6_tellOnce ∈ hx_all := kt_g (kt_0 8 rfl) rfl
theorem kw_9 : Cond.selects "SmallCourt$Reader" yX6_readTold yX6_readTold ∈ hx_all := kt_g (kt_0 9 rfl) rfl
theorem kw_10 : Cond.selects "SmallCourt$Reader" yX6_isDigit yX6_isDigit ∈ hx_all := kt_g (kt_0 10 rfl) rfl
theorem kw_11 : Cond.selects "SmallCourt$Reader" yX6_readNumber yX6_readNumber ∈ hx_all := kt_g (kt_0 11 rfl) rfl
theorem kw_12 : Cond.selects "SmallCourt$Reader" yX6_readEither yX6_readEither ∈ hx_all := kt_g (kt_0 12 rfl) rfl
theorem kw_13 : Cond.selects "SmallCourt$Reader" yX6_readOne yX6_readOne ∈ hx_all := kt_g (kt_0 13 rfl) rfl
theorem kw_14 : Cond.selects "SmallCourt$Reader" yX6_isNextWord yX6_isNextWord ∈ hx_all := kt_g (kt_0 14 rfl) rfl
theorem kw_15 : Cond.selects "SmallCourt$Reader" yX6_isByte yX6_isByte ∈ hx_all := kt_g (kt_0 15 rfl) rfl
theorem kw_16 : Cond.selects "SmallCourt$Reader" yX6_readTerm yX6_readTerm ∈ hx_all := kt_g (kt_0 16 rfl) rfl
theorem kw_17 : Cond.selects "SmallCourt$Reader" yX6_readSign yX6_readSign ∈ hx_all := kt_g (kt_0 17 rfl) rfl
theorem kw_18 : Cond.selects "SmallCourt$Reader" yX6_isAnotherClause yX6_isAnotherClause ∈ hx_all := kt_g (kt_0 18 rfl) rfl
theorem kw_19 : Cond.selects "SmallCourt" yX9_inForce yX9_inForce ∈ hx_all := kt_g (kt_0 19 rfl) rfl
theorem kw_20 : Cond.selects "SmallCourt" yX9_personAt yX9_personAt ∈ hx_all := kt_g (kt_0 20 rfl) rfl
theorem kw_21 : Cond.selects "SmallCourt" yX9_areTwo yX9_areTwo ∈ hx_all := kt_g (kt_0 21 rfl) rfl
theorem kw_22 : Cond.selects "SmallCourt$Books" yX1_isLine yX1_isLine ∈ hx_all := kt_g (kt_0 22 rfl) rfl
theorem kw_23 : Cond.selects "SmallCourt$Books" yX1_takeTwin yX1_takeTwin ∈ hx_all := kt_g (kt_0 23 rfl) rfl
theorem kw_24 : Cond.selects "SmallCourt$Books" yX1_areTwins yX1_areTwins ∈ hx_all := kt_g (kt_0 24 rfl) rfl
theorem kw_25 : Cond.selects "SmallCourt" yX9_claimAt yX9_claimAt ∈ hx_all := kt_g (kt_0 25 rfl) rfl
theorem kw_26 : Cond.selects "SmallCourt" yX9_drawBench yX9_drawBench ∈ hx_all := kt_g (kt_0 26 rfl) rfl
theorem kw_27 : Cond.selects "SmallCourt$Person" yX4_isKinOf yX4_isKinOf ∈ hx_all := kt_g (kt_0 27 rfl) rfl
theorem kw_28 : Cond.selects "SmallCourt" yX9_judgement yX9_judgement ∈ hx_all := kt_g (kt_0 28 rfl) rfl
theorem kw_29 : Cond.selects "SmallCourt" yX9_sumOfSplit yX9_sumOfSplit ∈ hx_all := kt_g (kt_0 29 rfl) rfl
theorem kw_30 : Cond.selects "SmallCourt" yX9_openInstalments yX9_openInstalments ∈ hx_all := kt_g (kt_0 30 rfl) rfl
theorem kw_31 : Cond.selects "SmallCourt$Claim" yX2_owedOn yX2_owedOn ∈ hx_all := kt_g (kt_0 31 rfl) rfl
theorem kw_32 : Cond.selects "SmallCourt$Claim" yX2_stateAheadOfOrder yX2_stateAheadOfOrder ∈ hx_all := kt_g (kt_0 32 rfl) rfl
theorem kw_33 : Cond.selects "SmallCourt$Plan" yX5_leastFrom yX5_leastFrom ∈ hx_all := kt_g (kt_0 33 rfl) rfl
theorem kw_34 : Cond.selects "SmallCourt$Plan" yX5_tryFrom yX5_tryFrom ∈ hx_all := kt_g (kt_0 34 rfl) rfl
theorem kw_35 : Cond.selects "SmallCourt$Plan" yX5_keepIfBetter yX5_keepIfBetter ∈ hx_all := kt_g (kt_0 35 rfl) rfl
theorem kw_36 : Cond.selects "SmallCourt$Rings" yX7_goOn yX7_goOn ∈ hx_all := kt_g (kt_0 36 rfl) rfl
theorem kw_37 : Cond.selects "SmallCourt$Rings" yX7_keepIfBetter yX7_keepIfBetter ∈ hx_all := kt_g (kt_0 37 rfl) rfl
theorem kw_38 : Cond.selects "SmallCourt$Rings" yX7_isInRing yX7_isInRing ∈ hx_all := kt_g (kt_0 38 rfl) rfl
theorem kw_39 : Cond.selects "SmallCourt" yX9_ringNeeds yX9_ringNeeds ∈ hx_all := kt_g (kt_0 39 rfl) rfl
theorem kw_40 : Cond.selects "SmallCourt$Rings" yX7_placeAfter yX7_placeAfter ∈ hx_all := kt_g (kt_0 40 rfl) rfl
theorem kw_41 : Cond.selects "SmallCourt" yX9_takeOffRing yX9_takeOffRing ∈ hx_all := kt_g (kt_0 41 rfl) rfl
theorem kw_42 : Cond.selects "SmallCourt$Walk" yX8_fromCourt yX8_fromCourt ∈ hx_all := kt_g (kt_0 42 rfl) rfl
theorem kw_43 : Cond.selects "SmallCourt$Walk" yX8_leastOn yX8_leastOn ∈ hx_all := kt_g (kt_0 43 rfl) rfl
theorem kw_44 : Cond.selects "SmallCourt$Walk" yX8_stepsBy yX8_stepsBy ∈ hx_all := kt_g (kt_0 44 rfl) rfl
theorem kw_45 : Cond.selects "SmallCourt$Walk" yX8_retrace yX8_retrace ∈ hx_all := kt_g (kt_0 45 rfl) rfl
theorem kw_46 : Cond.selects "SmallCourt$Walk" yX8_firstOnWay yX8_firstOnWay ∈ hx_all := kt_g (kt_0 46 rfl) rfl
theorem kw_47 : Cond.selects "SmallCourt" yX9_livingJudges yX9_livingJudges ∈ hx_all := kt_g (kt_0 47 rfl) rfl
theorem kw_48 : Cond.selects "SmallCourtModel" yX10_clears yX10_clears ∈ hx_all := kt_g (kt_0 48 rfl) rfl
theorem kw_49 : Cond.selects "SmallCourtModel" yX10_withoutProof yX10_withoutProof ∈ hx_all := kt_g (kt_0 49 rfl) rfl
theorem kw_50 : Cond.selects "SmallCourtModel" yX10_writes yX10_writes ∈ hx_all := kt_g (kt_0 50 rfl) rfl
theorem kw_51 : Cond.selects "SmallCourtModel" yX10_keepsProof yX10_keepsProof ∈ hx_all := kt_g (kt_0 51 rfl) rfl
theorem kw_52 : Cond.selects "SmallCourtModel" yX10_four yX10_four ∈ hx_all := kt_g (kt_0 52 rfl) rfl
theorem kw_53 : Cond.selects "SmallCourtModel" yX10_see yX10_see ∈ hx_all := kt_g (kt_0 53 rfl) rfl
theorem kw_54 : Cond.selects "SmallCourtModel" yX10_clause yX10_clause ∈ hx_all := kt_g (kt_0 54 rfl) rfl
theorem kw_55 : Cond.selects "SmallCourtModel" yX10_wordHere yX10_wordHere ∈ hx_all := kt_g (kt_0 55 rfl) rfl
theorem kw_56 : Cond.selects "SmallCourtModel" yX10_fails yX10_fails ∈ hx_all := kt_g (kt_0 56 rfl) rfl
theorem kw_57 : Cond.selects "SmallCourtModel" yX10_isNew yX10_isNew ∈ hx_all := kt_g (kt_0 57 rfl) rfl
theorem kw_58 : Cond.selects "SmallCourtModel" yX10_either yX10_either ∈ hx_all := kt_g (kt_0 58 rfl) rfl
theorem kw_59 : Cond.selects "SmallCourtModel" yX10_begins yX10_begins ∈ hx_all := kt_g (kt_0 59 rfl) rfl
theorem kw_60 : Cond.selects "SmallCourtModel" yX10_compare yX10_compare ∈ hx_all := kt_g (kt_0 60 rfl) rfl
theorem kw_61 : Cond.selects "SmallCourtModel" yX10_number yX10_number ∈ hx_all := kt_g (kt_0 61 rfl) rfl
theorem kw_62 : Cond.selects "SmallCourtModel" yX10_deep yX10_deep ∈ hx_all := kt_g (kt_0 62 rfl) rfl
theorem kw_63 : Cond.selects "SmallCourtModel" yX10_closesNots yX10_closesNots ∈ hx_all := kt_g (kt_0 63 rfl) rfl
theorem kw_64 : Cond.selects "SmallCourtModel" yX10_closesDown yX10_closesDown ∈ hx_all := kt_g (kt_0 64 rfl) rfl
theorem kw_65 : Cond.selects "SmallCourtModel" yX10_inForce yX10_inForce ∈ hx_all := kt_g (kt_0 65 rfl) rfl
theorem kw_66 : Cond.selects "SmallCourtModel" yX10_ruleOf yX10_ruleOf ∈ hx_all := kt_g (kt_0 66 rfl) rfl
theorem kw_67 : Cond.selects "SmallCourtModel" yX10_lives yX10_lives ∈ hx_all := kt_g (kt_0 67 rfl) rfl
theorem kw_68 : Cond.selects "SmallCourtModel" yX10_isPerson yX10_isPerson ∈ hx_all := kt_g (kt_0 68 rfl) rfl
theorem kw_69 : Cond.selects "SmallCourtModel" yX10_bookSum yX10_bookSum ∈ hx_all := kt_g (kt_0 69 rfl) rfl
theorem kw_70 : Cond.selects "SmallCourtModel" yX10_alike yX10_alike ∈ hx_all := kt_g (kt_0 70 rfl) rfl
theorem kw_71 : Cond.selects "SmallCourtModel" yX10_areTwins yX10_areTwins ∈ hx_all := kt_g (kt_0 71 rfl) rfl
theorem kw_72 : Cond.selects "SmallCourtModel" yX10_disorder yX10_disorder ∈ hx_all := kt_g (kt_0 72 rfl) rfl
theorem kw_73 : Cond.selects "SmallCourtModel" yX10_isClaim yX10_isClaim ∈ hx_all := kt_g (kt_0 73 rfl) rfl
theorem kw_74 : Cond.selects "SmallCourtModel" yX10_sits yX10_sits ∈ hx_all := kt_g (kt_0 74 rfl) rfl
theorem kw_75 : Cond.selects "SmallCourtModel" yX10_isKinOf yX10_isKinOf ∈ hx_all := kt_g (kt_0 75 rfl) rfl
theorem kw_76 : Cond.selects "SmallCourtModel" yX10_draws yX10_draws ∈ hx_all := kt_g (kt_0 76 rfl) rfl
theorem kw_77 : Cond.selects "SmallCourtModel" yX10_judges yX10_judges ∈ hx_all := kt_g (kt_0 77 rfl) rfl
theorem kw_78 : Cond.selects "SmallCourtModel" yX10_isSplit yX10_isSplit ∈ hx_all := kt_g (kt_0 78 rfl) rfl
theorem kw_79 : Cond.selects "SmallCourtModel" yX10_isProved yX10_isProved ∈ hx_all := kt_g (kt_0 79 rfl) rfl
theorem kw_80 : Cond.selects "SmallCourtModel" yX10_isSo yX10_isSo ∈ hx_all := kt_g (kt_0 80 rfl) rfl
theorem kw_81 : Cond.selects "SmallCourtModel" yX10_isOpen yX10_isOpen ∈ hx_all := kt_g (kt_0 81 rfl) rfl
theorem kw_82 : Cond.selects "SmallCourtModel" yX10_looks yX10_looks ∈ hx_all := kt_g (kt_0 82 rfl) rfl
theorem kw_83 : Cond.selects "SmallCourtModel" yX10_means yX10_means ∈ hx_all := kt_g (kt_0 83 rfl) rfl
theorem kw_84 : Cond.selects "SmallCourtModel" yX10_pays yX10_pays ∈ hx_all := kt_g (kt_0 84 rfl) rfl
theorem kw_85 : Cond.selects "SmallCourtModel" yX10_weeksOf yX10_weeksOf ∈ hx_all := kt_g (kt_0 85 rfl) rfl
theorem kw_86 : Cond.selects "SmallCourtModel" yX10_debts yX10_debts ∈ hx_all := kt_g (kt_0 86 rfl) rfl
theorem kw_87 : Cond.selects "SmallCourtModel" yX10_finds yX10_finds ∈ hx_all := kt_g (kt_0 87 rfl) rfl
theorem kw_88 : Cond.selects "SmallCourtModel" yX10_offers yX10_offers ∈ hx_all := kt_g (kt_0 88 rfl) rfl
theorem kw_89 : Cond.selects "SmallCourtModel" yX10_takes yX10_takes ∈ hx_all := kt_g (kt_0 89 rfl) rfl
theorem kw_90 : Cond.selects "SmallCourtModel" yX10_far yX10_far ∈ hx_all := kt_g (kt_0 90 rfl) rfl
theorem kw_91 : Cond.selects "SmallCourtModel" yX10_habits yX10_habits ∈ hx_all := kt_g (kt_0 91 rfl) rfl
theorem kw_92 : Cond.selects "SmallCourtModel" yX10_isRare yX10_isRare ∈ hx_all := kt_g (kt_0 92 rfl) rfl
theorem kw_94 : Cond.initialized "SmallCourt" ∈ hx_all := kt_g (kt_1 (List.mem_of_getElem? (i := 1) rfl)) rfl
theorem kw_95 : Cond.initialized "SmallCourt$Reader" ∈ hx_all := kt_g (kt_1 (List.mem_of_getElem? (i := 2) rfl)) rfl
theorem kw_96 : Cond.initialized "SmallCourt$Act" ∈ hx_all := kt_g (kt_1 (List.mem_of_getElem? (i := 3) rfl)) rfl
theorem kw_97 : Cond.initialized "java/lang/System" ∈ hx_all := kt_g (kt_1 (List.mem_of_getElem? (i := 4) rfl)) rfl
theorem kw_98 : Cond.initialized "SmallCourt$Books" ∈ hx_all := kt_g (kt_1 (List.mem_of_getElem? (i := 5) rfl)) rfl
theorem kw_99 : Cond.initialized "SmallCourt$Payments" ∈ hx_all := kt_g (kt_1 (List.mem_of_getElem? (i := 6) rfl)) rfl
theorem kw_100 : Cond.initialized "SmallCourt$Plan" ∈ hx_all := kt_g (kt_1 (List.mem_of_getElem? (i := 7) rfl)) rfl
theorem kw_101 : Cond.initialized "SmallCourt$Rings" ∈ hx_all := kt_g (kt_1 (List.mem_of_getElem? (i := 8) rfl)) rfl
theorem kw_102 : Cond.initialized "SmallCourt$Walk" ∈ hx_all := kt_g (kt_1 (List.mem_of_getElem? (i := 9) rfl)) rfl
theorem kw_103 : Cond.initialized "SmallCourtModel" ∈ hx_all := kt_g (kt_1 (List.mem_of_getElem? (i := 10) rfl)) rfl
theorem kw_104 : Cond.initialized "java/lang/String" ∈ hx_all := kt_g (kt_1 (List.mem_of_getElem? (i := 11) rfl)) rfl
theorem kw_108 : Cond.initialized "SmallCourt$Person" ∈ hx_all := kt_g (kt_1 (List.mem_of_getElem? (i := 15) rfl)) rfl
theorem kw_109 : Cond.initialized "java/lang/Math" ∈ hx_all := kt_g (kt_1 (List.mem_of_getElem? (i := 16) rfl)) rfl
theorem kw_110 : Cond.initialized "SmallCourt$Claim" ∈ hx_all := kt_g (kt_1 (List.mem_of_getElem? (i := 17) rfl)) rfl
theorem kw_111 : Cond.classLink "SmallCourtLaw" 7 "SmallCourt" ∈ hx_all := kt_g (kt_1 (List.mem_of_getElem? (i := 18) rfl)) rfl
theorem kw_112 : Cond.instantiable "SmallCourt" 20 ∈ hx_all := kt_g (kt_1 (List.mem_of_getElem? (i := 19) rfl)) rfl
theorem kw_113 : Cond.methodLink "SmallCourtLaw" 9 yX9_init ∈ hx_all := kt_g (kt_1 (List.mem_of_getElem? (i := 20) rfl)) rfl
theorem kw_114 : Cond.instanceMethod yX9_init ∈ hx_all := kt_g (kt_1 (List.mem_of_getElem? (i := 21) rfl)) rfl
theorem kw_115 : Cond.code yX9_init cX9_init 1 none ∈ hx_all := kt_g (kt_1 (List.mem_of_getElem? (i := 22) rfl)) rfl
theorem kw_116 : Cond.methodLink "SmallCourt" 3 Lib.objectInit ∈ hx_all := kt_g (kt_1 (List.mem_of_getElem? (i := 23) rfl)) rfl
theorem kw_117 : Cond.instanceMethod Lib.objectInit ∈ hx_all := kt_g (kt_1 (List.mem_of_getElem? (i := 24) rfl)) rfl
theorem kw_118 : Cond.code Lib.objectInit ⟨#[0xb1]⟩ 1 none ∈ hx_all := kt_g (kt_1 (List.mem_of_getElem? (i := 25) rfl)) rfl
theorem kw_119 : Cond.classLink "SmallCourt" 13 "SmallCourt$Reader" ∈ hx_all := kt_g (kt_1 (List.mem_of_getElem? (i := 26) rfl)) rfl
theorem kw_120 : Cond.instantiable "SmallCourt$Reader" 7 ∈ hx_all := kt_g (kt_1 (List.mem_of_getElem? (i := 27) rfl)) rfl
theorem kw_121 : Cond.methodLinkNest "SmallCourt" 15 yX6_init "SmallCourt" ∈ lw_tbl := kt_1 (List.mem_of_getElem? (i := 28) rfl)
theorem kw_122 : Cond.instanceMethod yX6_init ∈ hx_all := kt_g (kt_1 (List.mem_of_getElem? (i := 29) rfl)) rfl
theorem kw_123 : Cond.code yX6_init cX6_init 1 none ∈ hx_all := kt_g (kt_1 (List.mem_of_getElem? (i := 30) rfl)) rfl
theorem kw_124 : Cond.methodLink "SmallCourt$Reader" 3 Lib.objectInit ∈ hx_all := kt_g (kt_1 (List.mem_of_getElem? (i := 31) rfl)) rfl
theorem kw_125 : Cond.fieldLink "SmallCourt$Reader" 9 "SmallCourt$Reader" "text" "[B" ∈ hx_all := kt_g (kt_1 (List.mem_of_getElem? (i := 32) rfl)) rfl
theorem kw_126 : Cond.fieldLink "SmallCourt$Reader" 15 "SmallCourt$Reader" "length" "I" ∈ hx_all := kt_g (kt_1 (List.mem_of_getElem? (i := 33) rfl)) rfl
theorem kw_127 : Cond.fieldLink "SmallCourt$Reader" 19 "SmallCourt$Reader" "at" "I" ∈ hx_all := kt_g (kt_1 (List.mem_of_getElem? (i := 34) rfl)) rfl
theorem kw_128 : Cond.fieldLink "SmallCourt$Reader" 22 "SmallCourt$Reader" "fault" "I" ∈ hx_all := kt_g (kt_1 (List.mem_of_getElem? (i := 35) rfl)) rfl
theorem kw_129 : Cond.fieldLink "SmallCourt$Reader" 25 "SmallCourt$Reader" "toldOnce" "I" ∈ hx_all := kt_g (kt_1 (List.mem_of_getElem? (i := 36) rfl)) rfl
theorem kw_130 : Cond.fieldLink "SmallCourt$Reader" 28 "SmallCourt$Reader" "terms" "I" ∈ hx_all := kt_g (kt_1 (List.mem_of_getElem? (i := 37) rfl)) rfl
theorem kw_131 : Cond.fieldLink "SmallCourt$Reader" 31 "SmallCourt$Reader" "into" "LSmallCourt$Act;" ∈ hx_all := kt_g (kt_1 (List.mem_of_getElem? (i := 38) rfl)) rfl
theorem kw_132 : Cond.lays "SmallCourt$Reader" "SmallCourt$Reader" "text" "[B" ∈ hx_all := kt_g (kt_1 (List.mem_of_getElem? (i := 39) rfl)) rfl
theorem kw_134 : Cond.lays "SmallCourt$Reader" "SmallCourt$Reader" "length" "I" ∈ hx_all := kt_g (kt_1 (List.mem_of_getElem? (i := 41) rfl)) rfl
theorem kw_136 : Cond.lays "SmallCourt$Reader" "SmallCourt$Reader" "at" "I" ∈ hx_all := kt_g (kt_1 (List.mem_of_getElem? (i := 43) rfl)) rfl
theorem kw_138 : Cond.lays "SmallCourt$Reader" "SmallCourt$Reader" "fault" "I" ∈ hx_all := kt_g (kt_1 (List.mem_of_getElem? (i := 45) rfl)) rfl
theorem kw_140 : Cond.lays "SmallCourt$Reader" "SmallCourt$Reader" "toldOnce" "I" ∈ hx_all := kt_g (kt_1 (List.mem_of_getElem? (i := 47) rfl)) rfl
theorem kw_142 : Cond.lays "SmallCourt$Reader" "SmallCourt$Reader" "terms" "I" ∈ hx_all := kt_g (kt_1 (List.mem_of_getElem? (i := 49) rfl)) rfl
theorem kw_144 : Cond.lays "SmallCourt$Reader" "SmallCourt$Reader" "into" "LSmallCourt$Act;" ∈ hx_all := kt_g (kt_1 (List.mem_of_getElem? (i := 51) rfl)) rfl
theorem kw_147 : Cond.arrayClass .byte ∈ hx_all := kt_g (kt_1 (List.mem_of_getElem? (i := 54) rfl)) rfl
theorem kw_148 : Cond.classLink "SmallCourt" 20 "SmallCourt$Act" ∈ hx_all := kt_g (kt_1 (List.mem_of_getElem? (i := 55) rfl)) rfl
theorem kw_149 : Cond.instantiable "SmallCourt$Act" 5 ∈ hx_all := kt_g (kt_1 (List.mem_of_getElem? (i := 56) rfl)) rfl
theorem kw_150 : Cond.methodLink "SmallCourt" 22 yX0_init ∈ hx_all := kt_g (kt_1 (List.mem_of_getElem? (i := 57) rfl)) rfl
theorem kw_151 : Cond.instanceMethod yX0_init ∈ hx_all := kt_g (kt_1 (List.mem_of_getElem? (i := 58) rfl)) rfl
theorem kw_152 : Cond.code yX0_init cX0_init 3 none ∈ hx_all := kt_g (kt_1 (List.mem_of_getElem? (i := 59) rfl)) rfl
theorem kw_153 : Cond.methodLink "SmallCourt$Act" 3 Lib.objectInit ∈ hx_all := kt_g (kt_1 (List.mem_of_getElem? (i := 60) rfl)) rfl
theorem kw_154 : Cond.fieldLinkNest "SmallCourt$Act" 25 "SmallCourt" "WITHOUT" "[I" "SmallCourt" ∈ lw_tbl := kt_1 (List.mem_of_getElem? (i := 61) rfl)
theorem kw_156 : Cond.methodLink "SmallCourt$Act" 28 arraycopyName ∈ hx_all := kt_g (kt_1 (List.mem_of_getElem? (i := 63) rfl)) rfl
theorem kw_157 : Cond.static arraycopyName ∈ hx_all := kt_g (kt_1 (List.mem_of_getElem? (i := 64) rfl)) rfl
theorem kw_158 : Cond.native arraycopyName ∈ hx_all := kt_g (kt_1 (List.mem_of_getElem? (i := 65) rfl)) rfl
theorem kw_159 : Cond.methodLink "SmallCourt$Act" 34 yX0_term ∈ hx_all := kt_g (kt_1 (List.mem_of_getElem? (i := 66) rfl)) rfl
theorem kw_160 : Cond.static yX0_term ∈ hx_all := kt_g (kt_1 (List.mem_of_getElem? (i := 67) rfl)) rfl
theorem kw_161 : Cond.code yX0_term cX0_term 4 (some .int) ∈ hx_all := kt_g (kt_1 (List.mem_of_getElem? (i := 68) rfl)) rfl
theorem kw_162 : Cond.fieldLink "SmallCourt$Act" 18 "SmallCourt$Act" "number" "I" ∈ hx_all := kt_g (kt_1 (List.mem_of_getElem? (i := 69) rfl)) rfl
theorem kw_163 : Cond.fieldLink "SmallCourt" 112 "SmallCourt$Act" "number" "I" ∈ hx_all := kt_g (kt_1 (List.mem_of_getElem? (i := 70) rfl)) rfl
theorem kw_164 : Cond.fieldLink "SmallCourt$Act" 22 "SmallCourt$Act" "day" "I" ∈ hx_all := kt_g (kt_1 (List.mem_of_getElem? (i := 71) rfl)) rfl
theorem kw_165 : Cond.fieldLink "SmallCourt" 122 "SmallCourt$Act" "day" "I" ∈ hx_all := kt_g (kt_1 (List.mem_of_getElem? (i := 72) rfl)) rfl
theorem kw_166 : Cond.fieldLink "SmallCourt$Act" 9 "SmallCourt$Act" "told" "[I" ∈ hx_all := kt_g (kt_1 (List.mem_of_getElem? (i := 73) rfl)) rfl
theorem kw_167 : Cond.fieldLink "SmallCourt$Claim" 51 "SmallCourt$Act" "told" "[I" ∈ hx_all := kt_g (kt_1 (List.mem_of_getElem? (i := 74) rfl)) rfl
theorem kw_168 : Cond.fieldLink "SmallCourt$Person" 33 "SmallCourt$Act" "told" "[I" ∈ hx_all := kt_g (kt_1 (List.mem_of_getElem? (i := 75) rfl)) rfl
theorem kw_169 : Cond.fieldLink "SmallCourt$Plan" 52 "SmallCourt$Act" "told" "[I" ∈ hx_all := kt_g (kt_1 (List.mem_of_getElem? (i := 76) rfl)) rfl
theorem kw_170 : Cond.fieldLink "SmallCourt" 119 "SmallCourt$Act" "told" "[I" ∈ hx_all := kt_g (kt_1 (List.mem_of_getElem? (i := 77) rfl)) rfl
theorem kw_171 : Cond.fieldLink "SmallCourt$Reader" 89 "SmallCourt$Act" "told" "[I" ∈ hx_all := kt_g (kt_1 (List.mem_of_getElem? (i := 78) rfl)) rfl
theorem kw_172 : Cond.fieldLink "SmallCourt$Act" 15 "SmallCourt$Act" "proof" "[I" ∈ hx_all := kt_g (kt_1 (List.mem_of_getElem? (i := 79) rfl)) rfl
theorem kw_173 : Cond.fieldLink "SmallCourt$Act" 38 "SmallCourt$Act" "proofLength" "I" ∈ hx_all := kt_g (kt_1 (List.mem_of_getElem? (i := 80) rfl)) rfl
theorem kw_174 : Cond.fieldLink "SmallCourt$Reader" 58 "SmallCourt$Act" "proofLength" "I" ∈ hx_all := kt_g (kt_1 (List.mem_of_getElem? (i := 81) rfl)) rfl
theorem kw_175 : Cond.laysFinal "SmallCourt$Act" "SmallCourt$Act" "number" "I" ∈ hx_all := kt_g (kt_1 (List.mem_of_getElem? (i := 82) rfl)) rfl
theorem kw_177 : Cond.laysFinal "SmallCourt$Act" "SmallCourt$Act" "day" "I" ∈ hx_all := kt_g (kt_1 (List.mem_of_getElem? (i := 84) rfl)) rfl
theorem kw_179 : Cond.laysFinal "SmallCourt$Act" "SmallCourt$Act" "told" "[I" ∈ hx_all := kt_g (kt_1 (List.mem_of_getElem? (i := 86) rfl)) rfl
theorem kw_181 : Cond.laysFinal "SmallCourt$Act" "SmallCourt$Act" "proof" "[I" ∈ hx_all := kt_g (kt_1 (List.mem_of_getElem? (i := 88) rfl)) rfl
theorem kw_183 : Cond.lays "SmallCourt$Act" "SmallCourt$Act" "proofLength" "I" ∈ hx_all := kt_g (kt_1 (List.mem_of_getElem? (i := 90) rfl)) rfl
theorem kw_186 : Cond.arrayClass .int ∈ hx_all := kt_g (kt_1 (List.mem_of_getElem? (i := 93) rfl)) rfl
theorem kw_187 : Cond.arrayOver (.object "SmallCourt$Act") ∈ lw_tbl := kt_1 (List.mem_of_getElem? (i := 94) rfl)
theorem kw_188 : Cond.classLink "SmallCourt" 33 "SmallCourt$Person" ∈ hx_all := kt_g (kt_1 (List.mem_of_getElem? (i := 95) rfl)) rfl
theorem kw_189 : Cond.arrayOver (.object "SmallCourt$Person") ∈ lw_tbl := kt_1 (List.mem_of_getElem? (i := 96) rfl)
theorem kw_190 : Cond.classLink "SmallCourt" 39 "SmallCourt$Books" ∈ hx_all := kt_g (kt_1 (List.mem_of_getElem? (i := 97) rfl)) rfl
theorem kw_191 : Cond.instantiable "SmallCourt$Books" 8 ∈ hx_all := kt_g (kt_1 (List.mem_of_getElem? (i := 98) rfl)) rfl
theorem kw_192 : Cond.methodLinkNest "SmallCourt" 41 yX1_init "SmallCourt" ∈ lw_tbl := kt_1 (List.mem_of_getElem? (i := 99) rfl)
theorem kw_193 : Cond.instanceMethod yX1_init ∈ hx_all := kt_g (kt_1 (List.mem_of_getElem? (i := 100) rfl)) rfl
theorem kw_194 : Cond.code yX1_init cX1_init 1 none ∈ hx_all := kt_g (kt_1 (List.mem_of_getElem? (i := 101) rfl)) rfl
theorem kw_195 : Cond.methodLink "SmallCourt$Books" 3 Lib.objectInit ∈ hx_all := kt_g (kt_1 (List.mem_of_getElem? (i := 102) rfl)) rfl
theorem kw_196 : Cond.fieldLink "SmallCourt$Books" 34 "SmallCourt$Books" "count" "I" ∈ hx_all := kt_g (kt_1 (List.mem_of_getElem? (i := 103) rfl)) rfl
theorem kw_197 : Cond.fieldLink "SmallCourt" 158 "SmallCourt$Books" "count" "I" ∈ hx_all := kt_g (kt_1 (List.mem_of_getElem? (i := 104) rfl)) rfl
theorem kw_198 : Cond.fieldLink "SmallCourt$Books" 9 "SmallCourt$Books" "owner" "[I" ∈ hx_all := kt_g (kt_1 (List.mem_of_getElem? (i := 105) rfl)) rfl
theorem kw_199 : Cond.fieldLink "SmallCourt$Books" 15 "SmallCourt$Books" "with" "[I" ∈ hx_all := kt_g (kt_1 (List.mem_of_getElem? (i := 106) rfl)) rfl
theorem kw_200 : Cond.fieldLink "SmallCourt$Books" 18 "SmallCourt$Books" "day" "[I" ∈ hx_all := kt_g (kt_1 (List.mem_of_getElem? (i := 107) rfl)) rfl
theorem kw_201 : Cond.fieldLink "SmallCourt$Books" 21 "SmallCourt$Books" "kind" "[I" ∈ hx_all := kt_g (kt_1 (List.mem_of_getElem? (i := 108) rfl)) rfl
theorem kw_202 : Cond.fieldLink "SmallCourt$Books" 24 "SmallCourt$Books" "sum" "[I" ∈ hx_all := kt_g (kt_1 (List.mem_of_getElem? (i := 109) rfl)) rfl
theorem kw_203 : Cond.fieldLink "SmallCourt$Books" 27 "SmallCourt$Books" "byDay" "[I" ∈ hx_all := kt_g (kt_1 (List.mem_of_getElem? (i := 110) rfl)) rfl
theorem kw_204 : Cond.fieldLink "SmallCourt$Books" 30 "SmallCourt$Books" "taken" "[Z" ∈ hx_all := kt_g (kt_1 (List.mem_of_getElem? (i := 111) rfl)) rfl
theorem kw_205 : Cond.lays "SmallCourt$Books" "SmallCourt$Books" "count" "I" ∈ hx_all := kt_g (kt_1 (List.mem_of_getElem? (i := 112) rfl)) rfl
theorem kw_207 : Cond.laysFinal "SmallCourt$Books" "SmallCourt$Books" "owner" "[I" ∈ hx_all := kt_g (kt_1 (List.mem_of_getElem? (i := 114) rfl)) rfl
theorem kw_209 : Cond.laysFinal "SmallCourt$Books" "SmallCourt$Books" "with" "[I" ∈ hx_all := kt_g (kt_1 (List.mem_of_getElem? (i := 116) rfl)) rfl
theorem kw_211 : Cond.laysFinal "SmallCourt$Books" "SmallCourt$Books" "day" "[I" ∈ hx_all := kt_g (kt_1 (List.mem_of_getElem? (i := 118) rfl)) rfl
theorem kw_213 : Cond.laysFinal "SmallCourt$Books" "SmallCourt$Books" "kind" "[I" ∈ hx_all := kt_g (kt_1 (List.mem_of_getElem? (i := 120) rfl)) rfl
theorem kw_215 : Cond.laysFinal "SmallCourt$Books" "SmallCourt$Books" "sum" "[I" ∈ hx_all := kt_g (kt_1 (List.mem_of_getElem? (i := 122) rfl)) rfl
theorem kw_217 : Cond.laysFinal "SmallCourt$Books" "SmallCourt$Books" "byDay" "[I" ∈ hx_all := kt_g (kt_1 (List.mem_of_getElem? (i := 124) rfl)) rfl
theorem kw_219 : Cond.laysFinal "SmallCourt$Books" "SmallCourt$Books" "taken" "[Z" ∈ hx_all := kt_g (kt_1 (List.mem_of_getElem? (i := 126) rfl)) rfl
theorem kw_222 : Cond.arrayClass .boolean ∈ hx_all := kt_g (kt_1 (List.mem_of_getElem? (i := 129) rfl)) rfl
theorem kw_223 : Cond.classLink "SmallCourt" 46 "SmallCourt$Claim" ∈ hx_all := kt_g (kt_1 (List.mem_of_getElem? (i := 130) rfl)) rfl
theorem kw_224 : Cond.arrayOver (.object "SmallCourt$Claim") ∈ lw_tbl := kt_1 (List.mem_of_getElem? (i := 131) rfl)
theorem kw_225 : Cond.classLink "SmallCourt" 55 "SmallCourt$Payments" ∈ hx_all := kt_g (kt_1 (List.mem_of_getElem? (i := 132) rfl)) rfl
theorem kw_226 : Cond.instantiable "SmallCourt$Payments" 6 ∈ hx_all := kt_g (kt_1 (List.mem_of_getElem? (i := 133) rfl)) rfl
theorem kw_227 : Cond.methodLinkNest "SmallCourt" 57 yX3_init "SmallCourt" ∈ lw_tbl := kt_1 (List.mem_of_getElem? (i := 134) rfl)
theorem kw_228 : Cond.instanceMethod yX3_init ∈ hx_all := kt_g (kt_1 (List.mem_of_getElem? (i := 135) rfl)) rfl
theorem kw_229 : Cond.code yX3_init cX3_init 1 none ∈ hx_all := kt_g (kt_1 (List.mem_of_getElem? (i := 136) rfl)) rfl
theorem kw_230 : Cond.methodLink "SmallCourt$Payments" 3 Lib.objectInit ∈ hx_all := kt_g (kt_1 (List.mem_of_getElem? (i := 137) rfl)) rfl
theorem kw_231 : Cond.fieldLink "SmallCourt$Payments" 27 "SmallCourt$Payments" "count" "I" ∈ hx_all := kt_g (kt_1 (List.mem_of_getElem? (i := 138) rfl)) rfl
theorem kw_232 : Cond.fieldLink "SmallCourt" 278 "SmallCourt$Payments" "count" "I" ∈ hx_all := kt_g (kt_1 (List.mem_of_getElem? (i := 139) rfl)) rfl
theorem kw_233 : Cond.fieldLink "SmallCourt$Payments" 9 "SmallCourt$Payments" "struck" "[I" ∈ hx_all := kt_g (kt_1 (List.mem_of_getElem? (i := 140) rfl)) rfl
theorem kw_234 : Cond.fieldLink "SmallCourt" 286 "SmallCourt$Payments" "struck" "[I" ∈ hx_all := kt_g (kt_1 (List.mem_of_getElem? (i := 141) rfl)) rfl
theorem kw_235 : Cond.fieldLink "SmallCourt$Payments" 15 "SmallCourt$Payments" "of" "[I" ∈ hx_all := kt_g (kt_1 (List.mem_of_getElem? (i := 142) rfl)) rfl
theorem kw_236 : Cond.fieldLink "SmallCourt$Payments" 18 "SmallCourt$Payments" "day" "[I" ∈ hx_all := kt_g (kt_1 (List.mem_of_getElem? (i := 143) rfl)) rfl
theorem kw_237 : Cond.fieldLink "SmallCourt$Payments" 21 "SmallCourt$Payments" "known" "[I" ∈ hx_all := kt_g (kt_1 (List.mem_of_getElem? (i := 144) rfl)) rfl
theorem kw_238 : Cond.fieldLink "SmallCourt$Payments" 24 "SmallCourt$Payments" "sum" "[I" ∈ hx_all := kt_g (kt_1 (List.mem_of_getElem? (i := 145) rfl)) rfl
theorem kw_239 : Cond.lays "SmallCourt$Payments" "SmallCourt$Payments" "count" "I" ∈ hx_all := kt_g (kt_1 (List.mem_of_getElem? (i := 146) rfl)) rfl
theorem kw_241 : Cond.laysFinal "SmallCourt$Payments" "SmallCourt$Payments" "struck" "[I" ∈ hx_all := kt_g (kt_1 (List.mem_of_getElem? (i := 148) rfl)) rfl
theorem kw_243 : Cond.laysFinal "SmallCourt$Payments" "SmallCourt$Payments" "of" "[I" ∈ hx_all := kt_g (kt_1 (List.mem_of_getElem? (i := 150) rfl)) rfl
theorem kw_245 : Cond.laysFinal "SmallCourt$Payments" "SmallCourt$Payments" "day" "[I" ∈ hx_all := kt_g (kt_1 (List.mem_of_getElem? (i := 152) rfl)) rfl
theorem kw_247 : Cond.laysFinal "SmallCourt$Payments" "SmallCourt$Payments" "known" "[I" ∈ hx_all := kt_g (kt_1 (List.mem_of_getElem? (i := 154) rfl)) rfl
theorem kw_249 : Cond.laysFinal "SmallCourt$Payments" "SmallCourt$Payments" "sum" "[I" ∈ hx_all := kt_g (kt_1 (List.mem_of_getElem? (i := 156) rfl)) rfl
theorem kw_252 : Cond.classLink "SmallCourt" 69 "SmallCourt$Plan" ∈ hx_all := kt_g (kt_1 (List.mem_of_getElem? (i := 159) rfl)) rfl
theorem kw_253 : Cond.instantiable "SmallCourt$Plan" 13 ∈ hx_all := kt_g (kt_1 (List.mem_of_getElem? (i := 160) rfl)) rfl
theorem kw_254 : Cond.methodLinkNest "SmallCourt" 71 yX5_init "SmallCourt" ∈ lw_tbl := kt_1 (List.mem_of_getElem? (i := 161) rfl)
theorem kw_255 : Cond.instanceMethod yX5_init ∈ hx_all := kt_g (kt_1 (List.mem_of_getElem? (i := 162) rfl)) rfl
theorem kw_256 : Cond.code yX5_init cX5_init 1 none ∈ hx_all := kt_g (kt_1 (List.mem_of_getElem? (i := 163) rfl)) rfl
theorem kw_257 : Cond.methodLink "SmallCourt$Plan" 3 Lib.objectInit ∈ hx_all := kt_g (kt_1 (List.mem_of_getElem? (i := 164) rfl)) rfl
theorem kw_258 : Cond.fieldLink "SmallCourt$Plan" 33 "SmallCourt$Plan" "open" "I" ∈ hx_all := kt_g (kt_1 (List.mem_of_getElem? (i := 165) rfl)) rfl
theorem kw_259 : Cond.fieldLink "SmallCourt" 326 "SmallCourt$Plan" "open" "I" ∈ hx_all := kt_g (kt_1 (List.mem_of_getElem? (i := 166) rfl)) rfl
theorem kw_260 : Cond.fieldLink "SmallCourt$Plan" 81 "SmallCourt$Plan" "told" "I" ∈ hx_all := kt_g (kt_1 (List.mem_of_getElem? (i := 167) rfl)) rfl
theorem kw_261 : Cond.fieldLink "SmallCourt" 337 "SmallCourt$Plan" "told" "I" ∈ hx_all := kt_g (kt_1 (List.mem_of_getElem? (i := 168) rfl)) rfl
theorem kw_262 : Cond.fieldLink "SmallCourt$Plan" 9 "SmallCourt$Plan" "claims" "[I" ∈ hx_all := kt_g (kt_1 (List.mem_of_getElem? (i := 169) rfl)) rfl
theorem kw_263 : Cond.fieldLink "SmallCourt" 339 "SmallCourt$Plan" "claims" "[I" ∈ hx_all := kt_g (kt_1 (List.mem_of_getElem? (i := 170) rfl)) rfl
theorem kw_264 : Cond.fieldLink "SmallCourt$Plan" 15 "SmallCourt$Plan" "weekly" "[I" ∈ hx_all := kt_g (kt_1 (List.mem_of_getElem? (i := 171) rfl)) rfl
theorem kw_265 : Cond.fieldLink "SmallCourt" 341 "SmallCourt$Plan" "weekly" "[I" ∈ hx_all := kt_g (kt_1 (List.mem_of_getElem? (i := 172) rfl)) rfl
theorem kw_266 : Cond.fieldLink "SmallCourt$Plan" 18 "SmallCourt$Plan" "weeks" "[I" ∈ hx_all := kt_g (kt_1 (List.mem_of_getElem? (i := 173) rfl)) rfl
theorem kw_267 : Cond.fieldLink "SmallCourt" 343 "SmallCourt$Plan" "weeks" "[I" ∈ hx_all := kt_g (kt_1 (List.mem_of_getElem? (i := 174) rfl)) rfl
theorem kw_268 : Cond.fieldLink "SmallCourt$Plan" 21 "SmallCourt$Plan" "opened" "[I" ∈ hx_all := kt_g (kt_1 (List.mem_of_getElem? (i := 175) rfl)) rfl
theorem kw_269 : Cond.fieldLink "SmallCourt$Plan" 24 "SmallCourt$Plan" "rest" "[I" ∈ hx_all := kt_g (kt_1 (List.mem_of_getElem? (i := 176) rfl)) rfl
theorem kw_270 : Cond.fieldLink "SmallCourt$Plan" 27 "SmallCourt$Plan" "least" "[I" ∈ hx_all := kt_g (kt_1 (List.mem_of_getElem? (i := 177) rfl)) rfl
theorem kw_271 : Cond.fieldLink "SmallCourt$Plan" 30 "SmallCourt$Plan" "tried" "[I" ∈ hx_all := kt_g (kt_1 (List.mem_of_getElem? (i := 178) rfl)) rfl
theorem kw_272 : Cond.fieldLink "SmallCourt$Plan" 37 "SmallCourt$Plan" "unit" "I" ∈ hx_all := kt_g (kt_1 (List.mem_of_getElem? (i := 179) rfl)) rfl
theorem kw_273 : Cond.fieldLink "SmallCourt$Plan" 40 "SmallCourt$Plan" "means" "I" ∈ hx_all := kt_g (kt_1 (List.mem_of_getElem? (i := 180) rfl)) rfl
theorem kw_274 : Cond.fieldLink "SmallCourt$Plan" 68 "SmallCourt$Plan" "bestLast" "I" ∈ hx_all := kt_g (kt_1 (List.mem_of_getElem? (i := 181) rfl)) rfl
theorem kw_275 : Cond.fieldLink "SmallCourt$Plan" 71 "SmallCourt$Plan" "bestAll" "I" ∈ hx_all := kt_g (kt_1 (List.mem_of_getElem? (i := 182) rfl)) rfl
theorem kw_276 : Cond.lays "SmallCourt$Plan" "SmallCourt$Plan" "open" "I" ∈ hx_all := kt_g (kt_1 (List.mem_of_getElem? (i := 183) rfl)) rfl
theorem kw_278 : Cond.lays "SmallCourt$Plan" "SmallCourt$Plan" "told" "I" ∈ hx_all := kt_g (kt_1 (List.mem_of_getElem? (i := 185) rfl)) rfl
theorem kw_280 : Cond.laysFinal "SmallCourt$Plan" "SmallCourt$Plan" "claims" "[I" ∈ hx_all := kt_g (kt_1 (List.mem_of_getElem? (i := 187) rfl)) rfl
theorem kw_282 : Cond.laysFinal "SmallCourt$Plan" "SmallCourt$Plan" "weekly" "[I" ∈ hx_all := kt_g (kt_1 (List.mem_of_getElem? (i := 189) rfl)) rfl
theorem kw_284 : Cond.laysFinal "SmallCourt$Plan" "SmallCourt$Plan" "weeks" "[I" ∈ hx_all := kt_g (kt_1 (List.mem_of_getElem? (i := 191) rfl)) rfl
theorem kw_286 : Cond.laysFinal "SmallCourt$Plan" "SmallCourt$Plan" "opened" "[I" ∈ hx_all := kt_g (kt_1 (List.mem_of_getElem? (i := 193) rfl)) rfl
theorem kw_288 : Cond.laysFinal "SmallCourt$Plan" "SmallCourt$Plan" "rest" "[I" ∈ hx_all := kt_g (kt_1 (List.mem_of_getElem? (i := 195) rfl)) rfl
theorem kw_290 : Cond.laysFinal "SmallCourt$Plan" "SmallCourt$Plan" "least" "[I" ∈ hx_all := kt_g (kt_1 (List.mem_of_getElem? (i := 197) rfl)) rfl
theorem kw_292 : Cond.laysFinal "SmallCourt$Plan" "SmallCourt$Plan" "tried" "[I" ∈ hx_all := kt_g (kt_1 (List.mem_of_getElem? (i := 199) rfl)) rfl
theorem kw_294 : Cond.lays "SmallCourt$Plan" "SmallCourt$Plan" "unit" "I" ∈ hx_all := kt_g (kt_1 (List.mem_of_getElem? (i := 201) rfl)) rfl
theorem kw_296 : Cond.lays "SmallCourt$Plan" "SmallCourt$Plan" "means" "I" ∈ hx_all := kt_g (kt_1 (List.mem_of_getElem? (i := 203) rfl)) rfl
theorem kw_298 : Cond.lays "SmallCourt$Plan" "SmallCourt$Plan" "bestLast" "I" ∈ hx_all := kt_g (kt_1 (List.mem_of_getElem? (i := 205) rfl)) rfl
theorem kw_300 : Cond.lays "SmallCourt$Plan" "SmallCourt$Plan" "bestAll" "I" ∈ hx_all := kt_g (kt_1 (List.mem_of_getElem? (i := 207) rfl)) rfl
theorem kw_303 : Cond.classLink "SmallCourt" 76 "SmallCourt$Rings" ∈ hx_all := kt_g (kt_1 (List.mem_of_getElem? (i := 210) rfl)) rfl
theorem kw_304 : Cond.instantiable "SmallCourt$Rings" 8 ∈ hx_all := kt_g (kt_1 (List.mem_of_getElem? (i := 211) rfl)) rfl
theorem kw_305 : Cond.methodLinkNest "SmallCourt" 78 yX7_init "SmallCourt" ∈ lw_tbl := kt_1 (List.mem_of_getElem? (i := 212) rfl)
theorem kw_306 : Cond.instanceMethod yX7_init ∈ hx_all := kt_g (kt_1 (List.mem_of_getElem? (i := 213) rfl)) rfl
theorem kw_307 : Cond.code yX7_init cX7_init 1 none ∈ hx_all := kt_g (kt_1 (List.mem_of_getElem? (i := 214) rfl)) rfl
theorem kw_308 : Cond.methodLink "SmallCourt$Rings" 3 Lib.objectInit ∈ hx_all := kt_g (kt_1 (List.mem_of_getElem? (i := 215) rfl)) rfl
theorem kw_309 : Cond.fieldLink "SmallCourt$Rings" 9 "SmallCourt$Rings" "count" "I" ∈ hx_all := kt_g (kt_1 (List.mem_of_getElem? (i := 216) rfl)) rfl
theorem kw_310 : Cond.fieldLink "SmallCourt" 374 "SmallCourt$Rings" "count" "I" ∈ hx_all := kt_g (kt_1 (List.mem_of_getElem? (i := 217) rfl)) rfl
theorem kw_311 : Cond.fieldLink "SmallCourt$Rings" 31 "SmallCourt$Rings" "bestLength" "I" ∈ hx_all := kt_g (kt_1 (List.mem_of_getElem? (i := 218) rfl)) rfl
theorem kw_312 : Cond.fieldLink "SmallCourt" 361 "SmallCourt$Rings" "bestLength" "I" ∈ hx_all := kt_g (kt_1 (List.mem_of_getElem? (i := 219) rfl)) rfl
theorem kw_313 : Cond.fieldLink "SmallCourt$Rings" 34 "SmallCourt$Rings" "bestLeast" "I" ∈ hx_all := kt_g (kt_1 (List.mem_of_getElem? (i := 220) rfl)) rfl
theorem kw_314 : Cond.fieldLink "SmallCourt" 364 "SmallCourt$Rings" "bestLeast" "I" ∈ hx_all := kt_g (kt_1 (List.mem_of_getElem? (i := 221) rfl)) rfl
theorem kw_315 : Cond.fieldLink "SmallCourt$Rings" 15 "SmallCourt$Rings" "leasts" "[I" ∈ hx_all := kt_g (kt_1 (List.mem_of_getElem? (i := 222) rfl)) rfl
theorem kw_316 : Cond.fieldLink "SmallCourt" 375 "SmallCourt$Rings" "leasts" "[I" ∈ hx_all := kt_g (kt_1 (List.mem_of_getElem? (i := 223) rfl)) rfl
theorem kw_317 : Cond.fieldLink "SmallCourt$Rings" 28 "SmallCourt$Rings" "size" "I" ∈ hx_all := kt_g (kt_1 (List.mem_of_getElem? (i := 224) rfl)) rfl
theorem kw_318 : Cond.fieldLink "SmallCourt$Rings" 19 "SmallCourt$Rings" "owes" "[I" ∈ hx_all := kt_g (kt_1 (List.mem_of_getElem? (i := 225) rfl)) rfl
theorem kw_319 : Cond.fieldLink "SmallCourt$Rings" 22 "SmallCourt$Rings" "ring" "[I" ∈ hx_all := kt_g (kt_1 (List.mem_of_getElem? (i := 226) rfl)) rfl
theorem kw_320 : Cond.fieldLink "SmallCourt$Rings" 25 "SmallCourt$Rings" "best" "[I" ∈ hx_all := kt_g (kt_1 (List.mem_of_getElem? (i := 227) rfl)) rfl
theorem kw_321 : Cond.lays "SmallCourt$Rings" "SmallCourt$Rings" "count" "I" ∈ hx_all := kt_g (kt_1 (List.mem_of_getElem? (i := 228) rfl)) rfl
theorem kw_323 : Cond.lays "SmallCourt$Rings" "SmallCourt$Rings" "bestLength" "I" ∈ hx_all := kt_g (kt_1 (List.mem_of_getElem? (i := 230) rfl)) rfl
theorem kw_325 : Cond.lays "SmallCourt$Rings" "SmallCourt$Rings" "bestLeast" "I" ∈ hx_all := kt_g (kt_1 (List.mem_of_getElem? (i := 232) rfl)) rfl
theorem kw_327 : Cond.laysFinal "SmallCourt$Rings" "SmallCourt$Rings" "leasts" "[I" ∈ hx_all := kt_g (kt_1 (List.mem_of_getElem? (i := 234) rfl)) rfl
theorem kw_329 : Cond.lays "SmallCourt$Rings" "SmallCourt$Rings" "size" "I" ∈ hx_all := kt_g (kt_1 (List.mem_of_getElem? (i := 236) rfl)) rfl
theorem kw_331 : Cond.laysFinal "SmallCourt$Rings" "SmallCourt$Rings" "owes" "[I" ∈ hx_all := kt_g (kt_1 (List.mem_of_getElem? (i := 238) rfl)) rfl
theorem kw_333 : Cond.laysFinal "SmallCourt$Rings" "SmallCourt$Rings" "ring" "[I" ∈ hx_all := kt_g (kt_2 (List.mem_of_getElem? (i := 0) rfl)) rfl
theorem kw_335 : Cond.laysFinal "SmallCourt$Rings" "SmallCourt$Rings" "best" "[I" ∈ hx_all := kt_g (kt_2 (List.mem_of_getElem? (i := 2) rfl)) rfl
theorem kw_338 : Cond.classLink "SmallCourt" 83 "SmallCourt$Walk" ∈ hx_all := kt_g (kt_2 (List.mem_of_getElem? (i := 5) rfl)) rfl
theorem kw_339 : Cond.instantiable "SmallCourt$Walk" 5 ∈ hx_all := kt_g (kt_2 (List.mem_of_getElem? (i := 6) rfl)) rfl
theorem kw_340 : Cond.methodLinkNest "SmallCourt" 85 yX8_init "SmallCourt" ∈ lw_tbl := kt_2 (List.mem_of_getElem? (i := 7) rfl)
theorem kw_341 : Cond.instanceMethod yX8_init ∈ hx_all := kt_g (kt_2 (List.mem_of_getElem? (i := 8) rfl)) rfl
theorem kw_342 : Cond.code yX8_init cX8_init 1 none ∈ hx_all := kt_g (kt_2 (List.mem_of_getElem? (i := 9) rfl)) rfl
theorem kw_343 : Cond.methodLink "SmallCourt$Walk" 3 Lib.objectInit ∈ hx_all := kt_g (kt_2 (List.mem_of_getElem? (i := 10) rfl)) rfl
theorem kw_344 : Cond.classLink "SmallCourt$Walk" 15 "SmallCourt$Claim" ∈ hx_all := kt_g (kt_2 (List.mem_of_getElem? (i := 11) rfl)) rfl
theorem kw_345 : Cond.fieldLink "SmallCourt$Walk" 24 "SmallCourt$Walk" "listed" "I" ∈ hx_all := kt_g (kt_2 (List.mem_of_getElem? (i := 12) rfl)) rfl
theorem kw_346 : Cond.fieldLink "SmallCourt" 381 "SmallCourt$Walk" "listed" "I" ∈ hx_all := kt_g (kt_2 (List.mem_of_getElem? (i := 13) rfl)) rfl
theorem kw_347 : Cond.fieldLink "SmallCourt$Walk" 47 "SmallCourt$Walk" "walked" "I" ∈ hx_all := kt_g (kt_2 (List.mem_of_getElem? (i := 14) rfl)) rfl
theorem kw_348 : Cond.fieldLink "SmallCourt" 391 "SmallCourt$Walk" "walked" "I" ∈ hx_all := kt_g (kt_2 (List.mem_of_getElem? (i := 15) rfl)) rfl
theorem kw_349 : Cond.fieldLink "SmallCourt$Walk" 9 "SmallCourt$Walk" "latest" "[I" ∈ hx_all := kt_g (kt_2 (List.mem_of_getElem? (i := 16) rfl)) rfl
theorem kw_350 : Cond.fieldLink "SmallCourt" 394 "SmallCourt$Walk" "latest" "[I" ∈ hx_all := kt_g (kt_2 (List.mem_of_getElem? (i := 17) rfl)) rfl
theorem kw_351 : Cond.fieldLink "SmallCourt$Walk" 17 "SmallCourt$Walk" "list" "[LSmallCourt$Claim;" ∈ hx_all := kt_g (kt_2 (List.mem_of_getElem? (i := 18) rfl)) rfl
theorem kw_352 : Cond.fieldLink "SmallCourt$Walk" 21 "SmallCourt$Walk" "left" "[I" ∈ hx_all := kt_g (kt_2 (List.mem_of_getElem? (i := 19) rfl)) rfl
theorem kw_353 : Cond.lays "SmallCourt$Walk" "SmallCourt$Walk" "listed" "I" ∈ hx_all := kt_g (kt_2 (List.mem_of_getElem? (i := 20) rfl)) rfl
theorem kw_355 : Cond.lays "SmallCourt$Walk" "SmallCourt$Walk" "walked" "I" ∈ hx_all := kt_g (kt_2 (List.mem_of_getElem? (i := 22) rfl)) rfl
theorem kw_357 : Cond.laysFinal "SmallCourt$Walk" "SmallCourt$Walk" "latest" "[I" ∈ hx_all := kt_g (kt_2 (List.mem_of_getElem? (i := 24) rfl)) rfl
theorem kw_359 : Cond.laysFinal "SmallCourt$Walk" "SmallCourt$Walk" "list" "[LSmallCourt$Claim;" ∈ hx_all := kt_g (kt_2 (List.mem_of_getElem? (i := 26) rfl)) rfl
theorem kw_361 : Cond.laysFinal "SmallCourt$Walk" "SmallCourt$Walk" "left" "[I" ∈ hx_all := kt_g (kt_2 (List.mem_of_getElem? (i := 28) rfl)) rfl
theorem kw_364 : Cond.fieldLink "SmallCourt" 9 "SmallCourt" "tape" "[B" ∈ hx_all := kt_g (kt_2 (List.mem_of_getElem? (i := 31) rfl)) rfl
theorem kw_365 : Cond.fieldLink "SmallCourt" 98 "SmallCourt" "tapeLength" "I" ∈ hx_all := kt_g (kt_2 (List.mem_of_getElem? (i := 32) rfl)) rfl
theorem kw_366 : Cond.fieldLink "SmallCourt" 94 "SmallCourt" "now" "I" ∈ hx_all := kt_g (kt_2 (List.mem_of_getElem? (i := 33) rfl)) rfl
theorem kw_367 : Cond.fieldLink "SmallCourt" 16 "SmallCourt" "reader" "LSmallCourt$Reader;" ∈ hx_all := kt_g (kt_2 (List.mem_of_getElem? (i := 34) rfl)) rfl
theorem kw_368 : Cond.fieldLink "SmallCourt" 25 "SmallCourt" "without" "LSmallCourt$Act;" ∈ hx_all := kt_g (kt_2 (List.mem_of_getElem? (i := 35) rfl)) rfl
theorem kw_369 : Cond.fieldLink "SmallCourt" 29 "SmallCourt" "acts" "[LSmallCourt$Act;" ∈ hx_all := kt_g (kt_2 (List.mem_of_getElem? (i := 36) rfl)) rfl
theorem kw_370 : Cond.fieldLink "SmallCourt" 105 "SmallCourt" "actCount" "I" ∈ hx_all := kt_g (kt_2 (List.mem_of_getElem? (i := 37) rfl)) rfl
theorem kw_371 : Cond.fieldLink "SmallCourt" 35 "SmallCourt" "persons" "[LSmallCourt$Person;" ∈ hx_all := kt_g (kt_2 (List.mem_of_getElem? (i := 38) rfl)) rfl
theorem kw_372 : Cond.fieldLink "SmallCourt" 125 "SmallCourt" "personCount" "I" ∈ hx_all := kt_g (kt_2 (List.mem_of_getElem? (i := 39) rfl)) rfl
theorem kw_373 : Cond.fieldLink "SmallCourt" 42 "SmallCourt" "books" "LSmallCourt$Books;" ∈ hx_all := kt_g (kt_2 (List.mem_of_getElem? (i := 40) rfl)) rfl
theorem kw_374 : Cond.fieldLink "SmallCourt" 48 "SmallCourt" "claims" "[LSmallCourt$Claim;" ∈ hx_all := kt_g (kt_2 (List.mem_of_getElem? (i := 41) rfl)) rfl
theorem kw_375 : Cond.fieldLink "SmallCourt" 181 "SmallCourt" "claimCount" "I" ∈ hx_all := kt_g (kt_2 (List.mem_of_getElem? (i := 42) rfl)) rfl
theorem kw_376 : Cond.fieldLink "SmallCourt" 52 "SmallCourt" "heard" "[LSmallCourt$Claim;" ∈ hx_all := kt_g (kt_2 (List.mem_of_getElem? (i := 43) rfl)) rfl
theorem kw_377 : Cond.fieldLink "SmallCourt" 216 "SmallCourt" "heardCount" "I" ∈ hx_all := kt_g (kt_2 (List.mem_of_getElem? (i := 44) rfl)) rfl
theorem kw_378 : Cond.fieldLink "SmallCourt" 58 "SmallCourt" "payments" "LSmallCourt$Payments;" ∈ hx_all := kt_g (kt_2 (List.mem_of_getElem? (i := 45) rfl)) rfl
theorem kw_379 : Cond.fieldLink "SmallCourt" 62 "SmallCourt" "fit" "[I" ∈ hx_all := kt_g (kt_2 (List.mem_of_getElem? (i := 46) rfl)) rfl
theorem kw_380 : Cond.fieldLink "SmallCourt" 66 "SmallCourt" "rests" "[I" ∈ hx_all := kt_g (kt_2 (List.mem_of_getElem? (i := 47) rfl)) rfl
theorem kw_381 : Cond.fieldLink "SmallCourt" 72 "SmallCourt" "planning" "LSmallCourt$Plan;" ∈ hx_all := kt_g (kt_2 (List.mem_of_getElem? (i := 48) rfl)) rfl
theorem kw_382 : Cond.fieldLink "SmallCourt" 79 "SmallCourt" "rings" "LSmallCourt$Rings;" ∈ hx_all := kt_g (kt_2 (List.mem_of_getElem? (i := 49) rfl)) rfl
theorem kw_383 : Cond.fieldLink "SmallCourt" 86 "SmallCourt" "walking" "LSmallCourt$Walk;" ∈ hx_all := kt_g (kt_2 (List.mem_of_getElem? (i := 50) rfl)) rfl
theorem kw_384 : Cond.laysFinal "SmallCourt" "SmallCourt" "tape" "[B" ∈ hx_all := kt_g (kt_2 (List.mem_of_getElem? (i := 51) rfl)) rfl
theorem kw_386 : Cond.lays "SmallCourt" "SmallCourt" "tapeLength" "I" ∈ hx_all := kt_g (kt_2 (List.mem_of_getElem? (i := 53) rfl)) rfl
theorem kw_388 : Cond.lays "SmallCourt" "SmallCourt" "now" "I" ∈ hx_all := kt_g (kt_2 (List.mem_of_getElem? (i := 55) rfl)) rfl
theorem kw_390 : Cond.laysFinal "SmallCourt" "SmallCourt" "reader" "LSmallCourt$Reader;" ∈ hx_all := kt_g (kt_2 (List.mem_of_getElem? (i := 57) rfl)) rfl
theorem kw_392 : Cond.laysFinal "SmallCourt" "SmallCourt" "without" "LSmallCourt$Act;" ∈ hx_all := kt_g (kt_2 (List.mem_of_getElem? (i := 59) rfl)) rfl
theorem kw_394 : Cond.laysFinal "SmallCourt" "SmallCourt" "acts" "[LSmallCourt$Act;" ∈ hx_all := kt_g (kt_2 (List.mem_of_getElem? (i := 61) rfl)) rfl
theorem kw_396 : Cond.lays "SmallCourt" "SmallCourt" "actCount" "I" ∈ hx_all := kt_g (kt_2 (List.mem_of_getElem? (i := 63) rfl)) rfl
theorem kw_398 : Cond.laysFinal "SmallCourt" "SmallCourt" "persons" "[LSmallCourt$Person;" ∈ hx_all := kt_g (kt_2 (List.mem_of_getElem? (i := 65) rfl)) rfl
theorem kw_400 : Cond.lays "SmallCourt" "SmallCourt" "personCount" "I" ∈ hx_all := kt_g (kt_2 (List.mem_of_getElem? (i := 67) rfl)) rfl
theorem kw_402 : Cond.laysFinal "SmallCourt" "SmallCourt" "books" "LSmallCourt$Books;" ∈ hx_all := kt_g (kt_2 (List.mem_of_getElem? (i := 69) rfl)) rfl
theorem kw_404 : Cond.laysFinal "SmallCourt" "SmallCourt" "claims" "[LSmallCourt$Claim;" ∈ hx_all := kt_g (kt_2 (List.mem_of_getElem? (i := 71) rfl)) rfl
theorem kw_406 : Cond.lays "SmallCourt" "SmallCourt" "claimCount" "I" ∈ hx_all := kt_g (kt_2 (List.mem_of_getElem? (i := 73) rfl)) rfl
theorem kw_408 : Cond.laysFinal "SmallCourt" "SmallCourt" "heard" "[LSmallCourt$Claim;" ∈ hx_all := kt_g (kt_2 (List.mem_of_getElem? (i := 75) rfl)) rfl
theorem kw_410 : Cond.lays "SmallCourt" "SmallCourt" "heardCount" "I" ∈ hx_all := kt_g (kt_2 (List.mem_of_getElem? (i := 77) rfl)) rfl
theorem kw_412 : Cond.laysFinal "SmallCourt" "SmallCourt" "payments" "LSmallCourt$Payments;" ∈ hx_all := kt_g (kt_2 (List.mem_of_getElem? (i := 79) rfl)) rfl
theorem kw_414 : Cond.laysFinal "SmallCourt" "SmallCourt" "fit" "[I" ∈ hx_all := kt_g (kt_2 (List.mem_of_getElem? (i := 81) rfl)) rfl
theorem kw_416 : Cond.laysFinal "SmallCourt" "SmallCourt" "rests" "[I" ∈ hx_all := kt_g (kt_2 (List.mem_of_getElem? (i := 83) rfl)) rfl
theorem kw_418 : Cond.laysFinal "SmallCourt" "SmallCourt" "planning" "LSmallCourt$Plan;" ∈ hx_all := kt_g (kt_2 (List.mem_of_getElem? (i := 85) rfl)) rfl
theorem kw_420 : Cond.laysFinal "SmallCourt" "SmallCourt" "rings" "LSmallCourt$Rings;" ∈ hx_all := kt_g (kt_2 (List.mem_of_getElem? (i := 87) rfl)) rfl
theorem kw_422 : Cond.laysFinal "SmallCourt" "SmallCourt" "walking" "LSmallCourt$Walk;" ∈ hx_all := kt_g (kt_2 (List.mem_of_getElem? (i := 89) rfl)) rfl
theorem kw_425 : Cond.methodLink "SmallCourtLaw" 13 yX9_clock ∈ hx_all := kt_g (kt_2 (List.mem_of_getElem? (i := 92) rfl)) rfl
theorem kw_426 : Cond.instanceMethod yX9_clock ∈ hx_all := kt_g (kt_2 (List.mem_of_getElem? (i := 93) rfl)) rfl
theorem kw_427 : Cond.selects "SmallCourt" yX9_clock yX9_clock ∈ hx_all := kt_g (kt_2 (List.mem_of_getElem? (i := 94) rfl)) rfl
theorem kw_428 : Cond.code yX9_clock cX9_clock 2 (some .boolean) ∈ hx_all := kt_g (kt_2 (List.mem_of_getElem? (i := 95) rfl)) rfl
theorem kw_429 : Cond.methodLink "SmallCourt" 90 yX9_isDay ∈ hx_all := kt_g (kt_2 (List.mem_of_getElem? (i := 96) rfl)) rfl
theorem kw_430 : Cond.static yX9_isDay ∈ hx_all := kt_g (kt_2 (List.mem_of_getElem? (i := 97) rfl)) rfl
theorem kw_431 : Cond.code yX9_isDay cX9_isDay 1 (some .boolean) ∈ hx_all := kt_g (kt_2 (List.mem_of_getElem? (i := 98) rfl)) rfl
theorem kw_432 : Cond.methodLink "SmallCourt" 128 yX9_isWithin ∈ hx_all := kt_g (kt_2 (List.mem_of_getElem? (i := 99) rfl)) rfl
theorem kw_433 : Cond.static yX9_isWithin ∈ hx_all := kt_g (kt_2 (List.mem_of_getElem? (i := 100) rfl)) rfl
theorem kw_434 : Cond.code yX9_isWithin cX9_isWithin 3 (some .boolean) ∈ hx_all := kt_g (kt_2 (List.mem_of_getElem? (i := 101) rfl)) rfl
theorem kw_435 : Cond.methodLink "SmallCourtLaw" 18 yX9_feed ∈ hx_all := kt_g (kt_2 (List.mem_of_getElem? (i := 102) rfl)) rfl
theorem kw_436 : Cond.instanceMethod yX9_feed ∈ hx_all := kt_g (kt_2 (List.mem_of_getElem? (i := 103) rfl)) rfl
theorem kw_437 : Cond.selects "SmallCourt" yX9_feed yX9_feed ∈ hx_all := kt_g (kt_2 (List.mem_of_getElem? (i := 104) rfl)) rfl
theorem kw_438 : Cond.code yX9_feed cX9_feed 6 (some .int) ∈ hx_all := kt_g (kt_2 (List.mem_of_getElem? (i := 105) rfl)) rfl
theorem kw_439 : Cond.methodLink "SmallCourt" 101 yX9_feedBytes ∈ hx_all := kt_g (kt_2 (List.mem_of_getElem? (i := 106) rfl)) rfl
theorem kw_441 : Cond.instanceMethod yX9_feedBytes ∈ hx_all := kt_g (kt_2 (List.mem_of_getElem? (i := 108) rfl)) rfl
theorem kw_442 : Cond.code yX9_feedBytes cX9_feedBytes 3 none ∈ hx_all := kt_g (kt_2 (List.mem_of_getElem? (i := 109) rfl)) rfl
theorem kw_443 : Cond.methodLink "SmallCourtLaw" 23 yX9_end ∈ hx_all := kt_g (kt_2 (List.mem_of_getElem? (i := 110) rfl)) rfl
theorem kw_444 : Cond.instanceMethod yX9_end ∈ hx_all := kt_g (kt_2 (List.mem_of_getElem? (i := 111) rfl)) rfl
theorem kw_445 : Cond.selects "SmallCourt" yX9_end yX9_end ∈ hx_all := kt_g (kt_2 (List.mem_of_getElem? (i := 112) rfl)) rfl
theorem kw_446 : Cond.code yX9_end cX9_end 2 (some .int) ∈ hx_all := kt_g (kt_2 (List.mem_of_getElem? (i := 113) rfl)) rfl
theorem kw_447 : Cond.methodLink "SmallCourtLaw" 28 yX9_act ∈ hx_all := kt_g (kt_2 (List.mem_of_getElem? (i := 114) rfl)) rfl
theorem kw_448 : Cond.instanceMethod yX9_act ∈ hx_all := kt_g (kt_2 (List.mem_of_getElem? (i := 115) rfl)) rfl
theorem kw_449 : Cond.selects "SmallCourt" yX9_act yX9_act ∈ hx_all := kt_g (kt_2 (List.mem_of_getElem? (i := 116) rfl)) rfl
theorem kw_450 : Cond.code yX9_act cX9_act 4 (some .int) ∈ hx_all := kt_g (kt_2 (List.mem_of_getElem? (i := 117) rfl)) rfl
theorem kw_451 : Cond.methodLink "SmallCourt" 108 yX6_readAct ∈ hx_all := kt_g (kt_2 (List.mem_of_getElem? (i := 118) rfl)) rfl
theorem kw_452 : Cond.instanceMethod yX6_readAct ∈ hx_all := kt_g (kt_2 (List.mem_of_getElem? (i := 119) rfl)) rfl
theorem kw_453 : Cond.selects "SmallCourt$Reader" yX6_readAct yX6_readAct ∈ hx_all := kt_g (kt_2 (List.mem_of_getElem? (i := 120) rfl)) rfl
theorem kw_454 : Cond.code yX6_readAct cX6_readAct 6 (some .int) ∈ hx_all := kt_g (kt_2 (List.mem_of_getElem? (i := 121) rfl)) rfl
theorem kw_455 : Cond.methodLink "SmallCourt$Reader" 35 yX6_skipBlanks ∈ hx_all := kt_g (kt_2 (List.mem_of_getElem? (i := 122) rfl)) rfl
theorem kw_457 : Cond.instanceMethod yX6_skipBlanks ∈ hx_all := kt_g (kt_2 (List.mem_of_getElem? (i := 124) rfl)) rfl
theorem kw_458 : Cond.code yX6_skipBlanks cX6_skipBlanks 1 none ∈ hx_all := kt_g (kt_2 (List.mem_of_getElem? (i := 125) rfl)) rfl
theorem kw_459 : Cond.methodLink "SmallCourt$Reader" 38 yX6_readClause ∈ hx_all := kt_g (kt_2 (List.mem_of_getElem? (i := 126) rfl)) rfl
theorem kw_461 : Cond.instanceMethod yX6_readClause ∈ hx_all := kt_g (kt_2 (List.mem_of_getElem? (i := 128) rfl)) rfl
theorem kw_462 : Cond.code yX6_readClause cX6_readClause 3 (some .boolean) ∈ hx_all := kt_g (kt_2 (List.mem_of_getElem? (i := 129) rfl)) rfl
theorem kw_464 : Cond.methodLink "SmallCourt$Reader" 51 yX6_readWord ∈ hx_all := kt_g (kt_2 (List.mem_of_getElem? (i := 131) rfl)) rfl
theorem kw_466 : Cond.instanceMethod yX6_readWord ∈ hx_all := kt_g (kt_2 (List.mem_of_getElem? (i := 133) rfl)) rfl
theorem kw_467 : Cond.code yX6_readWord cX6_readWord 4 (some .int) ∈ hx_all := kt_g (kt_2 (List.mem_of_getElem? (i := 134) rfl)) rfl
theorem kw_468 : Cond.methodLink "SmallCourt$Reader" 125 yX6_wordEnd ∈ hx_all := kt_g (kt_2 (List.mem_of_getElem? (i := 135) rfl)) rfl
theorem kw_470 : Cond.instanceMethod yX6_wordEnd ∈ hx_all := kt_g (kt_2 (List.mem_of_getElem? (i := 137) rfl)) rfl
theorem kw_471 : Cond.code yX6_wordEnd cX6_wordEnd 2 (some .int) ∈ hx_all := kt_g (kt_2 (List.mem_of_getElem? (i := 138) rfl)) rfl
theorem kw_472 : Cond.methodLink "SmallCourt$Reader" 128 yJ0_length_8abf5 ∈ hx_all := kt_g (kt_2 (List.mem_of_getElem? (i := 139) rfl)) rfl
theorem kw_473 : Cond.instanceMethod yJ0_length_8abf5 ∈ hx_all := kt_g (kt_2 (List.mem_of_getElem? (i := 140) rfl)) rfl
theorem kw_474 : Cond.selects "java/lang/String" yJ0_length_8abf5 yJ0_length_8abf5 ∈ hx_all := kt_g (kt_2 (List.mem_of_getElem? (i := 141) rfl)) rfl
theorem kw_475 : Cond.code yJ0_length_8abf5 cJ0_length_8abf5 1 (some .int) ∈ hx_all := kt_g (kt_2 (List.mem_of_getElem? (i := 142) rfl)) rfl
theorem kw_482 : Cond.methodLink "SmallCourt$Reader" 132 yX6_isSlot ∈ hx_all := kt_g (kt_2 (List.mem_of_getElem? (i := 149) rfl)) rfl
theorem kw_484 : Cond.instanceMethod yX6_isSlot ∈ hx_all := kt_g (kt_2 (List.mem_of_getElem? (i := 151) rfl)) rfl
theorem kw_485 : Cond.code yX6_isSlot cX6_isSlot 6 (some .boolean) ∈ hx_all := kt_g (kt_2 (List.mem_of_getElem? (i := 152) rfl)) rfl
theorem kw_486 : Cond.methodLink "SmallCourt$Reader" 136 yJ0_charAt_5068e ∈ hx_all := kt_g (kt_2 (List.mem_of_getElem? (i := 153) rfl)) rfl
theorem kw_487 : Cond.instanceMethod yJ0_charAt_5068e ∈ hx_all := kt_g (kt_2 (List.mem_of_getElem? (i := 154) rfl)) rfl
theorem kw_488 : Cond.selects "java/lang/String" yJ0_charAt_5068e yJ0_charAt_5068e ∈ hx_all := kt_g (kt_2 (List.mem_of_getElem? (i := 155) rfl)) rfl
theorem kw_489 : Cond.code yJ0_charAt_5068e cJ0_charAt_5068e 2 (some .char) ∈ hx_all := kt_g (kt_2 (List.mem_of_getElem? (i := 156) rfl)) rfl
theorem kw_524 : Cond.methodLink "SmallCourt$Reader" 45 yX6_refuse ∈ hx_all := kt_g (kt_2 (List.mem_of_getElem? (i := 191) rfl)) rfl
theorem kw_526 : Cond.instanceMethod yX6_refuse ∈ hx_all := kt_g (kt_2 (List.mem_of_getElem? (i := 193) rfl)) rfl
theorem kw_527 : Cond.code yX6_refuse cX6_refuse 3 (some .boolean) ∈ hx_all := kt_g (kt_2 (List.mem_of_getElem? (i := 194) rfl)) rfl
theorem kw_528 : Cond.methodLink "SmallCourt$Reader" 55 yX6_readCost ∈ hx_all := kt_g (kt_2 (List.mem_of_getElem? (i := 195) rfl)) rfl
theorem kw_530 : Cond.instanceMethod yX6_readCost ∈ hx_all := kt_g (kt_2 (List.mem_of_getElem? (i := 197) rfl)) rfl
theorem kw_531 : Cond.code yX6_readCost cX6_readCost 3 (some .boolean) ∈ hx_all := kt_g (kt_2 (List.mem_of_getElem? (i := 198) rfl)) rfl
theorem kw_533 : Cond.methodLink "SmallCourt$Reader" 63 yX6_tellOnce ∈ hx_all := kt_g (kt_2 (List.mem_of_getElem? (i := 200) rfl)) rfl
theorem kw_535 : Cond.instanceMethod yX6_tellOnce ∈ hx_all := kt_g (kt_2 (List.mem_of_getElem? (i := 202) rfl)) rfl
theorem kw_536 : Cond.code yX6_tellOnce cX6_tellOnce 4 (some .boolean) ∈ hx_all := kt_g (kt_2 (List.mem_of_getElem? (i := 203) rfl)) rfl
theorem kw_537 : Cond.methodLink "SmallCourt$Reader" 70 yX6_readTold ∈ hx_all := kt_g (kt_2 (List.mem_of_getElem? (i := 204) rfl)) rfl
theorem kw_539 : Cond.instanceMethod yX6_readTold ∈ hx_all := kt_g (kt_2 (List.mem_of_getElem? (i := 206) rfl)) rfl
theorem kw_540 : Cond.code yX6_readTold cX6_readTold 4 (some .boolean) ∈ hx_all := kt_g (kt_2 (List.mem_of_getElem? (i := 207) rfl)) rfl
theorem kw_541 : Cond.methodLink "SmallCourt$Reader" 75 yX6_isDigit ∈ hx_all := kt_g (kt_2 (List.mem_of_getElem? (i := 208) rfl)) rfl
theorem kw_543 : Cond.instanceMethod yX6_isDigit ∈ hx_all := kt_g (kt_2 (List.mem_of_getElem? (i := 210) rfl)) rfl
theorem kw_544 : Cond.code yX6_isDigit cX6_isDigit 2 (some .boolean) ∈ hx_all := kt_g (kt_2 (List.mem_of_getElem? (i := 211) rfl)) rfl
theorem kw_545 : Cond.methodLink "SmallCourt$Reader" 78 yX6_readNumber ∈ hx_all := kt_g (kt_2 (List.mem_of_getElem? (i := 212) rfl)) rfl
theorem kw_547 : Cond.instanceMethod yX6_readNumber ∈ hx_all := kt_g (kt_2 (List.mem_of_getElem? (i := 214) rfl)) rfl
theorem kw_548 : Cond.code yX6_readNumber cX6_readNumber 3 (some .int) ∈ hx_all := kt_g (kt_2 (List.mem_of_getElem? (i := 215) rfl)) rfl
theorem kw_549 : Cond.fieldLinkNest "SmallCourt$Reader" 82 "SmallCourt" "LEAST_TOLD" "[I" "SmallCourt" ∈ lw_tbl := kt_2 (List.mem_of_getElem? (i := 216) rfl)
theorem kw_551 : Cond.fieldLinkNest "SmallCourt$Reader" 86 "SmallCourt" "MOST_TOLD" "[I" "SmallCourt" ∈ lw_tbl := kt_2 (List.mem_of_getElem? (i := 218) rfl)
theorem kw_553 : Cond.methodLink "SmallCourt$Reader" 66 yX6_readEither ∈ hx_all := kt_g (kt_2 (List.mem_of_getElem? (i := 220) rfl)) rfl
theorem kw_555 : Cond.instanceMethod yX6_readEither ∈ hx_all := kt_g (kt_2 (List.mem_of_getElem? (i := 222) rfl)) rfl
theorem kw_556 : Cond.code yX6_readEither cX6_readEither 5 (some .boolean) ∈ hx_all := kt_g (kt_2 (List.mem_of_getElem? (i := 223) rfl)) rfl
theorem kw_557 : Cond.methodLink "SmallCourt$Reader" 92 yX6_readOne ∈ hx_all := kt_g (kt_2 (List.mem_of_getElem? (i := 224) rfl)) rfl
theorem kw_559 : Cond.instanceMethod yX6_readOne ∈ hx_all := kt_g (kt_2 (List.mem_of_getElem? (i := 226) rfl)) rfl
theorem kw_560 : Cond.code yX6_readOne cX6_readOne 3 (some .boolean) ∈ hx_all := kt_g (kt_2 (List.mem_of_getElem? (i := 227) rfl)) rfl
theorem kw_562 : Cond.methodLink "SmallCourt$Reader" 101 yX6_isNextWord ∈ hx_all := kt_g (kt_2 (List.mem_of_getElem? (i := 229) rfl)) rfl
theorem kw_564 : Cond.instanceMethod yX6_isNextWord ∈ hx_all := kt_g (kt_2 (List.mem_of_getElem? (i := 231) rfl)) rfl
theorem kw_565 : Cond.code yX6_isNextWord cX6_isNextWord 3 (some .boolean) ∈ hx_all := kt_g (kt_2 (List.mem_of_getElem? (i := 232) rfl)) rfl
theorem kw_566 : Cond.methodLink "SmallCourt$Reader" 109 yX6_isByte ∈ hx_all := kt_g (kt_2 (List.mem_of_getElem? (i := 233) rfl)) rfl
theorem kw_568 : Cond.instanceMethod yX6_isByte ∈ hx_all := kt_g (kt_2 (List.mem_of_getElem? (i := 235) rfl)) rfl
theorem kw_569 : Cond.code yX6_isByte cX6_isByte 2 (some .boolean) ∈ hx_all := kt_g (kt_2 (List.mem_of_getElem? (i := 236) rfl)) rfl
theorem kw_570 : Cond.methodLink "SmallCourt$Reader" 113 yX6_readTerm ∈ hx_all := kt_g (kt_2 (List.mem_of_getElem? (i := 237) rfl)) rfl
theorem kw_572 : Cond.instanceMethod yX6_readTerm ∈ hx_all := kt_g (kt_2 (List.mem_of_getElem? (i := 239) rfl)) rfl
theorem kw_573 : Cond.code yX6_readTerm cX6_readTerm 6 (some .boolean) ∈ hx_all := kt_g (kt_3 (List.mem_of_getElem? (i := 0) rfl)) rfl
theorem kw_575 : Cond.methodLink "SmallCourt$Reader" 118 yX6_readSign ∈ hx_all := kt_g (kt_3 (List.mem_of_getElem? (i := 2) rfl)) rfl
theorem kw_577 : Cond.instanceMethod yX6_readSign ∈ hx_all := kt_g (kt_3 (List.mem_of_getElem? (i := 4) rfl)) rfl
theorem kw_578 : Cond.code yX6_readSign cX6_readSign 2 (some .int) ∈ hx_all := kt_g (kt_3 (List.mem_of_getElem? (i := 5) rfl)) rfl
theorem kw_579 : Cond.methodLink "SmallCourt$Reader" 121 yX0_term ∈ hx_all := kt_g (kt_3 (List.mem_of_getElem? (i := 6) rfl)) rfl
theorem kw_580 : Cond.methodLink "SmallCourt$Reader" 95 yX0_addProof ∈ hx_all := kt_g (kt_3 (List.mem_of_getElem? (i := 7) rfl)) rfl
theorem kw_581 : Cond.instanceMethod yX0_addProof ∈ hx_all := kt_g (kt_3 (List.mem_of_getElem? (i := 8) rfl)) rfl
theorem kw_582 : Cond.selects "SmallCourt$Act" yX0_addProof yX0_addProof ∈ hx_all := kt_g (kt_3 (List.mem_of_getElem? (i := 9) rfl)) rfl
theorem kw_583 : Cond.code yX0_addProof cX0_addProof 2 none ∈ hx_all := kt_g (kt_3 (List.mem_of_getElem? (i := 10) rfl)) rfl
theorem kw_586 : Cond.methodLink "SmallCourt$Reader" 42 yX6_isAnotherClause ∈ hx_all := kt_g (kt_3 (List.mem_of_getElem? (i := 13) rfl)) rfl
theorem kw_588 : Cond.instanceMethod yX6_isAnotherClause ∈ hx_all := kt_g (kt_3 (List.mem_of_getElem? (i := 15) rfl)) rfl
theorem kw_589 : Cond.code yX6_isAnotherClause cX6_isAnotherClause 1 (some .boolean) ∈ hx_all := kt_g (kt_3 (List.mem_of_getElem? (i := 16) rfl)) rfl
theorem kw_590 : Cond.methodLink "SmallCourtLaw" 32 yX9_force ∈ hx_all := kt_g (kt_3 (List.mem_of_getElem? (i := 17) rfl)) rfl
theorem kw_591 : Cond.instanceMethod yX9_force ∈ hx_all := kt_g (kt_3 (List.mem_of_getElem? (i := 18) rfl)) rfl
theorem kw_592 : Cond.selects "SmallCourt" yX9_force yX9_force ∈ hx_all := kt_g (kt_3 (List.mem_of_getElem? (i := 19) rfl)) rfl
theorem kw_593 : Cond.code yX9_force cX9_force 4 (some .int) ∈ hx_all := kt_g (kt_3 (List.mem_of_getElem? (i := 20) rfl)) rfl
theorem kw_594 : Cond.methodLink "SmallCourt" 115 yX9_inForce ∈ hx_all := kt_g (kt_3 (List.mem_of_getElem? (i := 21) rfl)) rfl
theorem kw_596 : Cond.instanceMethod yX9_inForce ∈ hx_all := kt_g (kt_3 (List.mem_of_getElem? (i := 23) rfl)) rfl
theorem kw_597 : Cond.code yX9_inForce cX9_inForce 4 (some (.object "SmallCourt$Act")) ∈ hx_all := kt_g (kt_3 (List.mem_of_getElem? (i := 24) rfl)) rfl
theorem kw_598 : Cond.methodLink "SmallCourtLaw" 37 yX9_person ∈ hx_all := kt_g (kt_3 (List.mem_of_getElem? (i := 25) rfl)) rfl
theorem kw_599 : Cond.instanceMethod yX9_person ∈ hx_all := kt_g (kt_3 (List.mem_of_getElem? (i := 26) rfl)) rfl
theorem kw_600 : Cond.selects "SmallCourt" yX9_person yX9_person ∈ hx_all := kt_g (kt_3 (List.mem_of_getElem? (i := 27) rfl)) rfl
theorem kw_601 : Cond.code yX9_person cX9_person 8 (some .int) ∈ hx_all := kt_g (kt_3 (List.mem_of_getElem? (i := 28) rfl)) rfl
theorem kw_602 : Cond.methodLink "SmallCourt" 132 yX9_isHousehold ∈ hx_all := kt_g (kt_3 (List.mem_of_getElem? (i := 29) rfl)) rfl
theorem kw_603 : Cond.static yX9_isHousehold ∈ hx_all := kt_g (kt_3 (List.mem_of_getElem? (i := 30) rfl)) rfl
theorem kw_604 : Cond.code yX9_isHousehold cX9_isHousehold 4 (some .boolean) ∈ hx_all := kt_g (kt_3 (List.mem_of_getElem? (i := 31) rfl)) rfl
theorem kw_605 : Cond.instantiable "SmallCourt$Person" 10 ∈ hx_all := kt_g (kt_3 (List.mem_of_getElem? (i := 32) rfl)) rfl
theorem kw_606 : Cond.methodLink "SmallCourt" 136 yX4_init ∈ hx_all := kt_g (kt_3 (List.mem_of_getElem? (i := 33) rfl)) rfl
theorem kw_607 : Cond.instanceMethod yX4_init ∈ hx_all := kt_g (kt_3 (List.mem_of_getElem? (i := 34) rfl)) rfl
theorem kw_608 : Cond.code yX4_init cX4_init 4 none ∈ hx_all := kt_g (kt_3 (List.mem_of_getElem? (i := 35) rfl)) rfl
theorem kw_609 : Cond.methodLink "SmallCourt$Person" 3 Lib.objectInit ∈ hx_all := kt_g (kt_3 (List.mem_of_getElem? (i := 36) rfl)) rfl
theorem kw_610 : Cond.fieldLink "SmallCourt$Person" 9 "SmallCourt$Person" "number" "I" ∈ hx_all := kt_g (kt_3 (List.mem_of_getElem? (i := 37) rfl)) rfl
theorem kw_611 : Cond.fieldLink "SmallCourt$Rings" 67 "SmallCourt$Person" "number" "I" ∈ hx_all := kt_g (kt_3 (List.mem_of_getElem? (i := 38) rfl)) rfl
theorem kw_612 : Cond.fieldLink "SmallCourt" 143 "SmallCourt$Person" "number" "I" ∈ hx_all := kt_g (kt_3 (List.mem_of_getElem? (i := 39) rfl)) rfl
theorem kw_613 : Cond.fieldLink "SmallCourt$Person" 15 "SmallCourt$Person" "born" "I" ∈ hx_all := kt_g (kt_3 (List.mem_of_getElem? (i := 40) rfl)) rfl
theorem kw_614 : Cond.fieldLink "SmallCourt" 243 "SmallCourt$Person" "born" "I" ∈ hx_all := kt_g (kt_3 (List.mem_of_getElem? (i := 41) rfl)) rfl
theorem kw_615 : Cond.fieldLink "SmallCourt$Person" 18 "SmallCourt$Person" "kin" "I" ∈ hx_all := kt_g (kt_3 (List.mem_of_getElem? (i := 42) rfl)) rfl
theorem kw_616 : Cond.fieldLink "SmallCourt$Person" 21 "SmallCourt$Person" "earns" "I" ∈ hx_all := kt_g (kt_3 (List.mem_of_getElem? (i := 43) rfl)) rfl
theorem kw_617 : Cond.fieldLink "SmallCourt$Person" 24 "SmallCourt$Person" "heads" "I" ∈ hx_all := kt_g (kt_3 (List.mem_of_getElem? (i := 44) rfl)) rfl
theorem kw_618 : Cond.fieldLink "SmallCourt$Person" 27 "SmallCourt$Person" "x" "I" ∈ hx_all := kt_g (kt_3 (List.mem_of_getElem? (i := 45) rfl)) rfl
theorem kw_619 : Cond.fieldLink "SmallCourt$Walk" 71 "SmallCourt$Person" "x" "I" ∈ hx_all := kt_g (kt_3 (List.mem_of_getElem? (i := 46) rfl)) rfl
theorem kw_620 : Cond.fieldLink "SmallCourt$Person" 30 "SmallCourt$Person" "y" "I" ∈ hx_all := kt_g (kt_3 (List.mem_of_getElem? (i := 47) rfl)) rfl
theorem kw_621 : Cond.fieldLink "SmallCourt$Walk" 79 "SmallCourt$Person" "y" "I" ∈ hx_all := kt_g (kt_3 (List.mem_of_getElem? (i := 48) rfl)) rfl
theorem kw_622 : Cond.fieldLink "SmallCourt$Person" 43 "SmallCourt$Person" "dead" "Z" ∈ hx_all := kt_g (kt_3 (List.mem_of_getElem? (i := 49) rfl)) rfl
theorem kw_623 : Cond.fieldLink "SmallCourt" 148 "SmallCourt$Person" "dead" "Z" ∈ hx_all := kt_g (kt_3 (List.mem_of_getElem? (i := 50) rfl)) rfl
theorem kw_624 : Cond.fieldLink "SmallCourt$Person" 39 "SmallCourt$Person" "isJudge" "Z" ∈ hx_all := kt_g (kt_3 (List.mem_of_getElem? (i := 51) rfl)) rfl
theorem kw_625 : Cond.fieldLink "SmallCourt" 152 "SmallCourt$Person" "isJudge" "Z" ∈ hx_all := kt_g (kt_3 (List.mem_of_getElem? (i := 52) rfl)) rfl
theorem kw_626 : Cond.fieldLink "SmallCourt" 155 "SmallCourt$Person" "wasJudge" "Z" ∈ hx_all := kt_g (kt_3 (List.mem_of_getElem? (i := 53) rfl)) rfl
theorem kw_627 : Cond.laysFinal "SmallCourt$Person" "SmallCourt$Person" "number" "I" ∈ hx_all := kt_g (kt_3 (List.mem_of_getElem? (i := 54) rfl)) rfl
theorem kw_629 : Cond.laysFinal "SmallCourt$Person" "SmallCourt$Person" "born" "I" ∈ hx_all := kt_g (kt_3 (List.mem_of_getElem? (i := 56) rfl)) rfl
theorem kw_631 : Cond.laysFinal "SmallCourt$Person" "SmallCourt$Person" "kin" "I" ∈ hx_all := kt_g (kt_3 (List.mem_of_getElem? (i := 58) rfl)) rfl
theorem kw_633 : Cond.lays "SmallCourt$Person" "SmallCourt$Person" "earns" "I" ∈ hx_all := kt_g (kt_3 (List.mem_of_getElem? (i := 60) rfl)) rfl
theorem kw_635 : Cond.lays "SmallCourt$Person" "SmallCourt$Person" "heads" "I" ∈ hx_all := kt_g (kt_3 (List.mem_of_getElem? (i := 62) rfl)) rfl
theorem kw_637 : Cond.lays "SmallCourt$Person" "SmallCourt$Person" "x" "I" ∈ hx_all := kt_g (kt_3 (List.mem_of_getElem? (i := 64) rfl)) rfl
theorem kw_639 : Cond.lays "SmallCourt$Person" "SmallCourt$Person" "y" "I" ∈ hx_all := kt_g (kt_3 (List.mem_of_getElem? (i := 66) rfl)) rfl
theorem kw_641 : Cond.lays "SmallCourt$Person" "SmallCourt$Person" "dead" "Z" ∈ hx_all := kt_g (kt_3 (List.mem_of_getElem? (i := 68) rfl)) rfl
theorem kw_643 : Cond.lays "SmallCourt$Person" "SmallCourt$Person" "isJudge" "Z" ∈ hx_all := kt_g (kt_3 (List.mem_of_getElem? (i := 70) rfl)) rfl
theorem kw_645 : Cond.lays "SmallCourt$Person" "SmallCourt$Person" "wasJudge" "Z" ∈ hx_all := kt_g (kt_3 (List.mem_of_getElem? (i := 72) rfl)) rfl
theorem kw_648 : Cond.methodLink "SmallCourt" 139 yX4_tell ∈ hx_all := kt_g (kt_3 (List.mem_of_getElem? (i := 75) rfl)) rfl
theorem kw_649 : Cond.instanceMethod yX4_tell ∈ hx_all := kt_g (kt_3 (List.mem_of_getElem? (i := 76) rfl)) rfl
theorem kw_650 : Cond.selects "SmallCourt$Person" yX4_tell yX4_tell ∈ hx_all := kt_g (kt_3 (List.mem_of_getElem? (i := 77) rfl)) rfl
theorem kw_651 : Cond.code yX4_tell cX4_tell 5 none ∈ hx_all := kt_g (kt_3 (List.mem_of_getElem? (i := 78) rfl)) rfl
theorem kw_652 : Cond.methodLink "SmallCourtLaw" 42 yX9_anew ∈ hx_all := kt_g (kt_3 (List.mem_of_getElem? (i := 79) rfl)) rfl
theorem kw_653 : Cond.instanceMethod yX9_anew ∈ hx_all := kt_g (kt_3 (List.mem_of_getElem? (i := 80) rfl)) rfl
theorem kw_654 : Cond.selects "SmallCourt" yX9_anew yX9_anew ∈ hx_all := kt_g (kt_3 (List.mem_of_getElem? (i := 81) rfl)) rfl
theorem kw_655 : Cond.code yX9_anew cX9_anew 7 (some .boolean) ∈ hx_all := kt_g (kt_3 (List.mem_of_getElem? (i := 82) rfl)) rfl
theorem kw_656 : Cond.methodLink "SmallCourt" 144 yX9_personAt ∈ hx_all := kt_g (kt_3 (List.mem_of_getElem? (i := 83) rfl)) rfl
theorem kw_658 : Cond.instanceMethod yX9_personAt ∈ hx_all := kt_g (kt_3 (List.mem_of_getElem? (i := 85) rfl)) rfl
theorem kw_659 : Cond.code yX9_personAt cX9_personAt 2 (some (.object "SmallCourt$Person")) ∈ hx_all := kt_g (kt_3 (List.mem_of_getElem? (i := 86) rfl)) rfl
theorem kw_660 : Cond.methodLink "SmallCourtLaw" 47 yX9_dies ∈ hx_all := kt_g (kt_3 (List.mem_of_getElem? (i := 87) rfl)) rfl
theorem kw_661 : Cond.instanceMethod yX9_dies ∈ hx_all := kt_g (kt_3 (List.mem_of_getElem? (i := 88) rfl)) rfl
theorem kw_662 : Cond.selects "SmallCourt" yX9_dies yX9_dies ∈ hx_all := kt_g (kt_3 (List.mem_of_getElem? (i := 89) rfl)) rfl
theorem kw_663 : Cond.code yX9_dies cX9_dies 3 (some .boolean) ∈ hx_all := kt_g (kt_3 (List.mem_of_getElem? (i := 90) rfl)) rfl
theorem kw_664 : Cond.methodLink "SmallCourtLaw" 51 yX9_judge ∈ hx_all := kt_g (kt_3 (List.mem_of_getElem? (i := 91) rfl)) rfl
theorem kw_665 : Cond.instanceMethod yX9_judge ∈ hx_all := kt_g (kt_3 (List.mem_of_getElem? (i := 92) rfl)) rfl
theorem kw_666 : Cond.selects "SmallCourt" yX9_judge yX9_judge ∈ hx_all := kt_g (kt_3 (List.mem_of_getElem? (i := 93) rfl)) rfl
theorem kw_667 : Cond.code yX9_judge cX9_judge 4 (some .boolean) ∈ hx_all := kt_g (kt_3 (List.mem_of_getElem? (i := 94) rfl)) rfl
theorem kw_668 : Cond.methodLink "SmallCourtLaw" 56 yX9_line ∈ hx_all := kt_g (kt_3 (List.mem_of_getElem? (i := 95) rfl)) rfl
theorem kw_669 : Cond.instanceMethod yX9_line ∈ hx_all := kt_g (kt_3 (List.mem_of_getElem? (i := 96) rfl)) rfl
theorem kw_670 : Cond.selects "SmallCourt" yX9_line yX9_line ∈ hx_all := kt_g (kt_3 (List.mem_of_getElem? (i := 97) rfl)) rfl
theorem kw_671 : Cond.code yX9_line cX9_line 6 (some .int) ∈ hx_all := kt_g (kt_3 (List.mem_of_getElem? (i := 98) rfl)) rfl
theorem kw_672 : Cond.methodLink "SmallCourt" 161 yX9_areTwo ∈ hx_all := kt_g (kt_3 (List.mem_of_getElem? (i := 99) rfl)) rfl
theorem kw_674 : Cond.instanceMethod yX9_areTwo ∈ hx_all := kt_g (kt_3 (List.mem_of_getElem? (i := 101) rfl)) rfl
theorem kw_675 : Cond.code yX9_areTwo cX9_areTwo 3 (some .boolean) ∈ hx_all := kt_g (kt_3 (List.mem_of_getElem? (i := 102) rfl)) rfl
theorem kw_676 : Cond.methodLink "SmallCourt" 165 yX1_addLine ∈ hx_all := kt_g (kt_3 (List.mem_of_getElem? (i := 103) rfl)) rfl
theorem kw_677 : Cond.instanceMethod yX1_addLine ∈ hx_all := kt_g (kt_3 (List.mem_of_getElem? (i := 104) rfl)) rfl
theorem kw_678 : Cond.selects "SmallCourt$Books" yX1_addLine yX1_addLine ∈ hx_all := kt_g (kt_3 (List.mem_of_getElem? (i := 105) rfl)) rfl
theorem kw_679 : Cond.code yX1_addLine cX1_addLine 7 none ∈ hx_all := kt_g (kt_3 (List.mem_of_getElem? (i := 106) rfl)) rfl
theorem kw_680 : Cond.methodLink "SmallCourtLaw" 60 yX9_book ∈ hx_all := kt_g (kt_3 (List.mem_of_getElem? (i := 107) rfl)) rfl
theorem kw_681 : Cond.instanceMethod yX9_book ∈ hx_all := kt_g (kt_3 (List.mem_of_getElem? (i := 108) rfl)) rfl
theorem kw_682 : Cond.selects "SmallCourt" yX9_book yX9_book ∈ hx_all := kt_g (kt_3 (List.mem_of_getElem? (i := 109) rfl)) rfl
theorem kw_683 : Cond.code yX9_book cX9_book 5 (some .int) ∈ hx_all := kt_g (kt_3 (List.mem_of_getElem? (i := 110) rfl)) rfl
theorem kw_684 : Cond.constant "SmallCourt" 169 (-1000000) ∈ hx_all := kt_g (kt_3 (List.mem_of_getElem? (i := 111) rfl)) rfl
theorem kw_685 : Cond.methodLink "SmallCourt" 170 yX1_sumWith ∈ hx_all := kt_g (kt_3 (List.mem_of_getElem? (i := 112) rfl)) rfl
theorem kw_686 : Cond.instanceMethod yX1_sumWith ∈ hx_all := kt_g (kt_3 (List.mem_of_getElem? (i := 113) rfl)) rfl
theorem kw_687 : Cond.selects "SmallCourt$Books" yX1_sumWith yX1_sumWith ∈ hx_all := kt_g (kt_3 (List.mem_of_getElem? (i := 114) rfl)) rfl
theorem kw_688 : Cond.code yX1_sumWith cX1_sumWith 6 (some .int) ∈ hx_all := kt_g (kt_3 (List.mem_of_getElem? (i := 115) rfl)) rfl
theorem kw_689 : Cond.methodLink "SmallCourt$Books" 38 yX1_isLine ∈ hx_all := kt_g (kt_3 (List.mem_of_getElem? (i := 116) rfl)) rfl
theorem kw_691 : Cond.instanceMethod yX1_isLine ∈ hx_all := kt_g (kt_3 (List.mem_of_getElem? (i := 118) rfl)) rfl
theorem kw_692 : Cond.code yX1_isLine cX1_isLine 5 (some .boolean) ∈ hx_all := kt_g (kt_3 (List.mem_of_getElem? (i := 119) rfl)) rfl
theorem kw_693 : Cond.methodLink "SmallCourt" 174 yX1_twinPairs ∈ hx_all := kt_g (kt_3 (List.mem_of_getElem? (i := 120) rfl)) rfl
theorem kw_694 : Cond.instanceMethod yX1_twinPairs ∈ hx_all := kt_g (kt_3 (List.mem_of_getElem? (i := 121) rfl)) rfl
theorem kw_695 : Cond.selects "SmallCourt$Books" yX1_twinPairs yX1_twinPairs ∈ hx_all := kt_g (kt_3 (List.mem_of_getElem? (i := 122) rfl)) rfl
theorem kw_696 : Cond.code yX1_twinPairs cX1_twinPairs 6 (some .int) ∈ hx_all := kt_g (kt_3 (List.mem_of_getElem? (i := 123) rfl)) rfl
theorem kw_697 : Cond.methodLink "SmallCourt$Books" 42 yX1_takeTwin ∈ hx_all := kt_g (kt_3 (List.mem_of_getElem? (i := 124) rfl)) rfl
theorem kw_699 : Cond.instanceMethod yX1_takeTwin ∈ hx_all := kt_g (kt_3 (List.mem_of_getElem? (i := 126) rfl)) rfl
theorem kw_700 : Cond.code yX1_takeTwin cX1_takeTwin 5 (some .boolean) ∈ hx_all := kt_g (kt_3 (List.mem_of_getElem? (i := 127) rfl)) rfl
theorem kw_701 : Cond.methodLink "SmallCourt$Books" 46 yX1_areTwins ∈ hx_all := kt_g (kt_3 (List.mem_of_getElem? (i := 128) rfl)) rfl
theorem kw_703 : Cond.instanceMethod yX1_areTwins ∈ hx_all := kt_g (kt_3 (List.mem_of_getElem? (i := 130) rfl)) rfl
theorem kw_704 : Cond.code yX1_areTwins cX1_areTwins 3 (some .boolean) ∈ hx_all := kt_g (kt_3 (List.mem_of_getElem? (i := 131) rfl)) rfl
theorem kw_705 : Cond.methodLink "SmallCourt$Books" 49 yJ9_abs_0f7a4 ∈ hx_all := kt_g (kt_3 (List.mem_of_getElem? (i := 132) rfl)) rfl
theorem kw_706 : Cond.static yJ9_abs_0f7a4 ∈ hx_all := kt_g (kt_3 (List.mem_of_getElem? (i := 133) rfl)) rfl
theorem kw_707 : Cond.code yJ9_abs_0f7a4 cJ9_abs_0f7a4 1 (some .int) ∈ hx_all := kt_g (kt_3 (List.mem_of_getElem? (i := 134) rfl)) rfl
theorem kw_708 : Cond.methodLink "SmallCourt" 177 yX1_disorder ∈ hx_all := kt_g (kt_3 (List.mem_of_getElem? (i := 135) rfl)) rfl
theorem kw_709 : Cond.instanceMethod yX1_disorder ∈ hx_all := kt_g (kt_3 (List.mem_of_getElem? (i := 136) rfl)) rfl
theorem kw_710 : Cond.selects "SmallCourt$Books" yX1_disorder yX1_disorder ∈ hx_all := kt_g (kt_3 (List.mem_of_getElem? (i := 137) rfl)) rfl
theorem kw_711 : Cond.code yX1_disorder cX1_disorder 5 (some .int) ∈ hx_all := kt_g (kt_3 (List.mem_of_getElem? (i := 138) rfl)) rfl
theorem kw_712 : Cond.methodLink "SmallCourtLaw" 65 yX9_file ∈ hx_all := kt_g (kt_3 (List.mem_of_getElem? (i := 139) rfl)) rfl
theorem kw_713 : Cond.instanceMethod yX9_file ∈ hx_all := kt_g (kt_3 (List.mem_of_getElem? (i := 140) rfl)) rfl
theorem kw_714 : Cond.selects "SmallCourt" yX9_file yX9_file ∈ hx_all := kt_g (kt_3 (List.mem_of_getElem? (i := 141) rfl)) rfl
theorem kw_715 : Cond.code yX9_file cX9_file 10 (some .int) ∈ hx_all := kt_g (kt_3 (List.mem_of_getElem? (i := 142) rfl)) rfl
theorem kw_716 : Cond.instantiable "SmallCourt$Claim" 19 ∈ hx_all := kt_g (kt_3 (List.mem_of_getElem? (i := 143) rfl)) rfl
theorem kw_717 : Cond.methodLink "SmallCourt" 184 yX2_init ∈ hx_all := kt_g (kt_3 (List.mem_of_getElem? (i := 144) rfl)) rfl
theorem kw_718 : Cond.instanceMethod yX2_init ∈ hx_all := kt_g (kt_3 (List.mem_of_getElem? (i := 145) rfl)) rfl
theorem kw_719 : Cond.code yX2_init cX2_init 5 none ∈ hx_all := kt_g (kt_3 (List.mem_of_getElem? (i := 146) rfl)) rfl
theorem kw_720 : Cond.methodLink "SmallCourt$Claim" 3 Lib.objectInit ∈ hx_all := kt_g (kt_3 (List.mem_of_getElem? (i := 147) rfl)) rfl
theorem kw_721 : Cond.fieldLink "SmallCourt$Claim" 34 "SmallCourt$Claim" "number" "I" ∈ hx_all := kt_g (kt_3 (List.mem_of_getElem? (i := 148) rfl)) rfl
theorem kw_722 : Cond.fieldLink "SmallCourt$Plan" 43 "SmallCourt$Claim" "number" "I" ∈ hx_all := kt_g (kt_3 (List.mem_of_getElem? (i := 149) rfl)) rfl
theorem kw_723 : Cond.fieldLink "SmallCourt$Walk" 28 "SmallCourt$Claim" "number" "I" ∈ hx_all := kt_g (kt_3 (List.mem_of_getElem? (i := 150) rfl)) rfl
theorem kw_724 : Cond.fieldLink "SmallCourt" 199 "SmallCourt$Claim" "number" "I" ∈ hx_all := kt_g (kt_3 (List.mem_of_getElem? (i := 151) rfl)) rfl
theorem kw_725 : Cond.fieldLink "SmallCourt$Claim" 37 "SmallCourt$Claim" "plaintiff" "LSmallCourt$Person;" ∈ hx_all := kt_g (kt_3 (List.mem_of_getElem? (i := 152) rfl)) rfl
theorem kw_726 : Cond.fieldLink "SmallCourt$Person" 46 "SmallCourt$Claim" "plaintiff" "LSmallCourt$Person;" ∈ hx_all := kt_g (kt_3 (List.mem_of_getElem? (i := 153) rfl)) rfl
theorem kw_727 : Cond.fieldLink "SmallCourt$Rings" 72 "SmallCourt$Claim" "plaintiff" "LSmallCourt$Person;" ∈ hx_all := kt_g (kt_3 (List.mem_of_getElem? (i := 154) rfl)) rfl
theorem kw_728 : Cond.fieldLink "SmallCourt" 223 "SmallCourt$Claim" "plaintiff" "LSmallCourt$Person;" ∈ hx_all := kt_g (kt_3 (List.mem_of_getElem? (i := 155) rfl)) rfl
theorem kw_729 : Cond.fieldLink "SmallCourt$Claim" 41 "SmallCourt$Claim" "defendant" "LSmallCourt$Person;" ∈ hx_all := kt_g (kt_3 (List.mem_of_getElem? (i := 156) rfl)) rfl
theorem kw_730 : Cond.fieldLink "SmallCourt$Person" 56 "SmallCourt$Claim" "defendant" "LSmallCourt$Person;" ∈ hx_all := kt_g (kt_3 (List.mem_of_getElem? (i := 157) rfl)) rfl
theorem kw_731 : Cond.fieldLink "SmallCourt$Rings" 61 "SmallCourt$Claim" "defendant" "LSmallCourt$Person;" ∈ hx_all := kt_g (kt_3 (List.mem_of_getElem? (i := 158) rfl)) rfl
theorem kw_732 : Cond.fieldLink "SmallCourt$Walk" 63 "SmallCourt$Claim" "defendant" "LSmallCourt$Person;" ∈ hx_all := kt_g (kt_3 (List.mem_of_getElem? (i := 159) rfl)) rfl
theorem kw_733 : Cond.fieldLink "SmallCourt" 212 "SmallCourt$Claim" "defendant" "LSmallCourt$Person;" ∈ hx_all := kt_g (kt_3 (List.mem_of_getElem? (i := 160) rfl)) rfl
theorem kw_734 : Cond.fieldLink "SmallCourt$Claim" 44 "SmallCourt$Claim" "act" "LSmallCourt$Act;" ∈ hx_all := kt_g (kt_3 (List.mem_of_getElem? (i := 161) rfl)) rfl
theorem kw_735 : Cond.fieldLink "SmallCourt$Plan" 48 "SmallCourt$Claim" "act" "LSmallCourt$Act;" ∈ hx_all := kt_g (kt_3 (List.mem_of_getElem? (i := 162) rfl)) rfl
theorem kw_736 : Cond.fieldLink "SmallCourt" 226 "SmallCourt$Claim" "act" "LSmallCourt$Act;" ∈ hx_all := kt_g (kt_3 (List.mem_of_getElem? (i := 163) rfl)) rfl
theorem kw_737 : Cond.fieldLink "SmallCourt$Claim" 9 "SmallCourt$Claim" "facts" "[I" ∈ hx_all := kt_g (kt_3 (List.mem_of_getElem? (i := 164) rfl)) rfl
theorem kw_738 : Cond.fieldLink "SmallCourt" 196 "SmallCourt$Claim" "facts" "[I" ∈ hx_all := kt_g (kt_3 (List.mem_of_getElem? (i := 165) rfl)) rfl
theorem kw_739 : Cond.fieldLink "SmallCourt$Claim" 15 "SmallCourt$Claim" "bench" "[I" ∈ hx_all := kt_g (kt_3 (List.mem_of_getElem? (i := 166) rfl)) rfl
theorem kw_740 : Cond.fieldLink "SmallCourt" 240 "SmallCourt$Claim" "bench" "[I" ∈ hx_all := kt_g (kt_3 (List.mem_of_getElem? (i := 167) rfl)) rfl
theorem kw_741 : Cond.fieldLink "SmallCourt" 187 "SmallCourt$Claim" "sum" "I" ∈ hx_all := kt_g (kt_3 (List.mem_of_getElem? (i := 168) rfl)) rfl
theorem kw_742 : Cond.fieldLink "SmallCourt" 190 "SmallCourt$Claim" "from" "I" ∈ hx_all := kt_g (kt_3 (List.mem_of_getElem? (i := 169) rfl)) rfl
theorem kw_743 : Cond.fieldLink "SmallCourt" 193 "SmallCourt$Claim" "filed" "I" ∈ hx_all := kt_g (kt_3 (List.mem_of_getElem? (i := 170) rfl)) rfl
theorem kw_744 : Cond.fieldLink "SmallCourt$Claim" 48 "SmallCourt$Claim" "tries" "I" ∈ hx_all := kt_g (kt_3 (List.mem_of_getElem? (i := 171) rfl)) rfl
theorem kw_745 : Cond.fieldLink "SmallCourt" 207 "SmallCourt$Claim" "tries" "I" ∈ hx_all := kt_g (kt_3 (List.mem_of_getElem? (i := 172) rfl)) rfl
theorem kw_746 : Cond.fieldLink "SmallCourt$Claim" 18 "SmallCourt$Claim" "found" "I" ∈ hx_all := kt_g (kt_3 (List.mem_of_getElem? (i := 173) rfl)) rfl
theorem kw_747 : Cond.fieldLink "SmallCourt" 204 "SmallCourt$Claim" "found" "I" ∈ hx_all := kt_g (kt_3 (List.mem_of_getElem? (i := 174) rfl)) rfl
theorem kw_748 : Cond.fieldLink "SmallCourt$Claim" 22 "SmallCourt$Claim" "heard" "I" ∈ hx_all := kt_g (kt_3 (List.mem_of_getElem? (i := 175) rfl)) rfl
theorem kw_749 : Cond.fieldLink "SmallCourt" 210 "SmallCourt$Claim" "heard" "I" ∈ hx_all := kt_g (kt_3 (List.mem_of_getElem? (i := 176) rfl)) rfl
theorem kw_750 : Cond.fieldLink "SmallCourt$Claim" 71 "SmallCourt$Claim" "judged" "I" ∈ hx_all := kt_g (kt_3 (List.mem_of_getElem? (i := 177) rfl)) rfl
theorem kw_751 : Cond.fieldLink "SmallCourt" 233 "SmallCourt$Claim" "judged" "I" ∈ hx_all := kt_g (kt_3 (List.mem_of_getElem? (i := 178) rfl)) rfl
theorem kw_752 : Cond.fieldLink "SmallCourt$Claim" 25 "SmallCourt$Claim" "ordered" "I" ∈ hx_all := kt_g (kt_3 (List.mem_of_getElem? (i := 179) rfl)) rfl
theorem kw_753 : Cond.fieldLink "SmallCourt" 253 "SmallCourt$Claim" "ordered" "I" ∈ hx_all := kt_g (kt_3 (List.mem_of_getElem? (i := 180) rfl)) rfl
theorem kw_754 : Cond.fieldLink "SmallCourt$Claim" 86 "SmallCourt$Claim" "weekly" "I" ∈ hx_all := kt_g (kt_3 (List.mem_of_getElem? (i := 181) rfl)) rfl
theorem kw_755 : Cond.fieldLink "SmallCourt" 271 "SmallCourt$Claim" "weekly" "I" ∈ hx_all := kt_g (kt_3 (List.mem_of_getElem? (i := 182) rfl)) rfl
theorem kw_756 : Cond.fieldLink "SmallCourt$Claim" 107 "SmallCourt$Claim" "owed" "I" ∈ hx_all := kt_g (kt_3 (List.mem_of_getElem? (i := 183) rfl)) rfl
theorem kw_757 : Cond.fieldLink "SmallCourt" 268 "SmallCourt$Claim" "owed" "I" ∈ hx_all := kt_g (kt_3 (List.mem_of_getElem? (i := 184) rfl)) rfl
theorem kw_758 : Cond.fieldLink "SmallCourt$Claim" 28 "SmallCourt$Claim" "seized" "I" ∈ hx_all := kt_g (kt_3 (List.mem_of_getElem? (i := 185) rfl)) rfl
theorem kw_759 : Cond.fieldLink "SmallCourt" 289 "SmallCourt$Claim" "seized" "I" ∈ hx_all := kt_g (kt_3 (List.mem_of_getElem? (i := 186) rfl)) rfl
theorem kw_760 : Cond.fieldLink "SmallCourt$Claim" 98 "SmallCourt$Claim" "worth" "I" ∈ hx_all := kt_g (kt_3 (List.mem_of_getElem? (i := 187) rfl)) rfl
theorem kw_761 : Cond.fieldLink "SmallCourt" 296 "SmallCourt$Claim" "worth" "I" ∈ hx_all := kt_g (kt_3 (List.mem_of_getElem? (i := 188) rfl)) rfl
theorem kw_762 : Cond.fieldLink "SmallCourt$Claim" 31 "SmallCourt$Claim" "served" "I" ∈ hx_all := kt_g (kt_3 (List.mem_of_getElem? (i := 189) rfl)) rfl
theorem kw_763 : Cond.fieldLink "SmallCourt" 279 "SmallCourt$Claim" "served" "I" ∈ hx_all := kt_g (kt_3 (List.mem_of_getElem? (i := 190) rfl)) rfl
theorem kw_764 : Cond.laysFinal "SmallCourt$Claim" "SmallCourt$Claim" "number" "I" ∈ hx_all := kt_g (kt_3 (List.mem_of_getElem? (i := 191) rfl)) rfl
theorem kw_766 : Cond.laysFinal "SmallCourt$Claim" "SmallCourt$Claim" "plaintiff" "LSmallCourt$Person;" ∈ hx_all := kt_g (kt_3 (List.mem_of_getElem? (i := 193) rfl)) rfl
theorem kw_768 : Cond.laysFinal "SmallCourt$Claim" "SmallCourt$Claim" "defendant" "LSmallCourt$Person;" ∈ hx_all := kt_g (kt_3 (List.mem_of_getElem? (i := 195) rfl)) rfl
theorem kw_770 : Cond.laysFinal "SmallCourt$Claim" "SmallCourt$Claim" "act" "LSmallCourt$Act;" ∈ hx_all := kt_g (kt_3 (List.mem_of_getElem? (i := 197) rfl)) rfl
theorem kw_772 : Cond.laysFinal "SmallCourt$Claim" "SmallCourt$Claim" "facts" "[I" ∈ hx_all := kt_g (kt_3 (List.mem_of_getElem? (i := 199) rfl)) rfl
theorem kw_774 : Cond.laysFinal "SmallCourt$Claim" "SmallCourt$Claim" "bench" "[I" ∈ hx_all := kt_g (kt_3 (List.mem_of_getElem? (i := 201) rfl)) rfl
theorem kw_776 : Cond.lays "SmallCourt$Claim" "SmallCourt$Claim" "sum" "I" ∈ hx_all := kt_g (kt_3 (List.mem_of_getElem? (i := 203) rfl)) rfl
theorem kw_778 : Cond.lays "SmallCourt$Claim" "SmallCourt$Claim" "from" "I" ∈ hx_all := kt_g (kt_3 (List.mem_of_getElem? (i := 205) rfl)) rfl
theorem kw_780 : Cond.lays "SmallCourt$Claim" "SmallCourt$Claim" "filed" "I" ∈ hx_all := kt_g (kt_3 (List.mem_of_getElem? (i := 207) rfl)) rfl
theorem kw_782 : Cond.lays "SmallCourt$Claim" "SmallCourt$Claim" "tries" "I" ∈ hx_all := kt_g (kt_3 (List.mem_of_getElem? (i := 209) rfl)) rfl
theorem kw_784 : Cond.lays "SmallCourt$Claim" "SmallCourt$Claim" "found" "I" ∈ hx_all := kt_g (kt_3 (List.mem_of_getElem? (i := 211) rfl)) rfl
theorem kw_786 : Cond.lays "SmallCourt$Claim" "SmallCourt$Claim" "heard" "I" ∈ hx_all := kt_g (kt_3 (List.mem_of_getElem? (i := 213) rfl)) rfl
theorem kw_788 : Cond.lays "SmallCourt$Claim" "SmallCourt$Claim" "judged" "I" ∈ hx_all := kt_g (kt_3 (List.mem_of_getElem? (i := 215) rfl)) rfl
theorem kw_790 : Cond.lays "SmallCourt$Claim" "SmallCourt$Claim" "ordered" "I" ∈ hx_all := kt_g (kt_3 (List.mem_of_getElem? (i := 217) rfl)) rfl
theorem kw_792 : Cond.lays "SmallCourt$Claim" "SmallCourt$Claim" "weekly" "I" ∈ hx_all := kt_g (kt_3 (List.mem_of_getElem? (i := 219) rfl)) rfl
theorem kw_794 : Cond.lays "SmallCourt$Claim" "SmallCourt$Claim" "owed" "I" ∈ hx_all := kt_g (kt_3 (List.mem_of_getElem? (i := 221) rfl)) rfl
theorem kw_796 : Cond.lays "SmallCourt$Claim" "SmallCourt$Claim" "seized" "I" ∈ hx_all := kt_g (kt_3 (List.mem_of_getElem? (i := 223) rfl)) rfl
theorem kw_798 : Cond.lays "SmallCourt$Claim" "SmallCourt$Claim" "worth" "I" ∈ hx_all := kt_g (kt_3 (List.mem_of_getElem? (i := 225) rfl)) rfl
theorem kw_800 : Cond.lays "SmallCourt$Claim" "SmallCourt$Claim" "served" "I" ∈ hx_all := kt_g (kt_3 (List.mem_of_getElem? (i := 227) rfl)) rfl
theorem kw_803 : Cond.methodLink "SmallCourtLaw" 70 yX9_summons ∈ hx_all := kt_g (kt_3 (List.mem_of_getElem? (i := 230) rfl)) rfl
theorem kw_804 : Cond.instanceMethod yX9_summons ∈ hx_all := kt_g (kt_3 (List.mem_of_getElem? (i := 231) rfl)) rfl
theorem kw_805 : Cond.selects "SmallCourt" yX9_summons yX9_summons ∈ hx_all := kt_g (kt_3 (List.mem_of_getElem? (i := 232) rfl)) rfl
theorem kw_806 : Cond.code yX9_summons cX9_summons 4 (some .int) ∈ hx_all := kt_g (kt_3 (List.mem_of_getElem? (i := 233) rfl)) rfl
theorem kw_807 : Cond.methodLink "SmallCourt" 200 yX9_claimAt ∈ hx_all := kt_g (kt_3 (List.mem_of_getElem? (i := 234) rfl)) rfl
theorem kw_809 : Cond.instanceMethod yX9_claimAt ∈ hx_all := kt_g (kt_3 (List.mem_of_getElem? (i := 236) rfl)) rfl
theorem kw_810 : Cond.code yX9_claimAt cX9_claimAt 2 (some (.object "SmallCourt$Claim")) ∈ hx_all := kt_g (kt_3 (List.mem_of_getElem? (i := 237) rfl)) rfl
theorem kw_811 : Cond.methodLink "SmallCourtLaw" 75 yX9_hear ∈ hx_all := kt_g (kt_3 (List.mem_of_getElem? (i := 238) rfl)) rfl
theorem kw_812 : Cond.instanceMethod yX9_hear ∈ hx_all := kt_g (kt_3 (List.mem_of_getElem? (i := 239) rfl)) rfl
theorem kw_813 : Cond.selects "SmallCourt" yX9_hear yX9_hear ∈ hx_all := kt_g (kt_4 (List.mem_of_getElem? (i := 0) rfl)) rfl
theorem kw_814 : Cond.code yX9_hear cX9_hear 8 (some .int) ∈ hx_all := kt_g (kt_4 (List.mem_of_getElem? (i := 1) rfl)) rfl
theorem kw_815 : Cond.methodLink "SmallCourt" 219 yX9_drawBench ∈ hx_all := kt_g (kt_4 (List.mem_of_getElem? (i := 2) rfl)) rfl
theorem kw_817 : Cond.instanceMethod yX9_drawBench ∈ hx_all := kt_g (kt_4 (List.mem_of_getElem? (i := 4) rfl)) rfl
theorem kw_818 : Cond.code yX9_drawBench cX9_drawBench 9 (some .boolean) ∈ hx_all := kt_g (kt_4 (List.mem_of_getElem? (i := 5) rfl)) rfl
theorem kw_819 : Cond.methodLink "SmallCourt" 236 yX4_maySit ∈ hx_all := kt_g (kt_4 (List.mem_of_getElem? (i := 6) rfl)) rfl
theorem kw_820 : Cond.instanceMethod yX4_maySit ∈ hx_all := kt_g (kt_4 (List.mem_of_getElem? (i := 7) rfl)) rfl
theorem kw_821 : Cond.selects "SmallCourt$Person" yX4_maySit yX4_maySit ∈ hx_all := kt_g (kt_4 (List.mem_of_getElem? (i := 8) rfl)) rfl
theorem kw_822 : Cond.code yX4_maySit cX4_maySit 2 (some .boolean) ∈ hx_all := kt_g (kt_4 (List.mem_of_getElem? (i := 9) rfl)) rfl
theorem kw_823 : Cond.methodLink "SmallCourt$Person" 52 yX4_isKinOf ∈ hx_all := kt_g (kt_4 (List.mem_of_getElem? (i := 10) rfl)) rfl
theorem kw_825 : Cond.instanceMethod yX4_isKinOf ∈ hx_all := kt_g (kt_4 (List.mem_of_getElem? (i := 12) rfl)) rfl
theorem kw_826 : Cond.code yX4_isKinOf cX4_isKinOf 2 (some .boolean) ∈ hx_all := kt_g (kt_4 (List.mem_of_getElem? (i := 13) rfl)) rfl
theorem kw_827 : Cond.methodLink "SmallCourt" 229 yX9_judgement ∈ hx_all := kt_g (kt_4 (List.mem_of_getElem? (i := 14) rfl)) rfl
theorem kw_829 : Cond.instanceMethod yX9_judgement ∈ hx_all := kt_g (kt_4 (List.mem_of_getElem? (i := 16) rfl)) rfl
theorem kw_830 : Cond.code yX9_judgement cX9_judgement 3 (some .int) ∈ hx_all := kt_g (kt_4 (List.mem_of_getElem? (i := 17) rfl)) rfl
theorem kw_831 : Cond.methodLink "SmallCourt" 246 yX9_sumOfSplit ∈ hx_all := kt_g (kt_4 (List.mem_of_getElem? (i := 18) rfl)) rfl
theorem kw_833 : Cond.instanceMethod yX9_sumOfSplit ∈ hx_all := kt_g (kt_4 (List.mem_of_getElem? (i := 20) rfl)) rfl
theorem kw_834 : Cond.code yX9_sumOfSplit cX9_sumOfSplit 6 (some .int) ∈ hx_all := kt_g (kt_4 (List.mem_of_getElem? (i := 21) rfl)) rfl
theorem kw_835 : Cond.methodLink "SmallCourt" 249 yX0_proves ∈ hx_all := kt_g (kt_4 (List.mem_of_getElem? (i := 22) rfl)) rfl
theorem kw_836 : Cond.instanceMethod yX0_proves ∈ hx_all := kt_g (kt_4 (List.mem_of_getElem? (i := 23) rfl)) rfl
theorem kw_837 : Cond.selects "SmallCourt$Act" yX0_proves yX0_proves ∈ hx_all := kt_g (kt_4 (List.mem_of_getElem? (i := 24) rfl)) rfl
theorem kw_838 : Cond.code yX0_proves cX0_proves 6 (some .boolean) ∈ hx_all := kt_g (kt_4 (List.mem_of_getElem? (i := 25) rfl)) rfl
theorem kw_839 : Cond.methodLink "SmallCourt$Act" 41 yX0_holds ∈ hx_all := kt_g (kt_4 (List.mem_of_getElem? (i := 26) rfl)) rfl
theorem kw_840 : Cond.static yX0_holds ∈ hx_all := kt_g (kt_4 (List.mem_of_getElem? (i := 27) rfl)) rfl
theorem kw_841 : Cond.code yX0_holds cX0_holds 5 (some .boolean) ∈ hx_all := kt_g (kt_4 (List.mem_of_getElem? (i := 28) rfl)) rfl
theorem kw_842 : Cond.methodLink "SmallCourtLaw" 80 yX9_order ∈ hx_all := kt_g (kt_4 (List.mem_of_getElem? (i := 29) rfl)) rfl
theorem kw_843 : Cond.instanceMethod yX9_order ∈ hx_all := kt_g (kt_4 (List.mem_of_getElem? (i := 30) rfl)) rfl
theorem kw_844 : Cond.selects "SmallCourt" yX9_order yX9_order ∈ hx_all := kt_g (kt_4 (List.mem_of_getElem? (i := 31) rfl)) rfl
theorem kw_845 : Cond.code yX9_order cX9_order 5 (some .int) ∈ hx_all := kt_g (kt_4 (List.mem_of_getElem? (i := 32) rfl)) rfl
theorem kw_846 : Cond.methodLink "SmallCourt" 256 yX2_costsBy ∈ hx_all := kt_g (kt_4 (List.mem_of_getElem? (i := 33) rfl)) rfl
theorem kw_847 : Cond.instanceMethod yX2_costsBy ∈ hx_all := kt_g (kt_4 (List.mem_of_getElem? (i := 34) rfl)) rfl
theorem kw_848 : Cond.selects "SmallCourt$Claim" yX2_costsBy yX2_costsBy ∈ hx_all := kt_g (kt_4 (List.mem_of_getElem? (i := 35) rfl)) rfl
theorem kw_849 : Cond.code yX2_costsBy cX2_costsBy 4 (some .int) ∈ hx_all := kt_g (kt_4 (List.mem_of_getElem? (i := 36) rfl)) rfl
theorem kw_850 : Cond.methodLink "SmallCourt" 260 yX9_openInstalments ∈ hx_all := kt_g (kt_4 (List.mem_of_getElem? (i := 37) rfl)) rfl
theorem kw_852 : Cond.instanceMethod yX9_openInstalments ∈ hx_all := kt_g (kt_4 (List.mem_of_getElem? (i := 39) rfl)) rfl
theorem kw_853 : Cond.code yX9_openInstalments cX9_openInstalments 4 (some .int) ∈ hx_all := kt_g (kt_4 (List.mem_of_getElem? (i := 40) rfl)) rfl
theorem kw_854 : Cond.methodLink "SmallCourt" 274 yX2_isOpen ∈ hx_all := kt_g (kt_4 (List.mem_of_getElem? (i := 41) rfl)) rfl
theorem kw_855 : Cond.instanceMethod yX2_isOpen ∈ hx_all := kt_g (kt_4 (List.mem_of_getElem? (i := 42) rfl)) rfl
theorem kw_856 : Cond.selects "SmallCourt$Claim" yX2_isOpen yX2_isOpen ∈ hx_all := kt_g (kt_4 (List.mem_of_getElem? (i := 43) rfl)) rfl
theorem kw_857 : Cond.code yX2_isOpen cX2_isOpen 3 (some .boolean) ∈ hx_all := kt_g (kt_4 (List.mem_of_getElem? (i := 44) rfl)) rfl
theorem kw_858 : Cond.methodLink "SmallCourt$Claim" 56 yX2_restOn ∈ hx_all := kt_g (kt_4 (List.mem_of_getElem? (i := 45) rfl)) rfl
theorem kw_859 : Cond.instanceMethod yX2_restOn ∈ hx_all := kt_g (kt_4 (List.mem_of_getElem? (i := 46) rfl)) rfl
theorem kw_860 : Cond.selects "SmallCourt$Claim" yX2_restOn yX2_restOn ∈ hx_all := kt_g (kt_4 (List.mem_of_getElem? (i := 47) rfl)) rfl
theorem kw_861 : Cond.code yX2_restOn cX2_restOn 4 (some .int) ∈ hx_all := kt_g (kt_4 (List.mem_of_getElem? (i := 48) rfl)) rfl
theorem kw_862 : Cond.methodLink "SmallCourt$Claim" 60 yX2_isDone ∈ hx_all := kt_g (kt_4 (List.mem_of_getElem? (i := 49) rfl)) rfl
theorem kw_863 : Cond.static yX2_isDone ∈ hx_all := kt_g (kt_4 (List.mem_of_getElem? (i := 50) rfl)) rfl
theorem kw_864 : Cond.code yX2_isDone cX2_isDone 2 (some .boolean) ∈ hx_all := kt_g (kt_4 (List.mem_of_getElem? (i := 51) rfl)) rfl
theorem kw_865 : Cond.methodLink "SmallCourt$Claim" 74 yX2_balanceOn ∈ hx_all := kt_g (kt_4 (List.mem_of_getElem? (i := 52) rfl)) rfl
theorem kw_866 : Cond.instanceMethod yX2_balanceOn ∈ hx_all := kt_g (kt_4 (List.mem_of_getElem? (i := 53) rfl)) rfl
theorem kw_867 : Cond.selects "SmallCourt$Claim" yX2_balanceOn yX2_balanceOn ∈ hx_all := kt_g (kt_4 (List.mem_of_getElem? (i := 54) rfl)) rfl
theorem kw_868 : Cond.code yX2_balanceOn cX2_balanceOn 4 (some .int) ∈ hx_all := kt_g (kt_4 (List.mem_of_getElem? (i := 55) rfl)) rfl
theorem kw_869 : Cond.methodLink "SmallCourt$Claim" 83 yX2_owedOn ∈ hx_all := kt_g (kt_4 (List.mem_of_getElem? (i := 56) rfl)) rfl
theorem kw_871 : Cond.instanceMethod yX2_owedOn ∈ hx_all := kt_g (kt_4 (List.mem_of_getElem? (i := 58) rfl)) rfl
theorem kw_872 : Cond.code yX2_owedOn cX2_owedOn 2 (some .int) ∈ hx_all := kt_g (kt_4 (List.mem_of_getElem? (i := 59) rfl)) rfl
theorem kw_873 : Cond.methodLink "SmallCourt$Claim" 92 yX2_paidOn ∈ hx_all := kt_g (kt_4 (List.mem_of_getElem? (i := 60) rfl)) rfl
theorem kw_874 : Cond.instanceMethod yX2_paidOn ∈ hx_all := kt_g (kt_4 (List.mem_of_getElem? (i := 61) rfl)) rfl
theorem kw_875 : Cond.selects "SmallCourt$Claim" yX2_paidOn yX2_paidOn ∈ hx_all := kt_g (kt_4 (List.mem_of_getElem? (i := 62) rfl)) rfl
theorem kw_876 : Cond.code yX2_paidOn cX2_paidOn 5 (some .int) ∈ hx_all := kt_g (kt_4 (List.mem_of_getElem? (i := 63) rfl)) rfl
theorem kw_877 : Cond.methodLink "SmallCourt$Claim" 101 yX3_sumFor ∈ hx_all := kt_g (kt_4 (List.mem_of_getElem? (i := 64) rfl)) rfl
theorem kw_878 : Cond.instanceMethod yX3_sumFor ∈ hx_all := kt_g (kt_4 (List.mem_of_getElem? (i := 65) rfl)) rfl
theorem kw_879 : Cond.selects "SmallCourt$Payments" yX3_sumFor yX3_sumFor ∈ hx_all := kt_g (kt_4 (List.mem_of_getElem? (i := 66) rfl)) rfl
theorem kw_880 : Cond.code yX3_sumFor cX3_sumFor 7 (some .int) ∈ hx_all := kt_g (kt_4 (List.mem_of_getElem? (i := 67) rfl)) rfl
theorem kw_881 : Cond.methodLink "SmallCourt$Claim" 77 yJ9_max_7cf53 ∈ hx_all := kt_g (kt_4 (List.mem_of_getElem? (i := 68) rfl)) rfl
theorem kw_882 : Cond.static yJ9_max_7cf53 ∈ hx_all := kt_g (kt_4 (List.mem_of_getElem? (i := 69) rfl)) rfl
theorem kw_883 : Cond.code yJ9_max_7cf53 cJ9_max_7cf53 2 (some .int) ∈ hx_all := kt_g (kt_4 (List.mem_of_getElem? (i := 70) rfl)) rfl
theorem kw_884 : Cond.methodLink "SmallCourt" 264 yX4_meansBy ∈ hx_all := kt_g (kt_4 (List.mem_of_getElem? (i := 71) rfl)) rfl
theorem kw_885 : Cond.instanceMethod yX4_meansBy ∈ hx_all := kt_g (kt_4 (List.mem_of_getElem? (i := 72) rfl)) rfl
theorem kw_886 : Cond.selects "SmallCourt$Person" yX4_meansBy yX4_meansBy ∈ hx_all := kt_g (kt_4 (List.mem_of_getElem? (i := 73) rfl)) rfl
theorem kw_887 : Cond.code yX4_meansBy cX4_meansBy 2 (some .int) ∈ hx_all := kt_g (kt_4 (List.mem_of_getElem? (i := 74) rfl)) rfl
theorem kw_888 : Cond.methodLink "SmallCourtLaw" 84 yX9_pay ∈ hx_all := kt_g (kt_4 (List.mem_of_getElem? (i := 75) rfl)) rfl
theorem kw_889 : Cond.instanceMethod yX9_pay ∈ hx_all := kt_g (kt_4 (List.mem_of_getElem? (i := 76) rfl)) rfl
theorem kw_890 : Cond.selects "SmallCourt" yX9_pay yX9_pay ∈ hx_all := kt_g (kt_4 (List.mem_of_getElem? (i := 77) rfl)) rfl
theorem kw_891 : Cond.code yX9_pay cX9_pay 5 (some .int) ∈ hx_all := kt_g (kt_4 (List.mem_of_getElem? (i := 78) rfl)) rfl
theorem kw_892 : Cond.methodLink "SmallCourt" 282 yX3_addPayment ∈ hx_all := kt_g (kt_4 (List.mem_of_getElem? (i := 79) rfl)) rfl
theorem kw_893 : Cond.instanceMethod yX3_addPayment ∈ hx_all := kt_g (kt_4 (List.mem_of_getElem? (i := 80) rfl)) rfl
theorem kw_894 : Cond.selects "SmallCourt$Payments" yX3_addPayment yX3_addPayment ∈ hx_all := kt_g (kt_4 (List.mem_of_getElem? (i := 81) rfl)) rfl
theorem kw_895 : Cond.code yX3_addPayment cX3_addPayment 5 (some .int) ∈ hx_all := kt_g (kt_4 (List.mem_of_getElem? (i := 82) rfl)) rfl
theorem kw_896 : Cond.methodLink "SmallCourtLaw" 89 yX9_strike ∈ hx_all := kt_g (kt_4 (List.mem_of_getElem? (i := 83) rfl)) rfl
theorem kw_897 : Cond.instanceMethod yX9_strike ∈ hx_all := kt_g (kt_4 (List.mem_of_getElem? (i := 84) rfl)) rfl
theorem kw_898 : Cond.selects "SmallCourt" yX9_strike yX9_strike ∈ hx_all := kt_g (kt_4 (List.mem_of_getElem? (i := 85) rfl)) rfl
theorem kw_899 : Cond.code yX9_strike cX9_strike 2 (some .boolean) ∈ hx_all := kt_g (kt_4 (List.mem_of_getElem? (i := 86) rfl)) rfl
theorem kw_900 : Cond.methodLink "SmallCourtLaw" 93 yX9_seize ∈ hx_all := kt_g (kt_4 (List.mem_of_getElem? (i := 87) rfl)) rfl
theorem kw_901 : Cond.instanceMethod yX9_seize ∈ hx_all := kt_g (kt_4 (List.mem_of_getElem? (i := 88) rfl)) rfl
theorem kw_902 : Cond.selects "SmallCourt" yX9_seize yX9_seize ∈ hx_all := kt_g (kt_4 (List.mem_of_getElem? (i := 89) rfl)) rfl
theorem kw_903 : Cond.code yX9_seize cX9_seize 5 (some .int) ∈ hx_all := kt_g (kt_4 (List.mem_of_getElem? (i := 90) rfl)) rfl
theorem kw_904 : Cond.methodLink "SmallCourt" 292 yX2_stateOn ∈ hx_all := kt_g (kt_4 (List.mem_of_getElem? (i := 91) rfl)) rfl
theorem kw_905 : Cond.instanceMethod yX2_stateOn ∈ hx_all := kt_g (kt_4 (List.mem_of_getElem? (i := 92) rfl)) rfl
theorem kw_906 : Cond.selects "SmallCourt$Claim" yX2_stateOn yX2_stateOn ∈ hx_all := kt_g (kt_4 (List.mem_of_getElem? (i := 93) rfl)) rfl
theorem kw_907 : Cond.code yX2_stateOn cX2_stateOn 5 (some .int) ∈ hx_all := kt_g (kt_4 (List.mem_of_getElem? (i := 94) rfl)) rfl
theorem kw_908 : Cond.methodLink "SmallCourt$Claim" 64 yX2_stateAheadOfOrder ∈ hx_all := kt_g (kt_4 (List.mem_of_getElem? (i := 95) rfl)) rfl
theorem kw_910 : Cond.instanceMethod yX2_stateAheadOfOrder ∈ hx_all := kt_g (kt_4 (List.mem_of_getElem? (i := 97) rfl)) rfl
theorem kw_911 : Cond.code yX2_stateAheadOfOrder cX2_stateAheadOfOrder 2 (some .int) ∈ hx_all := kt_g (kt_4 (List.mem_of_getElem? (i := 98) rfl)) rfl
theorem kw_912 : Cond.methodLink "SmallCourt$Claim" 68 yX2_missedOn ∈ hx_all := kt_g (kt_4 (List.mem_of_getElem? (i := 99) rfl)) rfl
theorem kw_913 : Cond.instanceMethod yX2_missedOn ∈ hx_all := kt_g (kt_4 (List.mem_of_getElem? (i := 100) rfl)) rfl
theorem kw_914 : Cond.selects "SmallCourt$Claim" yX2_missedOn yX2_missedOn ∈ hx_all := kt_g (kt_4 (List.mem_of_getElem? (i := 101) rfl)) rfl
theorem kw_915 : Cond.code yX2_missedOn cX2_missedOn 5 (some .int) ∈ hx_all := kt_g (kt_4 (List.mem_of_getElem? (i := 102) rfl)) rfl
theorem kw_916 : Cond.methodLink "SmallCourt$Claim" 89 yJ9_min_7cf53 ∈ hx_all := kt_g (kt_4 (List.mem_of_getElem? (i := 103) rfl)) rfl
theorem kw_917 : Cond.static yJ9_min_7cf53 ∈ hx_all := kt_g (kt_4 (List.mem_of_getElem? (i := 104) rfl)) rfl
theorem kw_918 : Cond.code yJ9_min_7cf53 cJ9_min_7cf53 2 (some .int) ∈ hx_all := kt_g (kt_4 (List.mem_of_getElem? (i := 105) rfl)) rfl
theorem kw_919 : Cond.methodLinkNest "SmallCourt$Claim" 95 yX9_roundUp "SmallCourt" ∈ lw_tbl := kt_4 (List.mem_of_getElem? (i := 106) rfl)
theorem kw_920 : Cond.static yX9_roundUp ∈ hx_all := kt_g (kt_4 (List.mem_of_getElem? (i := 107) rfl)) rfl
theorem kw_921 : Cond.code yX9_roundUp cX9_roundUp 2 (some .int) ∈ hx_all := kt_g (kt_4 (List.mem_of_getElem? (i := 108) rfl)) rfl
theorem kw_922 : Cond.methodLink "SmallCourt" 299 yX2_balanceOn ∈ hx_all := kt_g (kt_4 (List.mem_of_getElem? (i := 109) rfl)) rfl
theorem kw_923 : Cond.methodLink "SmallCourtLaw" 97 yX9_gaol ∈ hx_all := kt_g (kt_4 (List.mem_of_getElem? (i := 110) rfl)) rfl
theorem kw_924 : Cond.instanceMethod yX9_gaol ∈ hx_all := kt_g (kt_4 (List.mem_of_getElem? (i := 111) rfl)) rfl
theorem kw_925 : Cond.selects "SmallCourt" yX9_gaol yX9_gaol ∈ hx_all := kt_g (kt_4 (List.mem_of_getElem? (i := 112) rfl)) rfl
theorem kw_926 : Cond.code yX9_gaol cX9_gaol 4 (some .int) ∈ hx_all := kt_g (kt_4 (List.mem_of_getElem? (i := 113) rfl)) rfl
theorem kw_927 : Cond.methodLink "SmallCourt" 302 yX2_restOn ∈ hx_all := kt_g (kt_4 (List.mem_of_getElem? (i := 114) rfl)) rfl
theorem kw_928 : Cond.methodLink "SmallCourt" 305 yX9_roundUp ∈ hx_all := kt_g (kt_4 (List.mem_of_getElem? (i := 115) rfl)) rfl
theorem kw_929 : Cond.methodLink "SmallCourt" 309 yJ9_min_7cf53 ∈ hx_all := kt_g (kt_4 (List.mem_of_getElem? (i := 116) rfl)) rfl
theorem kw_930 : Cond.methodLink "SmallCourtLaw" 101 yX9_claim ∈ hx_all := kt_g (kt_4 (List.mem_of_getElem? (i := 117) rfl)) rfl
theorem kw_931 : Cond.instanceMethod yX9_claim ∈ hx_all := kt_g (kt_4 (List.mem_of_getElem? (i := 118) rfl)) rfl
theorem kw_932 : Cond.selects "SmallCourt" yX9_claim yX9_claim ∈ hx_all := kt_g (kt_4 (List.mem_of_getElem? (i := 119) rfl)) rfl
theorem kw_933 : Cond.code yX9_claim cX9_claim 4 (some .int) ∈ hx_all := kt_g (kt_4 (List.mem_of_getElem? (i := 120) rfl)) rfl
theorem kw_934 : Cond.methodLink "SmallCourtLaw" 105 yX9_state ∈ hx_all := kt_g (kt_4 (List.mem_of_getElem? (i := 121) rfl)) rfl
theorem kw_935 : Cond.instanceMethod yX9_state ∈ hx_all := kt_g (kt_4 (List.mem_of_getElem? (i := 122) rfl)) rfl
theorem kw_936 : Cond.selects "SmallCourt" yX9_state yX9_state ∈ hx_all := kt_g (kt_4 (List.mem_of_getElem? (i := 123) rfl)) rfl
theorem kw_937 : Cond.code yX9_state cX9_state 6 (some .int) ∈ hx_all := kt_g (kt_4 (List.mem_of_getElem? (i := 124) rfl)) rfl
theorem kw_938 : Cond.methodLink "SmallCourt" 314 yX2_missedOn ∈ hx_all := kt_g (kt_4 (List.mem_of_getElem? (i := 125) rfl)) rfl
theorem kw_939 : Cond.methodLink "SmallCourt" 317 yX2_paidOn ∈ hx_all := kt_g (kt_4 (List.mem_of_getElem? (i := 126) rfl)) rfl
theorem kw_940 : Cond.methodLink "SmallCourt" 320 yX2_overOn ∈ hx_all := kt_g (kt_4 (List.mem_of_getElem? (i := 127) rfl)) rfl
theorem kw_941 : Cond.instanceMethod yX2_overOn ∈ hx_all := kt_g (kt_4 (List.mem_of_getElem? (i := 128) rfl)) rfl
theorem kw_942 : Cond.selects "SmallCourt$Claim" yX2_overOn yX2_overOn ∈ hx_all := kt_g (kt_4 (List.mem_of_getElem? (i := 129) rfl)) rfl
theorem kw_943 : Cond.code yX2_overOn cX2_overOn 4 (some .int) ∈ hx_all := kt_g (kt_4 (List.mem_of_getElem? (i := 130) rfl)) rfl
theorem kw_944 : Cond.methodLink "SmallCourtLaw" 109 yX9_plan ∈ hx_all := kt_g (kt_4 (List.mem_of_getElem? (i := 131) rfl)) rfl
theorem kw_945 : Cond.instanceMethod yX9_plan ∈ hx_all := kt_g (kt_4 (List.mem_of_getElem? (i := 132) rfl)) rfl
theorem kw_946 : Cond.selects "SmallCourt" yX9_plan yX9_plan ∈ hx_all := kt_g (kt_4 (List.mem_of_getElem? (i := 133) rfl)) rfl
theorem kw_947 : Cond.code yX9_plan cX9_plan 6 (some .int) ∈ hx_all := kt_g (kt_4 (List.mem_of_getElem? (i := 134) rfl)) rfl
theorem kw_948 : Cond.methodLink "SmallCourt" 323 yX5_clear ∈ hx_all := kt_g (kt_4 (List.mem_of_getElem? (i := 135) rfl)) rfl
theorem kw_949 : Cond.instanceMethod yX5_clear ∈ hx_all := kt_g (kt_4 (List.mem_of_getElem? (i := 136) rfl)) rfl
theorem kw_950 : Cond.selects "SmallCourt$Plan" yX5_clear yX5_clear ∈ hx_all := kt_g (kt_4 (List.mem_of_getElem? (i := 137) rfl)) rfl
theorem kw_951 : Cond.code yX5_clear cX5_clear 3 none ∈ hx_all := kt_g (kt_4 (List.mem_of_getElem? (i := 138) rfl)) rfl
theorem kw_952 : Cond.methodLink "SmallCourt" 329 yX5_addOpen ∈ hx_all := kt_g (kt_4 (List.mem_of_getElem? (i := 139) rfl)) rfl
theorem kw_953 : Cond.instanceMethod yX5_addOpen ∈ hx_all := kt_g (kt_4 (List.mem_of_getElem? (i := 140) rfl)) rfl
theorem kw_954 : Cond.selects "SmallCourt$Plan" yX5_addOpen yX5_addOpen ∈ hx_all := kt_g (kt_4 (List.mem_of_getElem? (i := 141) rfl)) rfl
theorem kw_955 : Cond.code yX5_addOpen cX5_addOpen 3 none ∈ hx_all := kt_g (kt_4 (List.mem_of_getElem? (i := 142) rfl)) rfl
theorem kw_956 : Cond.methodLink "SmallCourt$Plan" 57 yJ9_min_7cf53 ∈ hx_all := kt_g (kt_4 (List.mem_of_getElem? (i := 143) rfl)) rfl
theorem kw_957 : Cond.methodLink "SmallCourt" 333 yX5_settle ∈ hx_all := kt_g (kt_4 (List.mem_of_getElem? (i := 144) rfl)) rfl
theorem kw_958 : Cond.instanceMethod yX5_settle ∈ hx_all := kt_g (kt_4 (List.mem_of_getElem? (i := 145) rfl)) rfl
theorem kw_959 : Cond.selects "SmallCourt$Plan" yX5_settle yX5_settle ∈ hx_all := kt_g (kt_4 (List.mem_of_getElem? (i := 146) rfl)) rfl
theorem kw_960 : Cond.code yX5_settle cX5_settle 2 (some .int) ∈ hx_all := kt_g (kt_4 (List.mem_of_getElem? (i := 147) rfl)) rfl
theorem kw_961 : Cond.methodLink "SmallCourt$Plan" 63 yX5_leastFrom ∈ hx_all := kt_g (kt_4 (List.mem_of_getElem? (i := 148) rfl)) rfl
theorem kw_963 : Cond.instanceMethod yX5_leastFrom ∈ hx_all := kt_g (kt_4 (List.mem_of_getElem? (i := 150) rfl)) rfl
theorem kw_964 : Cond.code yX5_leastFrom cX5_leastFrom 4 (some .int) ∈ hx_all := kt_g (kt_4 (List.mem_of_getElem? (i := 151) rfl)) rfl
theorem kw_965 : Cond.constant "SmallCourt$Plan" 67 (1000000000) ∈ hx_all := kt_g (kt_4 (List.mem_of_getElem? (i := 152) rfl)) rfl
theorem kw_966 : Cond.methodLink "SmallCourt$Plan" 74 yX5_tryFrom ∈ hx_all := kt_g (kt_4 (List.mem_of_getElem? (i := 153) rfl)) rfl
theorem kw_968 : Cond.instanceMethod yX5_tryFrom ∈ hx_all := kt_g (kt_4 (List.mem_of_getElem? (i := 155) rfl)) rfl
theorem kw_969 : Cond.code yX5_tryFrom cX5_tryFrom 9 none ∈ hx_all := kt_g (kt_4 (List.mem_of_getElem? (i := 156) rfl)) rfl
theorem kw_970 : Cond.methodLink "SmallCourt$Plan" 83 yX5_keepIfBetter ∈ hx_all := kt_g (kt_4 (List.mem_of_getElem? (i := 157) rfl)) rfl
theorem kw_972 : Cond.instanceMethod yX5_keepIfBetter ∈ hx_all := kt_g (kt_4 (List.mem_of_getElem? (i := 159) rfl)) rfl
theorem kw_973 : Cond.code yX5_keepIfBetter cX5_keepIfBetter 3 none ∈ hx_all := kt_g (kt_4 (List.mem_of_getElem? (i := 160) rfl)) rfl
theorem kw_975 : Cond.methodLinkNest "SmallCourt$Plan" 78 yX9_roundUp "SmallCourt" ∈ lw_tbl := kt_4 (List.mem_of_getElem? (i := 162) rfl)
theorem kw_976 : Cond.methodLink "SmallCourt$Plan" 87 yJ9_max_7cf53 ∈ hx_all := kt_g (kt_4 (List.mem_of_getElem? (i := 163) rfl)) rfl
theorem kw_977 : Cond.methodLink "SmallCourtLaw" 113 yX9_planned ∈ hx_all := kt_g (kt_4 (List.mem_of_getElem? (i := 164) rfl)) rfl
theorem kw_978 : Cond.instanceMethod yX9_planned ∈ hx_all := kt_g (kt_4 (List.mem_of_getElem? (i := 165) rfl)) rfl
theorem kw_979 : Cond.selects "SmallCourt" yX9_planned yX9_planned ∈ hx_all := kt_g (kt_4 (List.mem_of_getElem? (i := 166) rfl)) rfl
theorem kw_980 : Cond.code yX9_planned cX9_planned 3 (some .int) ∈ hx_all := kt_g (kt_4 (List.mem_of_getElem? (i := 167) rfl)) rfl
theorem kw_981 : Cond.methodLink "SmallCourtLaw" 117 yX9_net ∈ hx_all := kt_g (kt_4 (List.mem_of_getElem? (i := 168) rfl)) rfl
theorem kw_982 : Cond.instanceMethod yX9_net ∈ hx_all := kt_g (kt_4 (List.mem_of_getElem? (i := 169) rfl)) rfl
theorem kw_983 : Cond.selects "SmallCourt" yX9_net yX9_net ∈ hx_all := kt_g (kt_4 (List.mem_of_getElem? (i := 170) rfl)) rfl
theorem kw_984 : Cond.code yX9_net cX9_net 3 (some .int) ∈ hx_all := kt_g (kt_4 (List.mem_of_getElem? (i := 171) rfl)) rfl
theorem kw_985 : Cond.methodLink "SmallCourt" 346 yX7_clear ∈ hx_all := kt_g (kt_4 (List.mem_of_getElem? (i := 172) rfl)) rfl
theorem kw_986 : Cond.instanceMethod yX7_clear ∈ hx_all := kt_g (kt_4 (List.mem_of_getElem? (i := 173) rfl)) rfl
theorem kw_987 : Cond.selects "SmallCourt$Rings" yX7_clear yX7_clear ∈ hx_all := kt_g (kt_4 (List.mem_of_getElem? (i := 174) rfl)) rfl
theorem kw_988 : Cond.code yX7_clear cX7_clear 3 none ∈ hx_all := kt_g (kt_4 (List.mem_of_getElem? (i := 175) rfl)) rfl
theorem kw_989 : Cond.methodLink "SmallCourt" 348 yX7_owe ∈ hx_all := kt_g (kt_4 (List.mem_of_getElem? (i := 176) rfl)) rfl
theorem kw_990 : Cond.instanceMethod yX7_owe ∈ hx_all := kt_g (kt_4 (List.mem_of_getElem? (i := 177) rfl)) rfl
theorem kw_991 : Cond.selects "SmallCourt$Rings" yX7_owe yX7_owe ∈ hx_all := kt_g (kt_4 (List.mem_of_getElem? (i := 178) rfl)) rfl
theorem kw_992 : Cond.code yX7_owe cX7_owe 4 none ∈ hx_all := kt_g (kt_4 (List.mem_of_getElem? (i := 179) rfl)) rfl
theorem kw_993 : Cond.methodLink "SmallCourt" 351 yX7_findBest ∈ hx_all := kt_g (kt_4 (List.mem_of_getElem? (i := 180) rfl)) rfl
theorem kw_994 : Cond.instanceMethod yX7_findBest ∈ hx_all := kt_g (kt_4 (List.mem_of_getElem? (i := 181) rfl)) rfl
theorem kw_995 : Cond.selects "SmallCourt$Rings" yX7_findBest yX7_findBest ∈ hx_all := kt_g (kt_4 (List.mem_of_getElem? (i := 182) rfl)) rfl
theorem kw_996 : Cond.code yX7_findBest cX7_findBest 2 (some .boolean) ∈ hx_all := kt_g (kt_4 (List.mem_of_getElem? (i := 183) rfl)) rfl
theorem kw_997 : Cond.constant "SmallCourt$Rings" 37 (1000000000) ∈ hx_all := kt_g (kt_4 (List.mem_of_getElem? (i := 184) rfl)) rfl
theorem kw_998 : Cond.methodLink "SmallCourt$Rings" 38 yX7_goOn ∈ hx_all := kt_g (kt_4 (List.mem_of_getElem? (i := 185) rfl)) rfl
theorem kw_1000 : Cond.instanceMethod yX7_goOn ∈ hx_all := kt_g (kt_4 (List.mem_of_getElem? (i := 187) rfl)) rfl
theorem kw_1001 : Cond.code yX7_goOn cX7_goOn 6 none ∈ hx_all := kt_g (kt_4 (List.mem_of_getElem? (i := 188) rfl)) rfl
theorem kw_1002 : Cond.methodLink "SmallCourt$Rings" 42 yJ9_min_7cf53 ∈ hx_all := kt_g (kt_4 (List.mem_of_getElem? (i := 189) rfl)) rfl
theorem kw_1003 : Cond.methodLink "SmallCourt$Rings" 48 yX7_keepIfBetter ∈ hx_all := kt_g (kt_4 (List.mem_of_getElem? (i := 190) rfl)) rfl
theorem kw_1005 : Cond.instanceMethod yX7_keepIfBetter ∈ hx_all := kt_g (kt_4 (List.mem_of_getElem? (i := 192) rfl)) rfl
theorem kw_1006 : Cond.code yX7_keepIfBetter cX7_keepIfBetter 3 none ∈ hx_all := kt_g (kt_4 (List.mem_of_getElem? (i := 193) rfl)) rfl
theorem kw_1008 : Cond.methodLink "SmallCourt$Rings" 51 yX7_isInRing ∈ hx_all := kt_g (kt_4 (List.mem_of_getElem? (i := 195) rfl)) rfl
theorem kw_1010 : Cond.instanceMethod yX7_isInRing ∈ hx_all := kt_g (kt_4 (List.mem_of_getElem? (i := 197) rfl)) rfl
theorem kw_1011 : Cond.code yX7_isInRing cX7_isInRing 4 (some .boolean) ∈ hx_all := kt_g (kt_4 (List.mem_of_getElem? (i := 198) rfl)) rfl
theorem kw_1012 : Cond.methodLink "SmallCourt" 355 yX9_ringNeeds ∈ hx_all := kt_g (kt_4 (List.mem_of_getElem? (i := 199) rfl)) rfl
theorem kw_1014 : Cond.instanceMethod yX9_ringNeeds ∈ hx_all := kt_g (kt_4 (List.mem_of_getElem? (i := 201) rfl)) rfl
theorem kw_1015 : Cond.code yX9_ringNeeds cX9_ringNeeds 5 (some .int) ∈ hx_all := kt_g (kt_4 (List.mem_of_getElem? (i := 202) rfl)) rfl
theorem kw_1016 : Cond.methodLink "SmallCourt" 367 yX7_isDebt ∈ hx_all := kt_g (kt_4 (List.mem_of_getElem? (i := 203) rfl)) rfl
theorem kw_1017 : Cond.instanceMethod yX7_isDebt ∈ hx_all := kt_g (kt_4 (List.mem_of_getElem? (i := 204) rfl)) rfl
theorem kw_1018 : Cond.selects "SmallCourt$Rings" yX7_isDebt yX7_isDebt ∈ hx_all := kt_g (kt_4 (List.mem_of_getElem? (i := 205) rfl)) rfl
theorem kw_1019 : Cond.code yX7_isDebt cX7_isDebt 3 (some .boolean) ∈ hx_all := kt_g (kt_4 (List.mem_of_getElem? (i := 206) rfl)) rfl
theorem kw_1020 : Cond.methodLink "SmallCourt$Rings" 75 yX7_placeAfter ∈ hx_all := kt_g (kt_4 (List.mem_of_getElem? (i := 207) rfl)) rfl
theorem kw_1022 : Cond.instanceMethod yX7_placeAfter ∈ hx_all := kt_g (kt_4 (List.mem_of_getElem? (i := 209) rfl)) rfl
theorem kw_1023 : Cond.code yX7_placeAfter cX7_placeAfter 2 (some .int) ∈ hx_all := kt_g (kt_4 (List.mem_of_getElem? (i := 210) rfl)) rfl
theorem kw_1024 : Cond.methodLink "SmallCourt" 358 yX9_takeOffRing ∈ hx_all := kt_g (kt_4 (List.mem_of_getElem? (i := 211) rfl)) rfl
theorem kw_1026 : Cond.instanceMethod yX9_takeOffRing ∈ hx_all := kt_g (kt_4 (List.mem_of_getElem? (i := 213) rfl)) rfl
theorem kw_1027 : Cond.code yX9_takeOffRing cX9_takeOffRing 6 (some .int) ∈ hx_all := kt_g (kt_4 (List.mem_of_getElem? (i := 214) rfl)) rfl
theorem kw_1028 : Cond.methodLink "SmallCourt" 371 yX7_takeOff ∈ hx_all := kt_g (kt_4 (List.mem_of_getElem? (i := 215) rfl)) rfl
theorem kw_1029 : Cond.instanceMethod yX7_takeOff ∈ hx_all := kt_g (kt_4 (List.mem_of_getElem? (i := 216) rfl)) rfl
theorem kw_1030 : Cond.selects "SmallCourt$Rings" yX7_takeOff yX7_takeOff ∈ hx_all := kt_g (kt_4 (List.mem_of_getElem? (i := 217) rfl)) rfl
theorem kw_1031 : Cond.code yX7_takeOff cX7_takeOff 2 none ∈ hx_all := kt_g (kt_4 (List.mem_of_getElem? (i := 218) rfl)) rfl
theorem kw_1032 : Cond.methodLink "SmallCourtLaw" 122 yX9_netted ∈ hx_all := kt_g (kt_4 (List.mem_of_getElem? (i := 219) rfl)) rfl
theorem kw_1033 : Cond.instanceMethod yX9_netted ∈ hx_all := kt_g (kt_4 (List.mem_of_getElem? (i := 220) rfl)) rfl
theorem kw_1034 : Cond.selects "SmallCourt" yX9_netted yX9_netted ∈ hx_all := kt_g (kt_4 (List.mem_of_getElem? (i := 221) rfl)) rfl
theorem kw_1035 : Cond.code yX9_netted cX9_netted 2 (some .int) ∈ hx_all := kt_g (kt_4 (List.mem_of_getElem? (i := 222) rfl)) rfl
theorem kw_1036 : Cond.methodLink "SmallCourtLaw" 126 yX9_list ∈ hx_all := kt_g (kt_4 (List.mem_of_getElem? (i := 223) rfl)) rfl
theorem kw_1037 : Cond.instanceMethod yX9_list ∈ hx_all := kt_g (kt_4 (List.mem_of_getElem? (i := 224) rfl)) rfl
theorem kw_1038 : Cond.selects "SmallCourt" yX9_list yX9_list ∈ hx_all := kt_g (kt_4 (List.mem_of_getElem? (i := 225) rfl)) rfl
theorem kw_1039 : Cond.code yX9_list cX9_list 3 (some .int) ∈ hx_all := kt_g (kt_4 (List.mem_of_getElem? (i := 226) rfl)) rfl
theorem kw_1040 : Cond.methodLink "SmallCourt" 378 yX8_isListed ∈ hx_all := kt_g (kt_4 (List.mem_of_getElem? (i := 227) rfl)) rfl
theorem kw_1041 : Cond.instanceMethod yX8_isListed ∈ hx_all := kt_g (kt_4 (List.mem_of_getElem? (i := 228) rfl)) rfl
theorem kw_1042 : Cond.selects "SmallCourt$Walk" yX8_isListed yX8_isListed ∈ hx_all := kt_g (kt_4 (List.mem_of_getElem? (i := 229) rfl)) rfl
theorem kw_1043 : Cond.code yX8_isListed cX8_isListed 3 (some .boolean) ∈ hx_all := kt_g (kt_4 (List.mem_of_getElem? (i := 230) rfl)) rfl
theorem kw_1044 : Cond.methodLink "SmallCourt" 384 yX8_putOnList ∈ hx_all := kt_g (kt_4 (List.mem_of_getElem? (i := 231) rfl)) rfl
theorem kw_1045 : Cond.instanceMethod yX8_putOnList ∈ hx_all := kt_g (kt_4 (List.mem_of_getElem? (i := 232) rfl)) rfl
theorem kw_1046 : Cond.selects "SmallCourt$Walk" yX8_putOnList yX8_putOnList ∈ hx_all := kt_g (kt_4 (List.mem_of_getElem? (i := 233) rfl)) rfl
theorem kw_1047 : Cond.code yX8_putOnList cX8_putOnList 3 none ∈ hx_all := kt_g (kt_4 (List.mem_of_getElem? (i := 234) rfl)) rfl
theorem kw_1048 : Cond.methodLink "SmallCourtLaw" 130 yX9_walk ∈ hx_all := kt_g (kt_4 (List.mem_of_getElem? (i := 235) rfl)) rfl
theorem kw_1049 : Cond.instanceMethod yX9_walk ∈ hx_all := kt_g (kt_4 (List.mem_of_getElem? (i := 236) rfl)) rfl
theorem kw_1050 : Cond.selects "SmallCourt" yX9_walk yX9_walk ∈ hx_all := kt_g (kt_4 (List.mem_of_getElem? (i := 237) rfl)) rfl
theorem kw_1051 : Cond.code yX9_walk cX9_walk 1 (some .int) ∈ hx_all := kt_g (kt_4 (List.mem_of_getElem? (i := 238) rfl)) rfl
theorem kw_1052 : Cond.methodLink "SmallCourt" 388 yX8_walkList ∈ hx_all := kt_g (kt_4 (List.mem_of_getElem? (i := 239) rfl)) rfl
theorem kw_1053 : Cond.instanceMethod yX8_walkList ∈ hx_all := kt_g (kt_5 (List.mem_of_getElem? (i := 0) rfl)) rfl
theorem kw_1054 : Cond.selects "SmallCourt$Walk" yX8_walkList yX8_walkList ∈ hx_all := kt_g (kt_5 (List.mem_of_getElem? (i := 1) rfl)) rfl
theorem kw_1055 : Cond.code yX8_walkList cX8_walkList 4 (some .int) ∈ hx_all := kt_g (kt_5 (List.mem_of_getElem? (i := 2) rfl)) rfl
theorem kw_1056 : Cond.methodLink "SmallCourt$Walk" 31 yX8_isIn ∈ hx_all := kt_g (kt_5 (List.mem_of_getElem? (i := 3) rfl)) rfl
theorem kw_1057 : Cond.static yX8_isIn ∈ hx_all := kt_g (kt_5 (List.mem_of_getElem? (i := 4) rfl)) rfl
theorem kw_1058 : Cond.code yX8_isIn cX8_isIn 2 (some .boolean) ∈ hx_all := kt_g (kt_5 (List.mem_of_getElem? (i := 5) rfl)) rfl
theorem kw_1059 : Cond.methodLink "SmallCourt$Walk" 35 yX8_fromCourt ∈ hx_all := kt_g (kt_5 (List.mem_of_getElem? (i := 6) rfl)) rfl
theorem kw_1061 : Cond.instanceMethod yX8_fromCourt ∈ hx_all := kt_g (kt_5 (List.mem_of_getElem? (i := 8) rfl)) rfl
theorem kw_1062 : Cond.code yX8_fromCourt cX8_fromCourt 3 (some .int) ∈ hx_all := kt_g (kt_5 (List.mem_of_getElem? (i := 9) rfl)) rfl
theorem kw_1063 : Cond.methodLink "SmallCourt$Walk" 76 yJ9_abs_0f7a4 ∈ hx_all := kt_g (kt_5 (List.mem_of_getElem? (i := 10) rfl)) rfl
theorem kw_1064 : Cond.methodLink "SmallCourt$Walk" 39 yX8_leastOn ∈ hx_all := kt_g (kt_5 (List.mem_of_getElem? (i := 11) rfl)) rfl
theorem kw_1066 : Cond.instanceMethod yX8_leastOn ∈ hx_all := kt_g (kt_5 (List.mem_of_getElem? (i := 13) rfl)) rfl
theorem kw_1067 : Cond.code yX8_leastOn cX8_leastOn 5 (some .int) ∈ hx_all := kt_g (kt_5 (List.mem_of_getElem? (i := 14) rfl)) rfl
theorem kw_1068 : Cond.constant "SmallCourt$Walk" 50 (1000000000) ∈ hx_all := kt_g (kt_5 (List.mem_of_getElem? (i := 15) rfl)) rfl
theorem kw_1069 : Cond.methodLink "SmallCourt$Walk" 51 yX8_stepsBy ∈ hx_all := kt_g (kt_5 (List.mem_of_getElem? (i := 16) rfl)) rfl
theorem kw_1071 : Cond.instanceMethod yX8_stepsBy ∈ hx_all := kt_g (kt_5 (List.mem_of_getElem? (i := 18) rfl)) rfl
theorem kw_1072 : Cond.code yX8_stepsBy cX8_stepsBy 5 (some .int) ∈ hx_all := kt_g (kt_5 (List.mem_of_getElem? (i := 19) rfl)) rfl
theorem kw_1073 : Cond.methodLink "SmallCourt$Walk" 67 yX8_between ∈ hx_all := kt_g (kt_5 (List.mem_of_getElem? (i := 20) rfl)) rfl
theorem kw_1074 : Cond.static yX8_between ∈ hx_all := kt_g (kt_5 (List.mem_of_getElem? (i := 21) rfl)) rfl
theorem kw_1075 : Cond.code yX8_between cX8_between 2 (some .int) ∈ hx_all := kt_g (kt_5 (List.mem_of_getElem? (i := 22) rfl)) rfl
theorem kw_1076 : Cond.methodLink "SmallCourt$Walk" 55 yJ9_min_7cf53 ∈ hx_all := kt_g (kt_5 (List.mem_of_getElem? (i := 23) rfl)) rfl
theorem kw_1077 : Cond.methodLink "SmallCourt$Walk" 43 yX8_retrace ∈ hx_all := kt_g (kt_5 (List.mem_of_getElem? (i := 24) rfl)) rfl
theorem kw_1079 : Cond.instanceMethod yX8_retrace ∈ hx_all := kt_g (kt_5 (List.mem_of_getElem? (i := 26) rfl)) rfl
theorem kw_1080 : Cond.code yX8_retrace cX8_retrace 7 none ∈ hx_all := kt_g (kt_5 (List.mem_of_getElem? (i := 27) rfl)) rfl
theorem kw_1081 : Cond.methodLink "SmallCourt$Walk" 60 yX8_firstOnWay ∈ hx_all := kt_g (kt_5 (List.mem_of_getElem? (i := 28) rfl)) rfl
theorem kw_1083 : Cond.instanceMethod yX8_firstOnWay ∈ hx_all := kt_g (kt_5 (List.mem_of_getElem? (i := 30) rfl)) rfl
theorem kw_1084 : Cond.code yX8_firstOnWay cX8_firstOnWay 5 (some .int) ∈ hx_all := kt_g (kt_5 (List.mem_of_getElem? (i := 31) rfl)) rfl
theorem kw_1085 : Cond.methodLink "SmallCourtLaw" 134 yX9_walked ∈ hx_all := kt_g (kt_5 (List.mem_of_getElem? (i := 32) rfl)) rfl
theorem kw_1086 : Cond.instanceMethod yX9_walked ∈ hx_all := kt_g (kt_5 (List.mem_of_getElem? (i := 33) rfl)) rfl
theorem kw_1087 : Cond.selects "SmallCourt" yX9_walked yX9_walked ∈ hx_all := kt_g (kt_5 (List.mem_of_getElem? (i := 34) rfl)) rfl
theorem kw_1088 : Cond.code yX9_walked cX9_walked 2 (some .int) ∈ hx_all := kt_g (kt_5 (List.mem_of_getElem? (i := 35) rfl)) rfl
theorem kw_1089 : Cond.methodLink "SmallCourtLaw" 138 yX9_habit ∈ hx_all := kt_g (kt_5 (List.mem_of_getElem? (i := 36) rfl)) rfl
theorem kw_1090 : Cond.instanceMethod yX9_habit ∈ hx_all := kt_g (kt_5 (List.mem_of_getElem? (i := 37) rfl)) rfl
theorem kw_1091 : Cond.selects "SmallCourt" yX9_habit yX9_habit ∈ hx_all := kt_g (kt_5 (List.mem_of_getElem? (i := 38) rfl)) rfl
theorem kw_1092 : Cond.code yX9_habit cX9_habit 7 (some .int) ∈ hx_all := kt_g (kt_5 (List.mem_of_getElem? (i := 39) rfl)) rfl
theorem kw_1093 : Cond.methodLink "SmallCourt" 397 yX2_isOnBench ∈ hx_all := kt_g (kt_5 (List.mem_of_getElem? (i := 40) rfl)) rfl
theorem kw_1094 : Cond.instanceMethod yX2_isOnBench ∈ hx_all := kt_g (kt_5 (List.mem_of_getElem? (i := 41) rfl)) rfl
theorem kw_1095 : Cond.selects "SmallCourt$Claim" yX2_isOnBench yX2_isOnBench ∈ hx_all := kt_g (kt_5 (List.mem_of_getElem? (i := 42) rfl)) rfl
theorem kw_1096 : Cond.code yX2_isOnBench cX2_isOnBench 2 (some .boolean) ∈ hx_all := kt_g (kt_5 (List.mem_of_getElem? (i := 43) rfl)) rfl
theorem kw_1097 : Cond.methodLink "SmallCourt" 400 yX9_isBeyondDoubt ∈ hx_all := kt_g (kt_5 (List.mem_of_getElem? (i := 44) rfl)) rfl
theorem kw_1098 : Cond.static yX9_isBeyondDoubt ∈ hx_all := kt_g (kt_5 (List.mem_of_getElem? (i := 45) rfl)) rfl
theorem kw_1099 : Cond.code yX9_isBeyondDoubt cX9_isBeyondDoubt 7 (some .boolean) ∈ hx_all := kt_g (kt_5 (List.mem_of_getElem? (i := 46) rfl)) rfl
theorem kw_1101 : Cond.methodLink "SmallCourtLaw" 142 yX9_other ∈ hx_all := kt_g (kt_5 (List.mem_of_getElem? (i := 48) rfl)) rfl
theorem kw_1102 : Cond.instanceMethod yX9_other ∈ hx_all := kt_g (kt_5 (List.mem_of_getElem? (i := 49) rfl)) rfl
theorem kw_1103 : Cond.selects "SmallCourt" yX9_other yX9_other ∈ hx_all := kt_g (kt_5 (List.mem_of_getElem? (i := 50) rfl)) rfl
theorem kw_1104 : Cond.code yX9_other cX9_other 8 (some .int) ∈ hx_all := kt_g (kt_5 (List.mem_of_getElem? (i := 51) rfl)) rfl
theorem kw_1105 : Cond.methodLink "SmallCourtLaw" 146 yX9_count ∈ hx_all := kt_g (kt_5 (List.mem_of_getElem? (i := 52) rfl)) rfl
theorem kw_1106 : Cond.instanceMethod yX9_count ∈ hx_all := kt_g (kt_5 (List.mem_of_getElem? (i := 53) rfl)) rfl
theorem kw_1107 : Cond.selects "SmallCourt" yX9_count yX9_count ∈ hx_all := kt_g (kt_5 (List.mem_of_getElem? (i := 54) rfl)) rfl
theorem kw_1108 : Cond.code yX9_count cX9_count 2 (some .int) ∈ hx_all := kt_g (kt_5 (List.mem_of_getElem? (i := 55) rfl)) rfl
theorem kw_1109 : Cond.methodLink "SmallCourt" 405 yX9_livingJudges ∈ hx_all := kt_g (kt_5 (List.mem_of_getElem? (i := 56) rfl)) rfl
theorem kw_1111 : Cond.instanceMethod yX9_livingJudges ∈ hx_all := kt_g (kt_5 (List.mem_of_getElem? (i := 58) rfl)) rfl
theorem kw_1112 : Cond.code yX9_livingJudges cX9_livingJudges 3 (some .int) ∈ hx_all := kt_g (kt_5 (List.mem_of_getElem? (i := 59) rfl)) rfl
theorem kw_1113 : Cond.classLink "SmallCourtLaw" 10 "SmallCourtModel" ∈ hx_all := kt_g (kt_5 (List.mem_of_getElem? (i := 60) rfl)) rfl
theorem kw_1114 : Cond.instantiable "SmallCourtModel" 98 ∈ hx_all := kt_g (kt_5 (List.mem_of_getElem? (i := 61) rfl)) rfl
theorem kw_1115 : Cond.methodLink "SmallCourtLaw" 12 yX10_init ∈ hx_all := kt_g (kt_5 (List.mem_of_getElem? (i := 62) rfl)) rfl
theorem kw_1116 : Cond.instanceMethod yX10_init ∈ hx_all := kt_g (kt_5 (List.mem_of_getElem? (i := 63) rfl)) rfl
theorem kw_1117 : Cond.code yX10_init cX10_init 2 none ∈ hx_all := kt_g (kt_5 (List.mem_of_getElem? (i := 64) rfl)) rfl
theorem kw_1118 : Cond.methodLink "SmallCourtModel" 1 Lib.objectInit ∈ hx_all := kt_g (kt_5 (List.mem_of_getElem? (i := 65) rfl)) rfl
theorem kw_1119 : Cond.methodLink "SmallCourtModel" 214 yX10_without ∈ hx_all := kt_g (kt_5 (List.mem_of_getElem? (i := 66) rfl)) rfl
theorem kw_1120 : Cond.static yX10_without ∈ hx_all := kt_g (kt_5 (List.mem_of_getElem? (i := 67) rfl)) rfl
theorem kw_1121 : Cond.code yX10_without cX10_without 1 (some .int) ∈ hx_all := kt_g (kt_5 (List.mem_of_getElem? (i := 68) rfl)) rfl
theorem kw_1122 : Cond.methodLink "SmallCourtModel" 218 yX10_clears ∈ hx_all := kt_g (kt_5 (List.mem_of_getElem? (i := 69) rfl)) rfl
theorem kw_1124 : Cond.instanceMethod yX10_clears ∈ hx_all := kt_g (kt_5 (List.mem_of_getElem? (i := 71) rfl)) rfl
theorem kw_1125 : Cond.code yX10_clears cX10_clears 1 none ∈ hx_all := kt_g (kt_5 (List.mem_of_getElem? (i := 72) rfl)) rfl
theorem kw_1126 : Cond.methodLink "SmallCourtModel" 221 yX10_withoutProof ∈ hx_all := kt_g (kt_5 (List.mem_of_getElem? (i := 73) rfl)) rfl
theorem kw_1128 : Cond.instanceMethod yX10_withoutProof ∈ hx_all := kt_g (kt_5 (List.mem_of_getElem? (i := 75) rfl)) rfl
theorem kw_1129 : Cond.code yX10_withoutProof cX10_withoutProof 1 none ∈ hx_all := kt_g (kt_5 (List.mem_of_getElem? (i := 76) rfl)) rfl
theorem kw_1130 : Cond.methodLink "SmallCourtModel" 280 yX10_compareOf ∈ hx_all := kt_g (kt_5 (List.mem_of_getElem? (i := 77) rfl)) rfl
theorem kw_1131 : Cond.static yX10_compareOf ∈ hx_all := kt_g (kt_5 (List.mem_of_getElem? (i := 78) rfl)) rfl
theorem kw_1132 : Cond.code yX10_compareOf cX10_compareOf 3 (some .int) ∈ hx_all := kt_g (kt_5 (List.mem_of_getElem? (i := 79) rfl)) rfl
theorem kw_1133 : Cond.constant "SmallCourtModel" 268 (1000000) ∈ hx_all := kt_g (kt_5 (List.mem_of_getElem? (i := 80) rfl)) rfl
theorem kw_1134 : Cond.constant "SmallCourtModel" 269 (100000) ∈ hx_all := kt_g (kt_5 (List.mem_of_getElem? (i := 81) rfl)) rfl
theorem kw_1135 : Cond.methodLink "SmallCourtModel" 284 yX10_writes ∈ hx_all := kt_g (kt_5 (List.mem_of_getElem? (i := 82) rfl)) rfl
theorem kw_1137 : Cond.instanceMethod yX10_writes ∈ hx_all := kt_g (kt_5 (List.mem_of_getElem? (i := 84) rfl)) rfl
theorem kw_1138 : Cond.code yX10_writes cX10_writes 2 none ∈ hx_all := kt_g (kt_5 (List.mem_of_getElem? (i := 85) rfl)) rfl
theorem kw_1139 : Cond.methodLink "SmallCourtModel" 224 yX10_keepsProof ∈ hx_all := kt_g (kt_5 (List.mem_of_getElem? (i := 86) rfl)) rfl
theorem kw_1141 : Cond.instanceMethod yX10_keepsProof ∈ hx_all := kt_g (kt_5 (List.mem_of_getElem? (i := 88) rfl)) rfl
theorem kw_1142 : Cond.code yX10_keepsProof cX10_keepsProof 3 none ∈ hx_all := kt_g (kt_5 (List.mem_of_getElem? (i := 89) rfl)) rfl
theorem kw_1143 : Cond.fieldLink "SmallCourtModel" 232 "SmallCourtModel" "now" "I" ∈ hx_all := kt_g (kt_5 (List.mem_of_getElem? (i := 90) rfl)) rfl
theorem kw_1144 : Cond.fieldLink "SmallCourtModel" 321 "SmallCourtModel" "acts" "I" ∈ hx_all := kt_g (kt_5 (List.mem_of_getElem? (i := 91) rfl)) rfl
theorem kw_1145 : Cond.fieldLink "SmallCourtModel" 7 "SmallCourtModel" "actDay" "[I" ∈ hx_all := kt_g (kt_5 (List.mem_of_getElem? (i := 92) rfl)) rfl
theorem kw_1146 : Cond.fieldLink "SmallCourtModel" 13 "SmallCourtModel" "rule" "[I" ∈ hx_all := kt_g (kt_5 (List.mem_of_getElem? (i := 93) rfl)) rfl
theorem kw_1147 : Cond.fieldLink "SmallCourtModel" 16 "SmallCourtModel" "proofSteps" "[I" ∈ hx_all := kt_g (kt_5 (List.mem_of_getElem? (i := 94) rfl)) rfl
theorem kw_1148 : Cond.fieldLink "SmallCourtModel" 19 "SmallCourtModel" "proof" "[I" ∈ hx_all := kt_g (kt_5 (List.mem_of_getElem? (i := 95) rfl)) rfl
theorem kw_1149 : Cond.fieldLink "SmallCourtModel" 22 "SmallCourtModel" "tape" "[B" ∈ hx_all := kt_g (kt_5 (List.mem_of_getElem? (i := 96) rfl)) rfl
theorem kw_1150 : Cond.fieldLink "SmallCourtModel" 236 "SmallCourtModel" "taped" "I" ∈ hx_all := kt_g (kt_5 (List.mem_of_getElem? (i := 97) rfl)) rfl
theorem kw_1151 : Cond.fieldLink "SmallCourtModel" 245 "SmallCourtModel" "next" "I" ∈ hx_all := kt_g (kt_5 (List.mem_of_getElem? (i := 98) rfl)) rfl
theorem kw_1152 : Cond.fieldLink "SmallCourtModel" 242 "SmallCourtModel" "fault" "I" ∈ hx_all := kt_g (kt_5 (List.mem_of_getElem? (i := 99) rfl)) rfl
theorem kw_1153 : Cond.fieldLink "SmallCourtModel" 259 "SmallCourtModel" "said" "I" ∈ hx_all := kt_g (kt_5 (List.mem_of_getElem? (i := 100) rfl)) rfl
theorem kw_1154 : Cond.fieldLink "SmallCourtModel" 252 "SmallCourtModel" "wordSize" "I" ∈ hx_all := kt_g (kt_5 (List.mem_of_getElem? (i := 101) rfl)) rfl
theorem kw_1155 : Cond.fieldLink "SmallCourtModel" 26 "SmallCourtModel" "read" "[I" ∈ hx_all := kt_g (kt_5 (List.mem_of_getElem? (i := 102) rfl)) rfl
theorem kw_1156 : Cond.fieldLink "SmallCourtModel" 306 "SmallCourtModel" "seen" "I" ∈ hx_all := kt_g (kt_5 (List.mem_of_getElem? (i := 103) rfl)) rfl
theorem kw_1157 : Cond.fieldLink "SmallCourtModel" 262 "SmallCourtModel" "steps" "I" ∈ hx_all := kt_g (kt_5 (List.mem_of_getElem? (i := 104) rfl)) rfl
theorem kw_1158 : Cond.fieldLink "SmallCourtModel" 29 "SmallCourtModel" "step" "[I" ∈ hx_all := kt_g (kt_5 (List.mem_of_getElem? (i := 105) rfl)) rfl
theorem kw_1159 : Cond.fieldLink "SmallCourtModel" 274 "SmallCourtModel" "compares" "I" ∈ hx_all := kt_g (kt_5 (List.mem_of_getElem? (i := 106) rfl)) rfl
theorem kw_1160 : Cond.fieldLink "SmallCourtModel" 32 "SmallCourtModel" "open" "[I" ∈ hx_all := kt_g (kt_5 (List.mem_of_getElem? (i := 107) rfl)) rfl
theorem kw_1161 : Cond.fieldLink "SmallCourtModel" 265 "SmallCourtModel" "opened" "I" ∈ hx_all := kt_g (kt_5 (List.mem_of_getElem? (i := 108) rfl)) rfl
theorem kw_1162 : Cond.fieldLink "SmallCourtModel" 35 "SmallCourtModel" "words" "[B" ∈ hx_all := kt_g (kt_5 (List.mem_of_getElem? (i := 109) rfl)) rfl
theorem kw_1163 : Cond.fieldLink "SmallCourtModel" 337 "SmallCourtModel" "persons" "I" ∈ hx_all := kt_g (kt_5 (List.mem_of_getElem? (i := 110) rfl)) rfl
theorem kw_1164 : Cond.fieldLink "SmallCourtModel" 38 "SmallCourtModel" "born" "[I" ∈ hx_all := kt_g (kt_5 (List.mem_of_getElem? (i := 111) rfl)) rfl
theorem kw_1165 : Cond.fieldLink "SmallCourtModel" 41 "SmallCourtModel" "earns" "[I" ∈ hx_all := kt_g (kt_5 (List.mem_of_getElem? (i := 112) rfl)) rfl
theorem kw_1166 : Cond.fieldLink "SmallCourtModel" 44 "SmallCourtModel" "heads" "[I" ∈ hx_all := kt_g (kt_5 (List.mem_of_getElem? (i := 113) rfl)) rfl
theorem kw_1167 : Cond.fieldLink "SmallCourtModel" 47 "SmallCourtModel" "doorX" "[I" ∈ hx_all := kt_g (kt_5 (List.mem_of_getElem? (i := 114) rfl)) rfl
theorem kw_1168 : Cond.fieldLink "SmallCourtModel" 50 "SmallCourtModel" "doorY" "[I" ∈ hx_all := kt_g (kt_5 (List.mem_of_getElem? (i := 115) rfl)) rfl
theorem kw_1169 : Cond.fieldLink "SmallCourtModel" 53 "SmallCourtModel" "kin" "[I" ∈ hx_all := kt_g (kt_5 (List.mem_of_getElem? (i := 116) rfl)) rfl
theorem kw_1170 : Cond.fieldLink "SmallCourtModel" 56 "SmallCourtModel" "isDead" "[Z" ∈ hx_all := kt_g (kt_5 (List.mem_of_getElem? (i := 117) rfl)) rfl
theorem kw_1171 : Cond.fieldLink "SmallCourtModel" 60 "SmallCourtModel" "isJudge" "[Z" ∈ hx_all := kt_g (kt_5 (List.mem_of_getElem? (i := 118) rfl)) rfl
theorem kw_1172 : Cond.fieldLink "SmallCourtModel" 351 "SmallCourtModel" "lines" "I" ∈ hx_all := kt_g (kt_5 (List.mem_of_getElem? (i := 119) rfl)) rfl
theorem kw_1173 : Cond.fieldLink "SmallCourtModel" 63 "SmallCourtModel" "lineOf" "[I" ∈ hx_all := kt_g (kt_5 (List.mem_of_getElem? (i := 120) rfl)) rfl
theorem kw_1174 : Cond.fieldLink "SmallCourtModel" 66 "SmallCourtModel" "lineWith" "[I" ∈ hx_all := kt_g (kt_5 (List.mem_of_getElem? (i := 121) rfl)) rfl
theorem kw_1175 : Cond.fieldLink "SmallCourtModel" 69 "SmallCourtModel" "lineDay" "[I" ∈ hx_all := kt_g (kt_5 (List.mem_of_getElem? (i := 122) rfl)) rfl
theorem kw_1176 : Cond.fieldLink "SmallCourtModel" 72 "SmallCourtModel" "lineKind" "[I" ∈ hx_all := kt_g (kt_5 (List.mem_of_getElem? (i := 123) rfl)) rfl
theorem kw_1177 : Cond.fieldLink "SmallCourtModel" 75 "SmallCourtModel" "lineSum" "[I" ∈ hx_all := kt_g (kt_5 (List.mem_of_getElem? (i := 124) rfl)) rfl
theorem kw_1178 : Cond.fieldLink "SmallCourtModel" 78 "SmallCourtModel" "isTwin" "[Z" ∈ hx_all := kt_g (kt_5 (List.mem_of_getElem? (i := 125) rfl)) rfl
theorem kw_1179 : Cond.fieldLink "SmallCourtModel" 367 "SmallCourtModel" "claims" "I" ∈ hx_all := kt_g (kt_5 (List.mem_of_getElem? (i := 126) rfl)) rfl
theorem kw_1180 : Cond.fieldLink "SmallCourtModel" 81 "SmallCourtModel" "by" "[I" ∈ hx_all := kt_g (kt_5 (List.mem_of_getElem? (i := 127) rfl)) rfl
theorem kw_1181 : Cond.fieldLink "SmallCourtModel" 84 "SmallCourtModel" "against" "[I" ∈ hx_all := kt_g (kt_5 (List.mem_of_getElem? (i := 128) rfl)) rfl
theorem kw_1182 : Cond.fieldLink "SmallCourtModel" 87 "SmallCourtModel" "sum" "[I" ∈ hx_all := kt_g (kt_5 (List.mem_of_getElem? (i := 129) rfl)) rfl
theorem kw_1183 : Cond.fieldLink "SmallCourtModel" 90 "SmallCourtModel" "owedFrom" "[I" ∈ hx_all := kt_g (kt_5 (List.mem_of_getElem? (i := 130) rfl)) rfl
theorem kw_1184 : Cond.fieldLink "SmallCourtModel" 93 "SmallCourtModel" "hasNote" "[Z" ∈ hx_all := kt_g (kt_5 (List.mem_of_getElem? (i := 131) rfl)) rfl
theorem kw_1185 : Cond.fieldLink "SmallCourtModel" 96 "SmallCourtModel" "witnesses" "[I" ∈ hx_all := kt_g (kt_5 (List.mem_of_getElem? (i := 132) rfl)) rfl
theorem kw_1186 : Cond.fieldLink "SmallCourtModel" 99 "SmallCourtModel" "filed" "[I" ∈ hx_all := kt_g (kt_5 (List.mem_of_getElem? (i := 133) rfl)) rfl
theorem kw_1187 : Cond.fieldLink "SmallCourtModel" 102 "SmallCourtModel" "place" "[I" ∈ hx_all := kt_g (kt_5 (List.mem_of_getElem? (i := 134) rfl)) rfl
theorem kw_1188 : Cond.fieldLink "SmallCourtModel" 105 "SmallCourtModel" "tries" "[I" ∈ hx_all := kt_g (kt_5 (List.mem_of_getElem? (i := 135) rfl)) rfl
theorem kw_1189 : Cond.fieldLink "SmallCourtModel" 108 "SmallCourtModel" "found" "[I" ∈ hx_all := kt_g (kt_5 (List.mem_of_getElem? (i := 136) rfl)) rfl
theorem kw_1190 : Cond.fieldLink "SmallCourtModel" 111 "SmallCourtModel" "heard" "[I" ∈ hx_all := kt_g (kt_5 (List.mem_of_getElem? (i := 137) rfl)) rfl
theorem kw_1191 : Cond.fieldLink "SmallCourtModel" 114 "SmallCourtModel" "ordered" "[I" ∈ hx_all := kt_g (kt_5 (List.mem_of_getElem? (i := 138) rfl)) rfl
theorem kw_1192 : Cond.fieldLink "SmallCourtModel" 117 "SmallCourtModel" "seized" "[I" ∈ hx_all := kt_g (kt_5 (List.mem_of_getElem? (i := 139) rfl)) rfl
theorem kw_1193 : Cond.fieldLink "SmallCourtModel" 120 "SmallCourtModel" "served" "[I" ∈ hx_all := kt_g (kt_5 (List.mem_of_getElem? (i := 140) rfl)) rfl
theorem kw_1194 : Cond.fieldLink "SmallCourtModel" 123 "SmallCourtModel" "judged" "[I" ∈ hx_all := kt_g (kt_5 (List.mem_of_getElem? (i := 141) rfl)) rfl
theorem kw_1195 : Cond.fieldLink "SmallCourtModel" 126 "SmallCourtModel" "bench" "[I" ∈ hx_all := kt_g (kt_5 (List.mem_of_getElem? (i := 142) rfl)) rfl
theorem kw_1196 : Cond.fieldLink "SmallCourtModel" 129 "SmallCourtModel" "fact" "[I" ∈ hx_all := kt_g (kt_5 (List.mem_of_getElem? (i := 143) rfl)) rfl
theorem kw_1197 : Cond.fieldLink "SmallCourtModel" 132 "SmallCourtModel" "weekly" "[I" ∈ hx_all := kt_g (kt_5 (List.mem_of_getElem? (i := 144) rfl)) rfl
theorem kw_1198 : Cond.fieldLink "SmallCourtModel" 135 "SmallCourtModel" "owed" "[I" ∈ hx_all := kt_g (kt_5 (List.mem_of_getElem? (i := 145) rfl)) rfl
theorem kw_1199 : Cond.fieldLink "SmallCourtModel" 138 "SmallCourtModel" "goods" "[I" ∈ hx_all := kt_g (kt_5 (List.mem_of_getElem? (i := 146) rfl)) rfl
theorem kw_1200 : Cond.fieldLink "SmallCourtModel" 392 "SmallCourtModel" "heardMany" "I" ∈ hx_all := kt_g (kt_5 (List.mem_of_getElem? (i := 147) rfl)) rfl
theorem kw_1201 : Cond.fieldLink "SmallCourtModel" 141 "SmallCourtModel" "heardOf" "[I" ∈ hx_all := kt_g (kt_5 (List.mem_of_getElem? (i := 148) rfl)) rfl
theorem kw_1202 : Cond.fieldLink "SmallCourtModel" 413 "SmallCourtModel" "payments" "I" ∈ hx_all := kt_g (kt_5 (List.mem_of_getElem? (i := 149) rfl)) rfl
theorem kw_1203 : Cond.fieldLink "SmallCourtModel" 144 "SmallCourtModel" "payOf" "[I" ∈ hx_all := kt_g (kt_5 (List.mem_of_getElem? (i := 150) rfl)) rfl
theorem kw_1204 : Cond.fieldLink "SmallCourtModel" 147 "SmallCourtModel" "payDay" "[I" ∈ hx_all := kt_g (kt_5 (List.mem_of_getElem? (i := 151) rfl)) rfl
theorem kw_1205 : Cond.fieldLink "SmallCourtModel" 150 "SmallCourtModel" "paySum" "[I" ∈ hx_all := kt_g (kt_5 (List.mem_of_getElem? (i := 152) rfl)) rfl
theorem kw_1206 : Cond.fieldLink "SmallCourtModel" 153 "SmallCourtModel" "payKnown" "[I" ∈ hx_all := kt_g (kt_5 (List.mem_of_getElem? (i := 153) rfl)) rfl
theorem kw_1207 : Cond.fieldLink "SmallCourtModel" 156 "SmallCourtModel" "payStruck" "[I" ∈ hx_all := kt_g (kt_5 (List.mem_of_getElem? (i := 154) rfl)) rfl
theorem kw_1208 : Cond.fieldLink "SmallCourtModel" 159 "SmallCourtModel" "sitting" "[I" ∈ hx_all := kt_g (kt_5 (List.mem_of_getElem? (i := 155) rfl)) rfl
theorem kw_1209 : Cond.fieldLink "SmallCourtModel" 162 "SmallCourtModel" "stack" "[Z" ∈ hx_all := kt_g (kt_5 (List.mem_of_getElem? (i := 156) rfl)) rfl
theorem kw_1210 : Cond.fieldLink "SmallCourtModel" 398 "SmallCourtModel" "isPaid" "I" ∈ hx_all := kt_g (kt_5 (List.mem_of_getElem? (i := 157) rfl)) rfl
theorem kw_1211 : Cond.fieldLink "SmallCourtModel" 401 "SmallCourtModel" "isRest" "I" ∈ hx_all := kt_g (kt_5 (List.mem_of_getElem? (i := 158) rfl)) rfl
theorem kw_1212 : Cond.fieldLink "SmallCourtModel" 404 "SmallCourtModel" "isOver" "I" ∈ hx_all := kt_g (kt_5 (List.mem_of_getElem? (i := 159) rfl)) rfl
theorem kw_1213 : Cond.fieldLink "SmallCourtModel" 407 "SmallCourtModel" "isMissed" "I" ∈ hx_all := kt_g (kt_5 (List.mem_of_getElem? (i := 160) rfl)) rfl
theorem kw_1214 : Cond.fieldLink "SmallCourtModel" 410 "SmallCourtModel" "isState" "I" ∈ hx_all := kt_g (kt_5 (List.mem_of_getElem? (i := 161) rfl)) rfl
theorem kw_1215 : Cond.fieldLink "SmallCourtModel" 435 "SmallCourtModel" "planMany" "I" ∈ hx_all := kt_g (kt_5 (List.mem_of_getElem? (i := 162) rfl)) rfl
theorem kw_1216 : Cond.fieldLink "SmallCourtModel" 165 "SmallCourtModel" "planClaim" "[I" ∈ hx_all := kt_g (kt_5 (List.mem_of_getElem? (i := 163) rfl)) rfl
theorem kw_1217 : Cond.fieldLink "SmallCourtModel" 168 "SmallCourtModel" "planWeekly" "[I" ∈ hx_all := kt_g (kt_5 (List.mem_of_getElem? (i := 164) rfl)) rfl
theorem kw_1218 : Cond.fieldLink "SmallCourtModel" 428 "SmallCourtModel" "few" "I" ∈ hx_all := kt_g (kt_5 (List.mem_of_getElem? (i := 165) rfl)) rfl
theorem kw_1219 : Cond.fieldLink "SmallCourtModel" 171 "SmallCourtModel" "fewOf" "[I" ∈ hx_all := kt_g (kt_5 (List.mem_of_getElem? (i := 166) rfl)) rfl
theorem kw_1220 : Cond.fieldLink "SmallCourtModel" 174 "SmallCourtModel" "fewRest" "[I" ∈ hx_all := kt_g (kt_5 (List.mem_of_getElem? (i := 167) rfl)) rfl
theorem kw_1221 : Cond.fieldLink "SmallCourtModel" 177 "SmallCourtModel" "fewLeast" "[I" ∈ hx_all := kt_g (kt_5 (List.mem_of_getElem? (i := 168) rfl)) rfl
theorem kw_1222 : Cond.fieldLink "SmallCourtModel" 180 "SmallCourtModel" "more" "[I" ∈ hx_all := kt_g (kt_5 (List.mem_of_getElem? (i := 169) rfl)) rfl
theorem kw_1223 : Cond.fieldLink "SmallCourtModel" 183 "SmallCourtModel" "bestMore" "[I" ∈ hx_all := kt_g (kt_5 (List.mem_of_getElem? (i := 170) rfl)) rfl
theorem kw_1224 : Cond.fieldLink "SmallCourtModel" 186 "SmallCourtModel" "planWeeks" "[I" ∈ hx_all := kt_g (kt_5 (List.mem_of_getElem? (i := 171) rfl)) rfl
theorem kw_1225 : Cond.fieldLink "SmallCourtModel" 189 "SmallCourtModel" "debt" "[I" ∈ hx_all := kt_g (kt_5 (List.mem_of_getElem? (i := 172) rfl)) rfl
theorem kw_1226 : Cond.fieldLink "SmallCourtModel" 451 "SmallCourtModel" "hasNetted" "Z" ∈ hx_all := kt_g (kt_5 (List.mem_of_getElem? (i := 173) rfl)) rfl
theorem kw_1227 : Cond.fieldLink "SmallCourtModel" 455 "SmallCourtModel" "ringMany" "I" ∈ hx_all := kt_g (kt_5 (List.mem_of_getElem? (i := 174) rfl)) rfl
theorem kw_1228 : Cond.fieldLink "SmallCourtModel" 192 "SmallCourtModel" "ringLeast" "[I" ∈ hx_all := kt_g (kt_5 (List.mem_of_getElem? (i := 175) rfl)) rfl
theorem kw_1229 : Cond.fieldLink "SmallCourtModel" 438 "SmallCourtModel" "bestLeast" "I" ∈ hx_all := kt_g (kt_5 (List.mem_of_getElem? (i := 176) rfl)) rfl
theorem kw_1230 : Cond.fieldLink "SmallCourtModel" 441 "SmallCourtModel" "bestSize" "I" ∈ hx_all := kt_g (kt_5 (List.mem_of_getElem? (i := 177) rfl)) rfl
theorem kw_1231 : Cond.fieldLink "SmallCourtModel" 195 "SmallCourtModel" "bestRing" "[I" ∈ hx_all := kt_g (kt_5 (List.mem_of_getElem? (i := 178) rfl)) rfl
theorem kw_1232 : Cond.fieldLink "SmallCourtModel" 198 "SmallCourtModel" "ring" "[I" ∈ hx_all := kt_g (kt_5 (List.mem_of_getElem? (i := 179) rfl)) rfl
theorem kw_1233 : Cond.fieldLink "SmallCourtModel" 468 "SmallCourtModel" "listed" "I" ∈ hx_all := kt_g (kt_5 (List.mem_of_getElem? (i := 180) rfl)) rfl
theorem kw_1234 : Cond.fieldLink "SmallCourtModel" 201 "SmallCourtModel" "list" "[I" ∈ hx_all := kt_g (kt_5 (List.mem_of_getElem? (i := 181) rfl)) rfl
theorem kw_1235 : Cond.fieldLink "SmallCourtModel" 478 "SmallCourtModel" "walkedMany" "I" ∈ hx_all := kt_g (kt_5 (List.mem_of_getElem? (i := 182) rfl)) rfl
theorem kw_1236 : Cond.fieldLink "SmallCourtModel" 204 "SmallCourtModel" "walked" "[I" ∈ hx_all := kt_g (kt_5 (List.mem_of_getElem? (i := 183) rfl)) rfl
theorem kw_1237 : Cond.fieldLink "SmallCourtModel" 207 "SmallCourtModel" "home" "[I" ∈ hx_all := kt_g (kt_5 (List.mem_of_getElem? (i := 184) rfl)) rfl
theorem kw_1238 : Cond.fieldLink "SmallCourtModel" 481 "SmallCourtModel" "habitMany" "I" ∈ hx_all := kt_g (kt_5 (List.mem_of_getElem? (i := 185) rfl)) rfl
theorem kw_1239 : Cond.fieldLink "SmallCourtModel" 484 "SmallCourtModel" "habitProved" "I" ∈ hx_all := kt_g (kt_5 (List.mem_of_getElem? (i := 186) rfl)) rfl
theorem kw_1240 : Cond.fieldLink "SmallCourtModel" 210 "SmallCourtModel" "ways" "[J" ∈ hx_all := kt_g (kt_5 (List.mem_of_getElem? (i := 187) rfl)) rfl
theorem kw_1241 : Cond.lays "SmallCourtModel" "SmallCourtModel" "now" "I" ∈ hx_all := kt_g (kt_5 (List.mem_of_getElem? (i := 188) rfl)) rfl
theorem kw_1243 : Cond.lays "SmallCourtModel" "SmallCourtModel" "acts" "I" ∈ hx_all := kt_g (kt_5 (List.mem_of_getElem? (i := 190) rfl)) rfl
theorem kw_1245 : Cond.laysFinal "SmallCourtModel" "SmallCourtModel" "actDay" "[I" ∈ hx_all := kt_g (kt_5 (List.mem_of_getElem? (i := 192) rfl)) rfl
theorem kw_1247 : Cond.laysFinal "SmallCourtModel" "SmallCourtModel" "rule" "[I" ∈ hx_all := kt_g (kt_5 (List.mem_of_getElem? (i := 194) rfl)) rfl
theorem kw_1249 : Cond.laysFinal "SmallCourtModel" "SmallCourtModel" "proofSteps" "[I" ∈ hx_all := kt_g (kt_5 (List.mem_of_getElem? (i := 196) rfl)) rfl
theorem kw_1251 : Cond.laysFinal "SmallCourtModel" "SmallCourtModel" "proof" "[I" ∈ hx_all := kt_g (kt_5 (List.mem_of_getElem? (i := 198) rfl)) rfl
theorem kw_1253 : Cond.laysFinal "SmallCourtModel" "SmallCourtModel" "tape" "[B" ∈ hx_all := kt_g (kt_5 (List.mem_of_getElem? (i := 200) rfl)) rfl
theorem kw_1255 : Cond.lays "SmallCourtModel" "SmallCourtModel" "taped" "I" ∈ hx_all := kt_g (kt_5 (List.mem_of_getElem? (i := 202) rfl)) rfl
theorem kw_1257 : Cond.lays "SmallCourtModel" "SmallCourtModel" "next" "I" ∈ hx_all := kt_g (kt_5 (List.mem_of_getElem? (i := 204) rfl)) rfl
theorem kw_1259 : Cond.lays "SmallCourtModel" "SmallCourtModel" "fault" "I" ∈ hx_all := kt_g (kt_5 (List.mem_of_getElem? (i := 206) rfl)) rfl
theorem kw_1261 : Cond.lays "SmallCourtModel" "SmallCourtModel" "said" "I" ∈ hx_all := kt_g (kt_5 (List.mem_of_getElem? (i := 208) rfl)) rfl
theorem kw_1263 : Cond.lays "SmallCourtModel" "SmallCourtModel" "wordSize" "I" ∈ hx_all := kt_g (kt_5 (List.mem_of_getElem? (i := 210) rfl)) rfl
theorem kw_1265 : Cond.laysFinal "SmallCourtModel" "SmallCourtModel" "read" "[I" ∈ hx_all := kt_g (kt_5 (List.mem_of_getElem? (i := 212) rfl)) rfl
theorem kw_1267 : Cond.lays "SmallCourtModel" "SmallCourtModel" "seen" "I" ∈ hx_all := kt_g (kt_5 (List.mem_of_getElem? (i := 214) rfl)) rfl
theorem kw_1269 : Cond.lays "SmallCourtModel" "SmallCourtModel" "steps" "I" ∈ hx_all := kt_g (kt_5 (List.mem_of_getElem? (i := 216) rfl)) rfl
theorem kw_1271 : Cond.laysFinal "SmallCourtModel" "SmallCourtModel" "step" "[I" ∈ hx_all := kt_g (kt_5 (List.mem_of_getElem? (i := 218) rfl)) rfl
theorem kw_1273 : Cond.lays "SmallCourtModel" "SmallCourtModel" "compares" "I" ∈ hx_all := kt_g (kt_5 (List.mem_of_getElem? (i := 220) rfl)) rfl
theorem kw_1275 : Cond.laysFinal "SmallCourtModel" "SmallCourtModel" "open" "[I" ∈ hx_all := kt_g (kt_5 (List.mem_of_getElem? (i := 222) rfl)) rfl
theorem kw_1277 : Cond.lays "SmallCourtModel" "SmallCourtModel" "opened" "I" ∈ hx_all := kt_g (kt_5 (List.mem_of_getElem? (i := 224) rfl)) rfl
theorem kw_1279 : Cond.laysFinal "SmallCourtModel" "SmallCourtModel" "words" "[B" ∈ hx_all := kt_g (kt_5 (List.mem_of_getElem? (i := 226) rfl)) rfl
theorem kw_1281 : Cond.lays "SmallCourtModel" "SmallCourtModel" "persons" "I" ∈ hx_all := kt_g (kt_5 (List.mem_of_getElem? (i := 228) rfl)) rfl
theorem kw_1283 : Cond.laysFinal "SmallCourtModel" "SmallCourtModel" "born" "[I" ∈ hx_all := kt_g (kt_5 (List.mem_of_getElem? (i := 230) rfl)) rfl
theorem kw_1285 : Cond.laysFinal "SmallCourtModel" "SmallCourtModel" "earns" "[I" ∈ hx_all := kt_g (kt_5 (List.mem_of_getElem? (i := 232) rfl)) rfl
theorem kw_1287 : Cond.laysFinal "SmallCourtModel" "SmallCourtModel" "heads" "[I" ∈ hx_all := kt_g (kt_5 (List.mem_of_getElem? (i := 234) rfl)) rfl
theorem kw_1289 : Cond.laysFinal "SmallCourtModel" "SmallCourtModel" "doorX" "[I" ∈ hx_all := kt_g (kt_5 (List.mem_of_getElem? (i := 236) rfl)) rfl
theorem kw_1291 : Cond.laysFinal "SmallCourtModel" "SmallCourtModel" "doorY" "[I" ∈ hx_all := kt_g (kt_5 (List.mem_of_getElem? (i := 238) rfl)) rfl
theorem kw_1293 : Cond.laysFinal "SmallCourtModel" "SmallCourtModel" "kin" "[I" ∈ hx_all := kt_g (kt_6 (List.mem_of_getElem? (i := 0) rfl)) rfl
theorem kw_1295 : Cond.laysFinal "SmallCourtModel" "SmallCourtModel" "isDead" "[Z" ∈ hx_all := kt_g (kt_6 (List.mem_of_getElem? (i := 2) rfl)) rfl
theorem kw_1297 : Cond.laysFinal "SmallCourtModel" "SmallCourtModel" "isJudge" "[Z" ∈ hx_all := kt_g (kt_6 (List.mem_of_getElem? (i := 4) rfl)) rfl
theorem kw_1299 : Cond.lays "SmallCourtModel" "SmallCourtModel" "lines" "I" ∈ hx_all := kt_g (kt_6 (List.mem_of_getElem? (i := 6) rfl)) rfl
theorem kw_1301 : Cond.laysFinal "SmallCourtModel" "SmallCourtModel" "lineOf" "[I" ∈ hx_all := kt_g (kt_6 (List.mem_of_getElem? (i := 8) rfl)) rfl
theorem kw_1303 : Cond.laysFinal "SmallCourtModel" "SmallCourtModel" "lineWith" "[I" ∈ hx_all := kt_g (kt_6 (List.mem_of_getElem? (i := 10) rfl)) rfl
theorem kw_1305 : Cond.laysFinal "SmallCourtModel" "SmallCourtModel" "lineDay" "[I" ∈ hx_all := kt_g (kt_6 (List.mem_of_getElem? (i := 12) rfl)) rfl
theorem kw_1307 : Cond.laysFinal "SmallCourtModel" "SmallCourtModel" "lineKind" "[I" ∈ hx_all := kt_g (kt_6 (List.mem_of_getElem? (i := 14) rfl)) rfl
theorem kw_1309 : Cond.laysFinal "SmallCourtModel" "SmallCourtModel" "lineSum" "[I" ∈ hx_all := kt_g (kt_6 (List.mem_of_getElem? (i := 16) rfl)) rfl
theorem kw_1311 : Cond.laysFinal "SmallCourtModel" "SmallCourtModel" "isTwin" "[Z" ∈ hx_all := kt_g (kt_6 (List.mem_of_getElem? (i := 18) rfl)) rfl
theorem kw_1313 : Cond.lays "SmallCourtModel" "SmallCourtModel" "claims" "I" ∈ hx_all := kt_g (kt_6 (List.mem_of_getElem? (i := 20) rfl)) rfl
theorem kw_1315 : Cond.laysFinal "SmallCourtModel" "SmallCourtModel" "by" "[I" ∈ hx_all := kt_g (kt_6 (List.mem_of_getElem? (i := 22) rfl)) rfl
theorem kw_1317 : Cond.laysFinal "SmallCourtModel" "SmallCourtModel" "against" "[I" ∈ hx_all := kt_g (kt_6 (List.mem_of_getElem? (i := 24) rfl)) rfl
theorem kw_1319 : Cond.laysFinal "SmallCourtModel" "SmallCourtModel" "sum" "[I" ∈ hx_all := kt_g (kt_6 (List.mem_of_getElem? (i := 26) rfl)) rfl
theorem kw_1321 : Cond.laysFinal "SmallCourtModel" "SmallCourtModel" "owedFrom" "[I" ∈ hx_all := kt_g (kt_6 (List.mem_of_getElem? (i := 28) rfl)) rfl
theorem kw_1323 : Cond.laysFinal "SmallCourtModel" "SmallCourtModel" "hasNote" "[Z" ∈ hx_all := kt_g (kt_6 (List.mem_of_getElem? (i := 30) rfl)) rfl
theorem kw_1325 : Cond.laysFinal "SmallCourtModel" "SmallCourtModel" "witnesses" "[I" ∈ hx_all := kt_g (kt_6 (List.mem_of_getElem? (i := 32) rfl)) rfl
theorem kw_1327 : Cond.laysFinal "SmallCourtModel" "SmallCourtModel" "filed" "[I" ∈ hx_all := kt_g (kt_6 (List.mem_of_getElem? (i := 34) rfl)) rfl
theorem kw_1329 : Cond.laysFinal "SmallCourtModel" "SmallCourtModel" "place" "[I" ∈ hx_all := kt_g (kt_6 (List.mem_of_getElem? (i := 36) rfl)) rfl
theorem kw_1331 : Cond.laysFinal "SmallCourtModel" "SmallCourtModel" "tries" "[I" ∈ hx_all := kt_g (kt_6 (List.mem_of_getElem? (i := 38) rfl)) rfl
theorem kw_1333 : Cond.laysFinal "SmallCourtModel" "SmallCourtModel" "found" "[I" ∈ hx_all := kt_g (kt_6 (List.mem_of_getElem? (i := 40) rfl)) rfl
theorem kw_1335 : Cond.laysFinal "SmallCourtModel" "SmallCourtModel" "heard" "[I" ∈ hx_all := kt_g (kt_6 (List.mem_of_getElem? (i := 42) rfl)) rfl
theorem kw_1337 : Cond.laysFinal "SmallCourtModel" "SmallCourtModel" "ordered" "[I" ∈ hx_all := kt_g (kt_6 (List.mem_of_getElem? (i := 44) rfl)) rfl
theorem kw_1339 : Cond.laysFinal "SmallCourtModel" "SmallCourtModel" "seized" "[I" ∈ hx_all := kt_g (kt_6 (List.mem_of_getElem? (i := 46) rfl)) rfl
theorem kw_1341 : Cond.laysFinal "SmallCourtModel" "SmallCourtModel" "served" "[I" ∈ hx_all := kt_g (kt_6 (List.mem_of_getElem? (i := 48) rfl)) rfl
theorem kw_1343 : Cond.laysFinal "SmallCourtModel" "SmallCourtModel" "judged" "[I" ∈ hx_all := kt_g (kt_6 (List.mem_of_getElem? (i := 50) rfl)) rfl
theorem kw_1345 : Cond.laysFinal "SmallCourtModel" "SmallCourtModel" "bench" "[I" ∈ hx_all := kt_g (kt_6 (List.mem_of_getElem? (i := 52) rfl)) rfl
theorem kw_1347 : Cond.laysFinal "SmallCourtModel" "SmallCourtModel" "fact" "[I" ∈ hx_all := kt_g (kt_6 (List.mem_of_getElem? (i := 54) rfl)) rfl
theorem kw_1349 : Cond.laysFinal "SmallCourtModel" "SmallCourtModel" "weekly" "[I" ∈ hx_all := kt_g (kt_6 (List.mem_of_getElem? (i := 56) rfl)) rfl
theorem kw_1351 : Cond.laysFinal "SmallCourtModel" "SmallCourtModel" "owed" "[I" ∈ hx_all := kt_g (kt_6 (List.mem_of_getElem? (i := 58) rfl)) rfl
theorem kw_1353 : Cond.laysFinal "SmallCourtModel" "SmallCourtModel" "goods" "[I" ∈ hx_all := kt_g (kt_6 (List.mem_of_getElem? (i := 60) rfl)) rfl
theorem kw_1355 : Cond.lays "SmallCourtModel" "SmallCourtModel" "heardMany" "I" ∈ hx_all := kt_g (kt_6 (List.mem_of_getElem? (i := 62) rfl)) rfl
theorem kw_1357 : Cond.laysFinal "SmallCourtModel" "SmallCourtModel" "heardOf" "[I" ∈ hx_all := kt_g (kt_6 (List.mem_of_getElem? (i := 64) rfl)) rfl
theorem kw_1359 : Cond.lays "SmallCourtModel" "SmallCourtModel" "payments" "I" ∈ hx_all := kt_g (kt_6 (List.mem_of_getElem? (i := 66) rfl)) rfl
theorem kw_1361 : Cond.laysFinal "SmallCourtModel" "SmallCourtModel" "payOf" "[I" ∈ hx_all := kt_g (kt_6 (List.mem_of_getElem? (i := 68) rfl)) rfl
theorem kw_1363 : Cond.laysFinal "SmallCourtModel" "SmallCourtModel" "payDay" "[I" ∈ hx_all := kt_g (kt_6 (List.mem_of_getElem? (i := 70) rfl)) rfl
theorem kw_1365 : Cond.laysFinal "SmallCourtModel" "SmallCourtModel" "paySum" "[I" ∈ hx_all := kt_g (kt_6 (List.mem_of_getElem? (i := 72) rfl)) rfl
theorem kw_1367 : Cond.laysFinal "SmallCourtModel" "SmallCourtModel" "payKnown" "[I" ∈ hx_all := kt_g (kt_6 (List.mem_of_getElem? (i := 74) rfl)) rfl
theorem kw_1369 : Cond.laysFinal "SmallCourtModel" "SmallCourtModel" "payStruck" "[I" ∈ hx_all := kt_g (kt_6 (List.mem_of_getElem? (i := 76) rfl)) rfl
theorem kw_1371 : Cond.laysFinal "SmallCourtModel" "SmallCourtModel" "sitting" "[I" ∈ hx_all := kt_g (kt_6 (List.mem_of_getElem? (i := 78) rfl)) rfl
theorem kw_1373 : Cond.laysFinal "SmallCourtModel" "SmallCourtModel" "stack" "[Z" ∈ hx_all := kt_g (kt_6 (List.mem_of_getElem? (i := 80) rfl)) rfl
theorem kw_1375 : Cond.lays "SmallCourtModel" "SmallCourtModel" "isPaid" "I" ∈ hx_all := kt_g (kt_6 (List.mem_of_getElem? (i := 82) rfl)) rfl
theorem kw_1377 : Cond.lays "SmallCourtModel" "SmallCourtModel" "isRest" "I" ∈ hx_all := kt_g (kt_6 (List.mem_of_getElem? (i := 84) rfl)) rfl
theorem kw_1379 : Cond.lays "SmallCourtModel" "SmallCourtModel" "isOver" "I" ∈ hx_all := kt_g (kt_6 (List.mem_of_getElem? (i := 86) rfl)) rfl
theorem kw_1381 : Cond.lays "SmallCourtModel" "SmallCourtModel" "isMissed" "I" ∈ hx_all := kt_g (kt_6 (List.mem_of_getElem? (i := 88) rfl)) rfl
theorem kw_1383 : Cond.lays "SmallCourtModel" "SmallCourtModel" "isState" "I" ∈ hx_all := kt_g (kt_6 (List.mem_of_getElem? (i := 90) rfl)) rfl
theorem kw_1385 : Cond.lays "SmallCourtModel" "SmallCourtModel" "planMany" "I" ∈ hx_all := kt_g (kt_6 (List.mem_of_getElem? (i := 92) rfl)) rfl
theorem kw_1387 : Cond.laysFinal "SmallCourtModel" "SmallCourtModel" "planClaim" "[I" ∈ hx_all := kt_g (kt_6 (List.mem_of_getElem? (i := 94) rfl)) rfl
theorem kw_1389 : Cond.laysFinal "SmallCourtModel" "SmallCourtModel" "planWeekly" "[I" ∈ hx_all := kt_g (kt_6 (List.mem_of_getElem? (i := 96) rfl)) rfl
theorem kw_1391 : Cond.lays "SmallCourtModel" "SmallCourtModel" "few" "I" ∈ hx_all := kt_g (kt_6 (List.mem_of_getElem? (i := 98) rfl)) rfl
theorem kw_1393 : Cond.laysFinal "SmallCourtModel" "SmallCourtModel" "fewOf" "[I" ∈ hx_all := kt_g (kt_6 (List.mem_of_getElem? (i := 100) rfl)) rfl
theorem kw_1395 : Cond.laysFinal "SmallCourtModel" "SmallCourtModel" "fewRest" "[I" ∈ hx_all := kt_g (kt_6 (List.mem_of_getElem? (i := 102) rfl)) rfl
theorem kw_1397 : Cond.laysFinal "SmallCourtModel" "SmallCourtModel" "fewLeast" "[I" ∈ hx_all := kt_g (kt_6 (List.mem_of_getElem? (i := 104) rfl)) rfl
theorem kw_1399 : Cond.laysFinal "SmallCourtModel" "SmallCourtModel" "more" "[I" ∈ hx_all := kt_g (kt_6 (List.mem_of_getElem? (i := 106) rfl)) rfl
theorem kw_1401 : Cond.laysFinal "SmallCourtModel" "SmallCourtModel" "bestMore" "[I" ∈ hx_all := kt_g (kt_6 (List.mem_of_getElem? (i := 108) rfl)) rfl
theorem kw_1403 : Cond.laysFinal "SmallCourtModel" "SmallCourtModel" "planWeeks" "[I" ∈ hx_all := kt_g (kt_6 (List.mem_of_getElem? (i := 110) rfl)) rfl
theorem kw_1405 : Cond.laysFinal "SmallCourtModel" "SmallCourtModel" "debt" "[I" ∈ hx_all := kt_g (kt_6 (List.mem_of_getElem? (i := 112) rfl)) rfl
theorem kw_1407 : Cond.lays "SmallCourtModel" "SmallCourtModel" "hasNetted" "Z" ∈ hx_all := kt_g (kt_6 (List.mem_of_getElem? (i := 114) rfl)) rfl
theorem kw_1409 : Cond.lays "SmallCourtModel" "SmallCourtModel" "ringMany" "I" ∈ hx_all := kt_g (kt_6 (List.mem_of_getElem? (i := 116) rfl)) rfl
theorem kw_1411 : Cond.laysFinal "SmallCourtModel" "SmallCourtModel" "ringLeast" "[I" ∈ hx_all := kt_g (kt_6 (List.mem_of_getElem? (i := 118) rfl)) rfl
theorem kw_1413 : Cond.lays "SmallCourtModel" "SmallCourtModel" "bestLeast" "I" ∈ hx_all := kt_g (kt_6 (List.mem_of_getElem? (i := 120) rfl)) rfl
theorem kw_1415 : Cond.lays "SmallCourtModel" "SmallCourtModel" "bestSize" "I" ∈ hx_all := kt_g (kt_6 (List.mem_of_getElem? (i := 122) rfl)) rfl
theorem kw_1417 : Cond.laysFinal "SmallCourtModel" "SmallCourtModel" "bestRing" "[I" ∈ hx_all := kt_g (kt_6 (List.mem_of_getElem? (i := 124) rfl)) rfl
theorem kw_1419 : Cond.laysFinal "SmallCourtModel" "SmallCourtModel" "ring" "[I" ∈ hx_all := kt_g (kt_6 (List.mem_of_getElem? (i := 126) rfl)) rfl
theorem kw_1421 : Cond.lays "SmallCourtModel" "SmallCourtModel" "listed" "I" ∈ hx_all := kt_g (kt_6 (List.mem_of_getElem? (i := 128) rfl)) rfl
theorem kw_1423 : Cond.laysFinal "SmallCourtModel" "SmallCourtModel" "list" "[I" ∈ hx_all := kt_g (kt_6 (List.mem_of_getElem? (i := 130) rfl)) rfl
theorem kw_1425 : Cond.lays "SmallCourtModel" "SmallCourtModel" "walkedMany" "I" ∈ hx_all := kt_g (kt_6 (List.mem_of_getElem? (i := 132) rfl)) rfl
theorem kw_1427 : Cond.laysFinal "SmallCourtModel" "SmallCourtModel" "walked" "[I" ∈ hx_all := kt_g (kt_6 (List.mem_of_getElem? (i := 134) rfl)) rfl
theorem kw_1429 : Cond.laysFinal "SmallCourtModel" "SmallCourtModel" "home" "[I" ∈ hx_all := kt_g (kt_6 (List.mem_of_getElem? (i := 136) rfl)) rfl
theorem kw_1431 : Cond.lays "SmallCourtModel" "SmallCourtModel" "habitMany" "I" ∈ hx_all := kt_g (kt_6 (List.mem_of_getElem? (i := 138) rfl)) rfl
theorem kw_1433 : Cond.lays "SmallCourtModel" "SmallCourtModel" "habitProved" "I" ∈ hx_all := kt_g (kt_6 (List.mem_of_getElem? (i := 140) rfl)) rfl
theorem kw_1435 : Cond.laysFinal "SmallCourtModel" "SmallCourtModel" "ways" "[J" ∈ hx_all := kt_g (kt_6 (List.mem_of_getElem? (i := 142) rfl)) rfl
theorem kw_1438 : Cond.arrayClass .long ∈ hx_all := kt_g (kt_6 (List.mem_of_getElem? (i := 145) rfl)) rfl
theorem kw_1439 : Cond.methodLink "SmallCourtLaw" 17 yX10_clock ∈ hx_all := kt_g (kt_6 (List.mem_of_getElem? (i := 146) rfl)) rfl
theorem kw_1440 : Cond.instanceMethod yX10_clock ∈ hx_all := kt_g (kt_6 (List.mem_of_getElem? (i := 147) rfl)) rfl
theorem kw_1441 : Cond.selects "SmallCourtModel" yX10_clock yX10_clock ∈ hx_all := kt_g (kt_6 (List.mem_of_getElem? (i := 148) rfl)) rfl
theorem kw_1442 : Cond.code yX10_clock cX10_clock 2 (some .boolean) ∈ hx_all := kt_g (kt_6 (List.mem_of_getElem? (i := 149) rfl)) rfl
theorem kw_1443 : Cond.methodLink "SmallCourtModel" 228 yX10_in ∈ hx_all := kt_g (kt_6 (List.mem_of_getElem? (i := 150) rfl)) rfl
theorem kw_1444 : Cond.static yX10_in ∈ hx_all := kt_g (kt_6 (List.mem_of_getElem? (i := 151) rfl)) rfl
theorem kw_1445 : Cond.code yX10_in cX10_in 3 (some .boolean) ∈ hx_all := kt_g (kt_6 (List.mem_of_getElem? (i := 152) rfl)) rfl
theorem kw_1446 : Cond.methodLink "SmallCourtLaw" 22 yX10_feed ∈ hx_all := kt_g (kt_6 (List.mem_of_getElem? (i := 153) rfl)) rfl
theorem kw_1447 : Cond.instanceMethod yX10_feed ∈ hx_all := kt_g (kt_6 (List.mem_of_getElem? (i := 154) rfl)) rfl
theorem kw_1448 : Cond.selects "SmallCourtModel" yX10_feed yX10_feed ∈ hx_all := kt_g (kt_6 (List.mem_of_getElem? (i := 155) rfl)) rfl
theorem kw_1449 : Cond.code yX10_feed cX10_feed 6 (some .int) ∈ hx_all := kt_g (kt_6 (List.mem_of_getElem? (i := 156) rfl)) rfl
theorem kw_1450 : Cond.methodLink "SmallCourtModel" 239 yX10_four ∈ hx_all := kt_g (kt_6 (List.mem_of_getElem? (i := 157) rfl)) rfl
theorem kw_1452 : Cond.instanceMethod yX10_four ∈ hx_all := kt_g (kt_6 (List.mem_of_getElem? (i := 159) rfl)) rfl
theorem kw_1453 : Cond.code yX10_four cX10_four 3 none ∈ hx_all := kt_g (kt_6 (List.mem_of_getElem? (i := 160) rfl)) rfl
theorem kw_1454 : Cond.methodLink "SmallCourtLaw" 27 yX10_end ∈ hx_all := kt_g (kt_6 (List.mem_of_getElem? (i := 161) rfl)) rfl
theorem kw_1455 : Cond.instanceMethod yX10_end ∈ hx_all := kt_g (kt_6 (List.mem_of_getElem? (i := 162) rfl)) rfl
theorem kw_1456 : Cond.selects "SmallCourtModel" yX10_end yX10_end ∈ hx_all := kt_g (kt_6 (List.mem_of_getElem? (i := 163) rfl)) rfl
theorem kw_1457 : Cond.code yX10_end cX10_end 2 (some .int) ∈ hx_all := kt_g (kt_6 (List.mem_of_getElem? (i := 164) rfl)) rfl
theorem kw_1458 : Cond.methodLink "SmallCourtLaw" 31 yX10_act ∈ hx_all := kt_g (kt_6 (List.mem_of_getElem? (i := 165) rfl)) rfl
theorem kw_1459 : Cond.instanceMethod yX10_act ∈ hx_all := kt_g (kt_6 (List.mem_of_getElem? (i := 166) rfl)) rfl
theorem kw_1460 : Cond.selects "SmallCourtModel" yX10_act yX10_act ∈ hx_all := kt_g (kt_6 (List.mem_of_getElem? (i := 167) rfl)) rfl
theorem kw_1461 : Cond.code yX10_act cX10_act 5 (some .int) ∈ hx_all := kt_g (kt_6 (List.mem_of_getElem? (i := 168) rfl)) rfl
theorem kw_1462 : Cond.methodLink "SmallCourtModel" 324 yX10_isDay ∈ hx_all := kt_g (kt_6 (List.mem_of_getElem? (i := 169) rfl)) rfl
theorem kw_1463 : Cond.static yX10_isDay ∈ hx_all := kt_g (kt_6 (List.mem_of_getElem? (i := 170) rfl)) rfl
theorem kw_1464 : Cond.code yX10_isDay cX10_isDay 1 (some .boolean) ∈ hx_all := kt_g (kt_6 (List.mem_of_getElem? (i := 171) rfl)) rfl
theorem kw_1465 : Cond.methodLink "SmallCourtModel" 248 yX10_see ∈ hx_all := kt_g (kt_6 (List.mem_of_getElem? (i := 172) rfl)) rfl
theorem kw_1467 : Cond.instanceMethod yX10_see ∈ hx_all := kt_g (kt_6 (List.mem_of_getElem? (i := 174) rfl)) rfl
theorem kw_1468 : Cond.code yX10_see cX10_see 1 (some .int) ∈ hx_all := kt_g (kt_6 (List.mem_of_getElem? (i := 175) rfl)) rfl
theorem kw_1469 : Cond.methodLink "SmallCourtModel" 327 yX10_clause ∈ hx_all := kt_g (kt_6 (List.mem_of_getElem? (i := 176) rfl)) rfl
theorem kw_1471 : Cond.instanceMethod yX10_clause ∈ hx_all := kt_g (kt_6 (List.mem_of_getElem? (i := 178) rfl)) rfl
theorem kw_1472 : Cond.code yX10_clause cX10_clause 4 (some .boolean) ∈ hx_all := kt_g (kt_6 (List.mem_of_getElem? (i := 179) rfl)) rfl
theorem kw_1473 : Cond.methodLink "SmallCourtModel" 277 yX10_wordHere ∈ hx_all := kt_g (kt_6 (List.mem_of_getElem? (i := 180) rfl)) rfl
theorem kw_1475 : Cond.instanceMethod yX10_wordHere ∈ hx_all := kt_g (kt_6 (List.mem_of_getElem? (i := 182) rfl)) rfl
theorem kw_1476 : Cond.code yX10_wordHere cX10_wordHere 5 (some .int) ∈ hx_all := kt_g (kt_6 (List.mem_of_getElem? (i := 183) rfl)) rfl
theorem kw_1477 : Cond.methodLink "SmallCourtModel" 255 yX10_fails ∈ hx_all := kt_g (kt_6 (List.mem_of_getElem? (i := 184) rfl)) rfl
theorem kw_1479 : Cond.instanceMethod yX10_fails ∈ hx_all := kt_g (kt_6 (List.mem_of_getElem? (i := 186) rfl)) rfl
theorem kw_1480 : Cond.code yX10_fails cX10_fails 3 (some .boolean) ∈ hx_all := kt_g (kt_6 (List.mem_of_getElem? (i := 187) rfl)) rfl
theorem kw_1481 : Cond.methodLink "SmallCourtModel" 309 yX10_isNew ∈ hx_all := kt_g (kt_6 (List.mem_of_getElem? (i := 188) rfl)) rfl
theorem kw_1483 : Cond.instanceMethod yX10_isNew ∈ hx_all := kt_g (kt_6 (List.mem_of_getElem? (i := 190) rfl)) rfl
theorem kw_1484 : Cond.code yX10_isNew cX10_isNew 3 (some .boolean) ∈ hx_all := kt_g (kt_6 (List.mem_of_getElem? (i := 191) rfl)) rfl
theorem kw_1485 : Cond.methodLink "SmallCourtModel" 312 yX10_either ∈ hx_all := kt_g (kt_6 (List.mem_of_getElem? (i := 192) rfl)) rfl
theorem kw_1487 : Cond.instanceMethod yX10_either ∈ hx_all := kt_g (kt_6 (List.mem_of_getElem? (i := 194) rfl)) rfl
theorem kw_1488 : Cond.code yX10_either cX10_either 4 (some .boolean) ∈ hx_all := kt_g (kt_6 (List.mem_of_getElem? (i := 195) rfl)) rfl
theorem kw_1489 : Cond.methodLink "SmallCourtModel" 296 yX10_begins ∈ hx_all := kt_g (kt_6 (List.mem_of_getElem? (i := 196) rfl)) rfl
theorem kw_1491 : Cond.instanceMethod yX10_begins ∈ hx_all := kt_g (kt_6 (List.mem_of_getElem? (i := 198) rfl)) rfl
theorem kw_1492 : Cond.code yX10_begins cX10_begins 3 (some .boolean) ∈ hx_all := kt_g (kt_6 (List.mem_of_getElem? (i := 199) rfl)) rfl
theorem kw_1493 : Cond.methodLink "SmallCourtModel" 290 yX10_compare ∈ hx_all := kt_g (kt_6 (List.mem_of_getElem? (i := 200) rfl)) rfl
theorem kw_1495 : Cond.instanceMethod yX10_compare ∈ hx_all := kt_g (kt_6 (List.mem_of_getElem? (i := 202) rfl)) rfl
theorem kw_1496 : Cond.code yX10_compare cX10_compare 6 (some .boolean) ∈ hx_all := kt_g (kt_6 (List.mem_of_getElem? (i := 203) rfl)) rfl
theorem kw_1497 : Cond.methodLink "SmallCourtModel" 270 yX10_isFact ∈ hx_all := kt_g (kt_6 (List.mem_of_getElem? (i := 204) rfl)) rfl
theorem kw_1498 : Cond.static yX10_isFact ∈ hx_all := kt_g (kt_6 (List.mem_of_getElem? (i := 205) rfl)) rfl
theorem kw_1499 : Cond.code yX10_isFact cX10_isFact 1 (some .boolean) ∈ hx_all := kt_g (kt_6 (List.mem_of_getElem? (i := 206) rfl)) rfl
theorem kw_1500 : Cond.methodLink "SmallCourtModel" 287 yX10_number ∈ hx_all := kt_g (kt_6 (List.mem_of_getElem? (i := 207) rfl)) rfl
theorem kw_1502 : Cond.instanceMethod yX10_number ∈ hx_all := kt_g (kt_6 (List.mem_of_getElem? (i := 209) rfl)) rfl
theorem kw_1503 : Cond.code yX10_number cX10_number 7 (some .boolean) ∈ hx_all := kt_g (kt_6 (List.mem_of_getElem? (i := 210) rfl)) rfl
theorem kw_1504 : Cond.methodLink "SmallCourtModel" 293 yX10_deep ∈ hx_all := kt_g (kt_6 (List.mem_of_getElem? (i := 211) rfl)) rfl
theorem kw_1506 : Cond.instanceMethod yX10_deep ∈ hx_all := kt_g (kt_6 (List.mem_of_getElem? (i := 213) rfl)) rfl
theorem kw_1507 : Cond.code yX10_deep cX10_deep 3 (some .int) ∈ hx_all := kt_g (kt_6 (List.mem_of_getElem? (i := 214) rfl)) rfl
theorem kw_1508 : Cond.methodLink "SmallCourtModel" 300 yX10_closesNots ∈ hx_all := kt_g (kt_6 (List.mem_of_getElem? (i := 215) rfl)) rfl
theorem kw_1510 : Cond.instanceMethod yX10_closesNots ∈ hx_all := kt_g (kt_6 (List.mem_of_getElem? (i := 217) rfl)) rfl
theorem kw_1511 : Cond.code yX10_closesNots cX10_closesNots 1 none ∈ hx_all := kt_g (kt_6 (List.mem_of_getElem? (i := 218) rfl)) rfl
theorem kw_1512 : Cond.methodLink "SmallCourtModel" 303 yX10_closesDown ∈ hx_all := kt_g (kt_6 (List.mem_of_getElem? (i := 219) rfl)) rfl
theorem kw_1514 : Cond.instanceMethod yX10_closesDown ∈ hx_all := kt_g (kt_6 (List.mem_of_getElem? (i := 221) rfl)) rfl
theorem kw_1515 : Cond.code yX10_closesDown cX10_closesDown 2 none ∈ hx_all := kt_g (kt_6 (List.mem_of_getElem? (i := 222) rfl)) rfl
theorem kw_1516 : Cond.methodLink "SmallCourtModel" 315 yX10_leastOf ∈ hx_all := kt_g (kt_6 (List.mem_of_getElem? (i := 223) rfl)) rfl
theorem kw_1517 : Cond.static yX10_leastOf ∈ hx_all := kt_g (kt_6 (List.mem_of_getElem? (i := 224) rfl)) rfl
theorem kw_1518 : Cond.code yX10_leastOf cX10_leastOf 1 (some .int) ∈ hx_all := kt_g (kt_6 (List.mem_of_getElem? (i := 225) rfl)) rfl
theorem kw_1519 : Cond.methodLink "SmallCourtModel" 318 yX10_mostOf ∈ hx_all := kt_g (kt_6 (List.mem_of_getElem? (i := 226) rfl)) rfl
theorem kw_1520 : Cond.static yX10_mostOf ∈ hx_all := kt_g (kt_6 (List.mem_of_getElem? (i := 227) rfl)) rfl
theorem kw_1521 : Cond.code yX10_mostOf cX10_mostOf 1 (some .int) ∈ hx_all := kt_g (kt_6 (List.mem_of_getElem? (i := 228) rfl)) rfl
theorem kw_1522 : Cond.methodLink "SmallCourtLaw" 36 yX10_force ∈ hx_all := kt_g (kt_6 (List.mem_of_getElem? (i := 229) rfl)) rfl
theorem kw_1523 : Cond.instanceMethod yX10_force ∈ hx_all := kt_g (kt_6 (List.mem_of_getElem? (i := 230) rfl)) rfl
theorem kw_1524 : Cond.selects "SmallCourtModel" yX10_force yX10_force ∈ hx_all := kt_g (kt_6 (List.mem_of_getElem? (i := 231) rfl)) rfl
theorem kw_1525 : Cond.code yX10_force cX10_force 4 (some .int) ∈ hx_all := kt_g (kt_6 (List.mem_of_getElem? (i := 232) rfl)) rfl
theorem kw_1526 : Cond.methodLink "SmallCourtModel" 330 yX10_inForce ∈ hx_all := kt_g (kt_6 (List.mem_of_getElem? (i := 233) rfl)) rfl
theorem kw_1528 : Cond.instanceMethod yX10_inForce ∈ hx_all := kt_g (kt_6 (List.mem_of_getElem? (i := 235) rfl)) rfl
theorem kw_1529 : Cond.code yX10_inForce cX10_inForce 4 (some .int) ∈ hx_all := kt_g (kt_6 (List.mem_of_getElem? (i := 236) rfl)) rfl
theorem kw_1530 : Cond.methodLink "SmallCourtModel" 333 yX10_ruleOf ∈ hx_all := kt_g (kt_6 (List.mem_of_getElem? (i := 237) rfl)) rfl
theorem kw_1532 : Cond.instanceMethod yX10_ruleOf ∈ hx_all := kt_g (kt_6 (List.mem_of_getElem? (i := 239) rfl)) rfl
theorem kw_1533 : Cond.code yX10_ruleOf cX10_ruleOf 3 (some .int) ∈ hx_all := kt_g (kt_7 (List.mem_of_getElem? (i := 0) rfl)) rfl
theorem kw_1534 : Cond.methodLink "SmallCourtLaw" 41 yX10_person ∈ hx_all := kt_g (kt_7 (List.mem_of_getElem? (i := 1) rfl)) rfl
theorem kw_1535 : Cond.instanceMethod yX10_person ∈ hx_all := kt_g (kt_7 (List.mem_of_getElem? (i := 2) rfl)) rfl
theorem kw_1536 : Cond.selects "SmallCourtModel" yX10_person yX10_person ∈ hx_all := kt_g (kt_7 (List.mem_of_getElem? (i := 3) rfl)) rfl
theorem kw_1537 : Cond.code yX10_person cX10_person 7 (some .int) ∈ hx_all := kt_g (kt_7 (List.mem_of_getElem? (i := 4) rfl)) rfl
theorem kw_1538 : Cond.methodLink "SmallCourtModel" 340 yX10_areLives ∈ hx_all := kt_g (kt_7 (List.mem_of_getElem? (i := 5) rfl)) rfl
theorem kw_1539 : Cond.static yX10_areLives ∈ hx_all := kt_g (kt_7 (List.mem_of_getElem? (i := 6) rfl)) rfl
theorem kw_1540 : Cond.code yX10_areLives cX10_areLives 4 (some .boolean) ∈ hx_all := kt_g (kt_7 (List.mem_of_getElem? (i := 7) rfl)) rfl
theorem kw_1541 : Cond.methodLink "SmallCourtModel" 344 yX10_lives ∈ hx_all := kt_g (kt_7 (List.mem_of_getElem? (i := 8) rfl)) rfl
theorem kw_1543 : Cond.instanceMethod yX10_lives ∈ hx_all := kt_g (kt_7 (List.mem_of_getElem? (i := 10) rfl)) rfl
theorem kw_1544 : Cond.code yX10_lives cX10_lives 6 none ∈ hx_all := kt_g (kt_7 (List.mem_of_getElem? (i := 11) rfl)) rfl
theorem kw_1545 : Cond.methodLink "SmallCourtLaw" 46 yX10_anew ∈ hx_all := kt_g (kt_7 (List.mem_of_getElem? (i := 12) rfl)) rfl
theorem kw_1546 : Cond.instanceMethod yX10_anew ∈ hx_all := kt_g (kt_7 (List.mem_of_getElem? (i := 13) rfl)) rfl
theorem kw_1547 : Cond.selects "SmallCourtModel" yX10_anew yX10_anew ∈ hx_all := kt_g (kt_7 (List.mem_of_getElem? (i := 14) rfl)) rfl
theorem kw_1548 : Cond.code yX10_anew cX10_anew 6 (some .boolean) ∈ hx_all := kt_g (kt_7 (List.mem_of_getElem? (i := 15) rfl)) rfl
theorem kw_1549 : Cond.methodLink "SmallCourtModel" 348 yX10_isPerson ∈ hx_all := kt_g (kt_7 (List.mem_of_getElem? (i := 16) rfl)) rfl
theorem kw_1551 : Cond.instanceMethod yX10_isPerson ∈ hx_all := kt_g (kt_7 (List.mem_of_getElem? (i := 18) rfl)) rfl
theorem kw_1552 : Cond.code yX10_isPerson cX10_isPerson 2 (some .boolean) ∈ hx_all := kt_g (kt_7 (List.mem_of_getElem? (i := 19) rfl)) rfl
theorem kw_1553 : Cond.methodLink "SmallCourtLaw" 50 yX10_dies ∈ hx_all := kt_g (kt_7 (List.mem_of_getElem? (i := 20) rfl)) rfl
theorem kw_1554 : Cond.instanceMethod yX10_dies ∈ hx_all := kt_g (kt_7 (List.mem_of_getElem? (i := 21) rfl)) rfl
theorem kw_1555 : Cond.selects "SmallCourtModel" yX10_dies yX10_dies ∈ hx_all := kt_g (kt_7 (List.mem_of_getElem? (i := 22) rfl)) rfl
theorem kw_1556 : Cond.code yX10_dies cX10_dies 2 (some .boolean) ∈ hx_all := kt_g (kt_7 (List.mem_of_getElem? (i := 23) rfl)) rfl
theorem kw_1557 : Cond.methodLink "SmallCourtLaw" 55 yX10_judge ∈ hx_all := kt_g (kt_7 (List.mem_of_getElem? (i := 24) rfl)) rfl
theorem kw_1558 : Cond.instanceMethod yX10_judge ∈ hx_all := kt_g (kt_7 (List.mem_of_getElem? (i := 25) rfl)) rfl
theorem kw_1559 : Cond.selects "SmallCourtModel" yX10_judge yX10_judge ∈ hx_all := kt_g (kt_7 (List.mem_of_getElem? (i := 26) rfl)) rfl
theorem kw_1560 : Cond.code yX10_judge cX10_judge 3 (some .boolean) ∈ hx_all := kt_g (kt_7 (List.mem_of_getElem? (i := 27) rfl)) rfl
theorem kw_1561 : Cond.methodLink "SmallCourtLaw" 59 yX10_line ∈ hx_all := kt_g (kt_7 (List.mem_of_getElem? (i := 28) rfl)) rfl
theorem kw_1562 : Cond.instanceMethod yX10_line ∈ hx_all := kt_g (kt_7 (List.mem_of_getElem? (i := 29) rfl)) rfl
theorem kw_1563 : Cond.selects "SmallCourtModel" yX10_line yX10_line ∈ hx_all := kt_g (kt_7 (List.mem_of_getElem? (i := 30) rfl)) rfl
theorem kw_1564 : Cond.code yX10_line cX10_line 6 (some .int) ∈ hx_all := kt_g (kt_7 (List.mem_of_getElem? (i := 31) rfl)) rfl
theorem kw_1565 : Cond.methodLink "SmallCourtLaw" 64 yX10_book ∈ hx_all := kt_g (kt_7 (List.mem_of_getElem? (i := 32) rfl)) rfl
theorem kw_1566 : Cond.instanceMethod yX10_book ∈ hx_all := kt_g (kt_7 (List.mem_of_getElem? (i := 33) rfl)) rfl
theorem kw_1567 : Cond.selects "SmallCourtModel" yX10_book yX10_book ∈ hx_all := kt_g (kt_7 (List.mem_of_getElem? (i := 34) rfl)) rfl
theorem kw_1568 : Cond.code yX10_book cX10_book 5 (some .int) ∈ hx_all := kt_g (kt_7 (List.mem_of_getElem? (i := 35) rfl)) rfl
theorem kw_1569 : Cond.constant "SmallCourtModel" 357 (-1000000) ∈ hx_all := kt_g (kt_7 (List.mem_of_getElem? (i := 36) rfl)) rfl
theorem kw_1570 : Cond.methodLink "SmallCourtModel" 358 yX10_bookSum ∈ hx_all := kt_g (kt_7 (List.mem_of_getElem? (i := 37) rfl)) rfl
theorem kw_1572 : Cond.instanceMethod yX10_bookSum ∈ hx_all := kt_g (kt_7 (List.mem_of_getElem? (i := 39) rfl)) rfl
theorem kw_1573 : Cond.code yX10_bookSum cX10_bookSum 6 (some .int) ∈ hx_all := kt_g (kt_7 (List.mem_of_getElem? (i := 40) rfl)) rfl
theorem kw_1574 : Cond.methodLink "SmallCourtModel" 361 yX10_alike ∈ hx_all := kt_g (kt_7 (List.mem_of_getElem? (i := 41) rfl)) rfl
theorem kw_1576 : Cond.instanceMethod yX10_alike ∈ hx_all := kt_g (kt_7 (List.mem_of_getElem? (i := 43) rfl)) rfl
theorem kw_1577 : Cond.code yX10_alike cX10_alike 9 (some .int) ∈ hx_all := kt_g (kt_7 (List.mem_of_getElem? (i := 44) rfl)) rfl
theorem kw_1578 : Cond.methodLink "SmallCourtModel" 354 yX10_areTwins ∈ hx_all := kt_g (kt_7 (List.mem_of_getElem? (i := 45) rfl)) rfl
theorem kw_1580 : Cond.instanceMethod yX10_areTwins ∈ hx_all := kt_g (kt_7 (List.mem_of_getElem? (i := 47) rfl)) rfl
theorem kw_1581 : Cond.code yX10_areTwins cX10_areTwins 4 (some .boolean) ∈ hx_all := kt_g (kt_7 (List.mem_of_getElem? (i := 48) rfl)) rfl
theorem kw_1582 : Cond.methodLink "SmallCourtModel" 364 yX10_disorder ∈ hx_all := kt_g (kt_7 (List.mem_of_getElem? (i := 49) rfl)) rfl
theorem kw_1584 : Cond.instanceMethod yX10_disorder ∈ hx_all := kt_g (kt_7 (List.mem_of_getElem? (i := 51) rfl)) rfl
theorem kw_1585 : Cond.code yX10_disorder cX10_disorder 5 (some .int) ∈ hx_all := kt_g (kt_7 (List.mem_of_getElem? (i := 52) rfl)) rfl
theorem kw_1586 : Cond.methodLink "SmallCourtLaw" 69 yX10_file ∈ hx_all := kt_g (kt_7 (List.mem_of_getElem? (i := 53) rfl)) rfl
theorem kw_1587 : Cond.instanceMethod yX10_file ∈ hx_all := kt_g (kt_7 (List.mem_of_getElem? (i := 54) rfl)) rfl
theorem kw_1588 : Cond.selects "SmallCourtModel" yX10_file yX10_file ∈ hx_all := kt_g (kt_7 (List.mem_of_getElem? (i := 55) rfl)) rfl
theorem kw_1589 : Cond.code yX10_file cX10_file 9 (some .int) ∈ hx_all := kt_g (kt_7 (List.mem_of_getElem? (i := 56) rfl)) rfl
theorem kw_1590 : Cond.methodLink "SmallCourtLaw" 74 yX10_summons ∈ hx_all := kt_g (kt_7 (List.mem_of_getElem? (i := 57) rfl)) rfl
theorem kw_1591 : Cond.instanceMethod yX10_summons ∈ hx_all := kt_g (kt_7 (List.mem_of_getElem? (i := 58) rfl)) rfl
theorem kw_1592 : Cond.selects "SmallCourtModel" yX10_summons yX10_summons ∈ hx_all := kt_g (kt_7 (List.mem_of_getElem? (i := 59) rfl)) rfl
theorem kw_1593 : Cond.code yX10_summons cX10_summons 3 (some .int) ∈ hx_all := kt_g (kt_7 (List.mem_of_getElem? (i := 60) rfl)) rfl
theorem kw_1594 : Cond.methodLink "SmallCourtModel" 370 yX10_isClaim ∈ hx_all := kt_g (kt_7 (List.mem_of_getElem? (i := 61) rfl)) rfl
theorem kw_1596 : Cond.instanceMethod yX10_isClaim ∈ hx_all := kt_g (kt_7 (List.mem_of_getElem? (i := 63) rfl)) rfl
theorem kw_1597 : Cond.code yX10_isClaim cX10_isClaim 2 (some .boolean) ∈ hx_all := kt_g (kt_7 (List.mem_of_getElem? (i := 64) rfl)) rfl
theorem kw_1598 : Cond.methodLink "SmallCourtLaw" 79 yX10_hear ∈ hx_all := kt_g (kt_7 (List.mem_of_getElem? (i := 65) rfl)) rfl
theorem kw_1599 : Cond.instanceMethod yX10_hear ∈ hx_all := kt_g (kt_7 (List.mem_of_getElem? (i := 66) rfl)) rfl
theorem kw_1600 : Cond.selects "SmallCourtModel" yX10_hear yX10_hear ∈ hx_all := kt_g (kt_7 (List.mem_of_getElem? (i := 67) rfl)) rfl
theorem kw_1601 : Cond.code yX10_hear cX10_hear 6 (some .int) ∈ hx_all := kt_g (kt_7 (List.mem_of_getElem? (i := 68) rfl)) rfl
theorem kw_1602 : Cond.methodLink "SmallCourtModel" 385 yX10_sits ∈ hx_all := kt_g (kt_7 (List.mem_of_getElem? (i := 69) rfl)) rfl
theorem kw_1604 : Cond.instanceMethod yX10_sits ∈ hx_all := kt_g (kt_7 (List.mem_of_getElem? (i := 71) rfl)) rfl
theorem kw_1605 : Cond.code yX10_sits cX10_sits 4 (some .int) ∈ hx_all := kt_g (kt_7 (List.mem_of_getElem? (i := 72) rfl)) rfl
theorem kw_1606 : Cond.methodLink "SmallCourtModel" 382 yX10_isKinOf ∈ hx_all := kt_g (kt_7 (List.mem_of_getElem? (i := 73) rfl)) rfl
theorem kw_1608 : Cond.instanceMethod yX10_isKinOf ∈ hx_all := kt_g (kt_7 (List.mem_of_getElem? (i := 75) rfl)) rfl
theorem kw_1609 : Cond.code yX10_isKinOf cX10_isKinOf 3 (some .boolean) ∈ hx_all := kt_g (kt_7 (List.mem_of_getElem? (i := 76) rfl)) rfl
theorem kw_1610 : Cond.methodLink "SmallCourtModel" 388 yX10_draws ∈ hx_all := kt_g (kt_7 (List.mem_of_getElem? (i := 77) rfl)) rfl
theorem kw_1612 : Cond.instanceMethod yX10_draws ∈ hx_all := kt_g (kt_7 (List.mem_of_getElem? (i := 79) rfl)) rfl
theorem kw_1613 : Cond.code yX10_draws cX10_draws 8 none ∈ hx_all := kt_g (kt_7 (List.mem_of_getElem? (i := 80) rfl)) rfl
theorem kw_1614 : Cond.methodLink "SmallCourtModel" 395 yX10_judges ∈ hx_all := kt_g (kt_7 (List.mem_of_getElem? (i := 81) rfl)) rfl
theorem kw_1616 : Cond.instanceMethod yX10_judges ∈ hx_all := kt_g (kt_7 (List.mem_of_getElem? (i := 83) rfl)) rfl
theorem kw_1617 : Cond.code yX10_judges cX10_judges 3 (some .int) ∈ hx_all := kt_g (kt_7 (List.mem_of_getElem? (i := 84) rfl)) rfl
theorem kw_1618 : Cond.methodLink "SmallCourtModel" 376 yX10_isSplit ∈ hx_all := kt_g (kt_7 (List.mem_of_getElem? (i := 85) rfl)) rfl
theorem kw_1620 : Cond.instanceMethod yX10_isSplit ∈ hx_all := kt_g (kt_7 (List.mem_of_getElem? (i := 87) rfl)) rfl
theorem kw_1621 : Cond.code yX10_isSplit cX10_isSplit 6 (some .boolean) ∈ hx_all := kt_g (kt_7 (List.mem_of_getElem? (i := 88) rfl)) rfl
theorem kw_1622 : Cond.methodLink "SmallCourtModel" 379 yX10_isProved ∈ hx_all := kt_g (kt_7 (List.mem_of_getElem? (i := 89) rfl)) rfl
theorem kw_1624 : Cond.instanceMethod yX10_isProved ∈ hx_all := kt_g (kt_7 (List.mem_of_getElem? (i := 91) rfl)) rfl
theorem kw_1625 : Cond.code yX10_isProved cX10_isProved 6 (some .boolean) ∈ hx_all := kt_g (kt_7 (List.mem_of_getElem? (i := 92) rfl)) rfl
theorem kw_1626 : Cond.methodLink "SmallCourtModel" 373 yX10_isSo ∈ hx_all := kt_g (kt_7 (List.mem_of_getElem? (i := 93) rfl)) rfl
theorem kw_1628 : Cond.instanceMethod yX10_isSo ∈ hx_all := kt_g (kt_7 (List.mem_of_getElem? (i := 95) rfl)) rfl
theorem kw_1629 : Cond.code yX10_isSo cX10_isSo 6 (some .boolean) ∈ hx_all := kt_g (kt_7 (List.mem_of_getElem? (i := 96) rfl)) rfl
theorem kw_1630 : Cond.methodLink "SmallCourtLaw" 83 yX10_order ∈ hx_all := kt_g (kt_7 (List.mem_of_getElem? (i := 97) rfl)) rfl
theorem kw_1631 : Cond.instanceMethod yX10_order ∈ hx_all := kt_g (kt_7 (List.mem_of_getElem? (i := 98) rfl)) rfl
theorem kw_1632 : Cond.selects "SmallCourtModel" yX10_order yX10_order ∈ hx_all := kt_g (kt_7 (List.mem_of_getElem? (i := 99) rfl)) rfl
theorem kw_1633 : Cond.code yX10_order cX10_order 7 (some .int) ∈ hx_all := kt_g (kt_7 (List.mem_of_getElem? (i := 100) rfl)) rfl
theorem kw_1634 : Cond.methodLink "SmallCourtModel" 419 yX10_isOpen ∈ hx_all := kt_g (kt_7 (List.mem_of_getElem? (i := 101) rfl)) rfl
theorem kw_1636 : Cond.instanceMethod yX10_isOpen ∈ hx_all := kt_g (kt_7 (List.mem_of_getElem? (i := 103) rfl)) rfl
theorem kw_1637 : Cond.code yX10_isOpen cX10_isOpen 2 (some .boolean) ∈ hx_all := kt_g (kt_7 (List.mem_of_getElem? (i := 104) rfl)) rfl
theorem kw_1638 : Cond.methodLink "SmallCourtModel" 416 yX10_looks ∈ hx_all := kt_g (kt_7 (List.mem_of_getElem? (i := 105) rfl)) rfl
theorem kw_1640 : Cond.instanceMethod yX10_looks ∈ hx_all := kt_g (kt_7 (List.mem_of_getElem? (i := 107) rfl)) rfl
theorem kw_1641 : Cond.code yX10_looks cX10_looks 9 none ∈ hx_all := kt_g (kt_7 (List.mem_of_getElem? (i := 108) rfl)) rfl
theorem kw_1642 : Cond.methodLink "SmallCourtModel" 422 yX10_means ∈ hx_all := kt_g (kt_7 (List.mem_of_getElem? (i := 109) rfl)) rfl
theorem kw_1644 : Cond.instanceMethod yX10_means ∈ hx_all := kt_g (kt_7 (List.mem_of_getElem? (i := 111) rfl)) rfl
theorem kw_1645 : Cond.code yX10_means cX10_means 3 (some .int) ∈ hx_all := kt_g (kt_7 (List.mem_of_getElem? (i := 112) rfl)) rfl
theorem kw_1646 : Cond.methodLink "SmallCourtLaw" 88 yX10_pay ∈ hx_all := kt_g (kt_7 (List.mem_of_getElem? (i := 113) rfl)) rfl
theorem kw_1647 : Cond.instanceMethod yX10_pay ∈ hx_all := kt_g (kt_7 (List.mem_of_getElem? (i := 114) rfl)) rfl
theorem kw_1648 : Cond.selects "SmallCourtModel" yX10_pay yX10_pay ∈ hx_all := kt_g (kt_7 (List.mem_of_getElem? (i := 115) rfl)) rfl
theorem kw_1649 : Cond.code yX10_pay cX10_pay 4 (some .int) ∈ hx_all := kt_g (kt_7 (List.mem_of_getElem? (i := 116) rfl)) rfl
theorem kw_1650 : Cond.methodLink "SmallCourtModel" 425 yX10_pays ∈ hx_all := kt_g (kt_7 (List.mem_of_getElem? (i := 117) rfl)) rfl
theorem kw_1652 : Cond.instanceMethod yX10_pays ∈ hx_all := kt_g (kt_7 (List.mem_of_getElem? (i := 119) rfl)) rfl
theorem kw_1653 : Cond.code yX10_pays cX10_pays 4 (some .int) ∈ hx_all := kt_g (kt_7 (List.mem_of_getElem? (i := 120) rfl)) rfl
theorem kw_1654 : Cond.methodLink "SmallCourtLaw" 92 yX10_strike ∈ hx_all := kt_g (kt_7 (List.mem_of_getElem? (i := 121) rfl)) rfl
theorem kw_1655 : Cond.instanceMethod yX10_strike ∈ hx_all := kt_g (kt_7 (List.mem_of_getElem? (i := 122) rfl)) rfl
theorem kw_1656 : Cond.selects "SmallCourtModel" yX10_strike yX10_strike ∈ hx_all := kt_g (kt_7 (List.mem_of_getElem? (i := 123) rfl)) rfl
theorem kw_1657 : Cond.code yX10_strike cX10_strike 2 (some .boolean) ∈ hx_all := kt_g (kt_7 (List.mem_of_getElem? (i := 124) rfl)) rfl
theorem kw_1658 : Cond.methodLink "SmallCourtLaw" 96 yX10_seize ∈ hx_all := kt_g (kt_7 (List.mem_of_getElem? (i := 125) rfl)) rfl
theorem kw_1659 : Cond.instanceMethod yX10_seize ∈ hx_all := kt_g (kt_7 (List.mem_of_getElem? (i := 126) rfl)) rfl
theorem kw_1660 : Cond.selects "SmallCourtModel" yX10_seize yX10_seize ∈ hx_all := kt_g (kt_7 (List.mem_of_getElem? (i := 127) rfl)) rfl
theorem kw_1661 : Cond.code yX10_seize cX10_seize 3 (some .int) ∈ hx_all := kt_g (kt_7 (List.mem_of_getElem? (i := 128) rfl)) rfl
theorem kw_1662 : Cond.methodLink "SmallCourtLaw" 100 yX10_gaol ∈ hx_all := kt_g (kt_7 (List.mem_of_getElem? (i := 129) rfl)) rfl
theorem kw_1663 : Cond.instanceMethod yX10_gaol ∈ hx_all := kt_g (kt_7 (List.mem_of_getElem? (i := 130) rfl)) rfl
theorem kw_1664 : Cond.selects "SmallCourtModel" yX10_gaol yX10_gaol ∈ hx_all := kt_g (kt_7 (List.mem_of_getElem? (i := 131) rfl)) rfl
theorem kw_1665 : Cond.code yX10_gaol cX10_gaol 3 (some .int) ∈ hx_all := kt_g (kt_7 (List.mem_of_getElem? (i := 132) rfl)) rfl
theorem kw_1666 : Cond.methodLink "SmallCourtLaw" 104 yX10_claim ∈ hx_all := kt_g (kt_7 (List.mem_of_getElem? (i := 133) rfl)) rfl
theorem kw_1667 : Cond.instanceMethod yX10_claim ∈ hx_all := kt_g (kt_7 (List.mem_of_getElem? (i := 134) rfl)) rfl
theorem kw_1668 : Cond.selects "SmallCourtModel" yX10_claim yX10_claim ∈ hx_all := kt_g (kt_7 (List.mem_of_getElem? (i := 135) rfl)) rfl
theorem kw_1669 : Cond.code yX10_claim cX10_claim 3 (some .int) ∈ hx_all := kt_g (kt_7 (List.mem_of_getElem? (i := 136) rfl)) rfl
theorem kw_1670 : Cond.methodLink "SmallCourtLaw" 108 yX10_state ∈ hx_all := kt_g (kt_7 (List.mem_of_getElem? (i := 137) rfl)) rfl
theorem kw_1671 : Cond.instanceMethod yX10_state ∈ hx_all := kt_g (kt_7 (List.mem_of_getElem? (i := 138) rfl)) rfl
theorem kw_1672 : Cond.selects "SmallCourtModel" yX10_state yX10_state ∈ hx_all := kt_g (kt_7 (List.mem_of_getElem? (i := 139) rfl)) rfl
theorem kw_1673 : Cond.code yX10_state cX10_state 5 (some .int) ∈ hx_all := kt_g (kt_7 (List.mem_of_getElem? (i := 140) rfl)) rfl
theorem kw_1674 : Cond.methodLink "SmallCourtLaw" 112 yX10_plan ∈ hx_all := kt_g (kt_7 (List.mem_of_getElem? (i := 141) rfl)) rfl
theorem kw_1675 : Cond.instanceMethod yX10_plan ∈ hx_all := kt_g (kt_7 (List.mem_of_getElem? (i := 142) rfl)) rfl
theorem kw_1676 : Cond.selects "SmallCourtModel" yX10_plan yX10_plan ∈ hx_all := kt_g (kt_7 (List.mem_of_getElem? (i := 143) rfl)) rfl
theorem kw_1677 : Cond.code yX10_plan cX10_plan 12 (some .int) ∈ hx_all := kt_g (kt_7 (List.mem_of_getElem? (i := 144) rfl)) rfl
theorem kw_1678 : Cond.constant "SmallCourtModel" 431 (1000000000) ∈ hx_all := kt_g (kt_7 (List.mem_of_getElem? (i := 145) rfl)) rfl
theorem kw_1679 : Cond.methodLink "SmallCourtModel" 432 yX10_weeksOf ∈ hx_all := kt_g (kt_7 (List.mem_of_getElem? (i := 146) rfl)) rfl
theorem kw_1681 : Cond.instanceMethod yX10_weeksOf ∈ hx_all := kt_g (kt_7 (List.mem_of_getElem? (i := 148) rfl)) rfl
theorem kw_1682 : Cond.code yX10_weeksOf cX10_weeksOf 5 (some .int) ∈ hx_all := kt_g (kt_7 (List.mem_of_getElem? (i := 149) rfl)) rfl
theorem kw_1683 : Cond.methodLink "SmallCourtLaw" 116 yX10_planned ∈ hx_all := kt_g (kt_7 (List.mem_of_getElem? (i := 150) rfl)) rfl
theorem kw_1684 : Cond.instanceMethod yX10_planned ∈ hx_all := kt_g (kt_7 (List.mem_of_getElem? (i := 151) rfl)) rfl
theorem kw_1685 : Cond.selects "SmallCourtModel" yX10_planned yX10_planned ∈ hx_all := kt_g (kt_7 (List.mem_of_getElem? (i := 152) rfl)) rfl
theorem kw_1686 : Cond.code yX10_planned cX10_planned 3 (some .int) ∈ hx_all := kt_g (kt_7 (List.mem_of_getElem? (i := 153) rfl)) rfl
theorem kw_1687 : Cond.methodLink "SmallCourtLaw" 121 yX10_net ∈ hx_all := kt_g (kt_7 (List.mem_of_getElem? (i := 154) rfl)) rfl
theorem kw_1688 : Cond.instanceMethod yX10_net ∈ hx_all := kt_g (kt_7 (List.mem_of_getElem? (i := 155) rfl)) rfl
theorem kw_1689 : Cond.selects "SmallCourtModel" yX10_net yX10_net ∈ hx_all := kt_g (kt_7 (List.mem_of_getElem? (i := 156) rfl)) rfl
theorem kw_1690 : Cond.code yX10_net cX10_net 5 (some .int) ∈ hx_all := kt_g (kt_7 (List.mem_of_getElem? (i := 157) rfl)) rfl
theorem kw_1691 : Cond.methodLink "SmallCourtModel" 458 yX10_debts ∈ hx_all := kt_g (kt_7 (List.mem_of_getElem? (i := 158) rfl)) rfl
theorem kw_1693 : Cond.instanceMethod yX10_debts ∈ hx_all := kt_g (kt_7 (List.mem_of_getElem? (i := 160) rfl)) rfl
theorem kw_1694 : Cond.code yX10_debts cX10_debts 2 none ∈ hx_all := kt_g (kt_7 (List.mem_of_getElem? (i := 161) rfl)) rfl
theorem kw_1695 : Cond.methodLink "SmallCourtModel" 461 yX10_finds ∈ hx_all := kt_g (kt_7 (List.mem_of_getElem? (i := 162) rfl)) rfl
theorem kw_1697 : Cond.instanceMethod yX10_finds ∈ hx_all := kt_g (kt_7 (List.mem_of_getElem? (i := 164) rfl)) rfl
theorem kw_1698 : Cond.code yX10_finds cX10_finds 8 none ∈ hx_all := kt_g (kt_7 (List.mem_of_getElem? (i := 165) rfl)) rfl
theorem kw_1699 : Cond.methodLink "SmallCourtModel" 444 yX10_offers ∈ hx_all := kt_g (kt_7 (List.mem_of_getElem? (i := 166) rfl)) rfl
theorem kw_1701 : Cond.instanceMethod yX10_offers ∈ hx_all := kt_g (kt_7 (List.mem_of_getElem? (i := 168) rfl)) rfl
theorem kw_1702 : Cond.code yX10_offers cX10_offers 6 none ∈ hx_all := kt_g (kt_7 (List.mem_of_getElem? (i := 169) rfl)) rfl
theorem kw_1703 : Cond.methodLink "SmallCourtModel" 448 yX10_lesser ∈ hx_all := kt_g (kt_7 (List.mem_of_getElem? (i := 170) rfl)) rfl
theorem kw_1704 : Cond.static yX10_lesser ∈ hx_all := kt_g (kt_7 (List.mem_of_getElem? (i := 171) rfl)) rfl
theorem kw_1705 : Cond.code yX10_lesser cX10_lesser 2 (some .int) ∈ hx_all := kt_g (kt_7 (List.mem_of_getElem? (i := 172) rfl)) rfl
theorem kw_1706 : Cond.methodLink "SmallCourtModel" 464 yX10_takes ∈ hx_all := kt_g (kt_7 (List.mem_of_getElem? (i := 173) rfl)) rfl
theorem kw_1708 : Cond.instanceMethod yX10_takes ∈ hx_all := kt_g (kt_7 (List.mem_of_getElem? (i := 175) rfl)) rfl
theorem kw_1709 : Cond.code yX10_takes cX10_takes 9 (some .int) ∈ hx_all := kt_g (kt_7 (List.mem_of_getElem? (i := 176) rfl)) rfl
theorem kw_1710 : Cond.methodLink "SmallCourtLaw" 125 yX10_netted ∈ hx_all := kt_g (kt_7 (List.mem_of_getElem? (i := 177) rfl)) rfl
theorem kw_1711 : Cond.instanceMethod yX10_netted ∈ hx_all := kt_g (kt_7 (List.mem_of_getElem? (i := 178) rfl)) rfl
theorem kw_1712 : Cond.selects "SmallCourtModel" yX10_netted yX10_netted ∈ hx_all := kt_g (kt_7 (List.mem_of_getElem? (i := 179) rfl)) rfl
theorem kw_1713 : Cond.code yX10_netted cX10_netted 2 (some .int) ∈ hx_all := kt_g (kt_7 (List.mem_of_getElem? (i := 180) rfl)) rfl
theorem kw_1714 : Cond.methodLink "SmallCourtLaw" 129 yX10_list ∈ hx_all := kt_g (kt_7 (List.mem_of_getElem? (i := 181) rfl)) rfl
theorem kw_1715 : Cond.instanceMethod yX10_list ∈ hx_all := kt_g (kt_7 (List.mem_of_getElem? (i := 182) rfl)) rfl
theorem kw_1716 : Cond.selects "SmallCourtModel" yX10_list yX10_list ∈ hx_all := kt_g (kt_7 (List.mem_of_getElem? (i := 183) rfl)) rfl
theorem kw_1717 : Cond.code yX10_list cX10_list 3 (some .int) ∈ hx_all := kt_g (kt_7 (List.mem_of_getElem? (i := 184) rfl)) rfl
theorem kw_1718 : Cond.methodLink "SmallCourtLaw" 133 yX10_walk ∈ hx_all := kt_g (kt_7 (List.mem_of_getElem? (i := 185) rfl)) rfl
theorem kw_1719 : Cond.instanceMethod yX10_walk ∈ hx_all := kt_g (kt_7 (List.mem_of_getElem? (i := 186) rfl)) rfl
theorem kw_1720 : Cond.selects "SmallCourtModel" yX10_walk yX10_walk ∈ hx_all := kt_g (kt_7 (List.mem_of_getElem? (i := 187) rfl)) rfl
theorem kw_1721 : Cond.code yX10_walk cX10_walk 6 (some .int) ∈ hx_all := kt_g (kt_7 (List.mem_of_getElem? (i := 188) rfl)) rfl
theorem kw_1722 : Cond.methodLink "SmallCourtModel" 475 yX10_far ∈ hx_all := kt_g (kt_7 (List.mem_of_getElem? (i := 189) rfl)) rfl
theorem kw_1724 : Cond.instanceMethod yX10_far ∈ hx_all := kt_g (kt_7 (List.mem_of_getElem? (i := 191) rfl)) rfl
theorem kw_1725 : Cond.code yX10_far cX10_far 7 (some .int) ∈ hx_all := kt_g (kt_7 (List.mem_of_getElem? (i := 192) rfl)) rfl
theorem kw_1726 : Cond.methodLink "SmallCourtModel" 471 yX10_stepsBetween ∈ hx_all := kt_g (kt_7 (List.mem_of_getElem? (i := 193) rfl)) rfl
theorem kw_1727 : Cond.static yX10_stepsBetween ∈ hx_all := kt_g (kt_7 (List.mem_of_getElem? (i := 194) rfl)) rfl
theorem kw_1728 : Cond.code yX10_stepsBetween cX10_stepsBetween 4 (some .int) ∈ hx_all := kt_g (kt_7 (List.mem_of_getElem? (i := 195) rfl)) rfl
theorem kw_1729 : Cond.methodLink "SmallCourtLaw" 137 yX10_walked ∈ hx_all := kt_g (kt_7 (List.mem_of_getElem? (i := 196) rfl)) rfl
theorem kw_1730 : Cond.instanceMethod yX10_walked ∈ hx_all := kt_g (kt_7 (List.mem_of_getElem? (i := 197) rfl)) rfl
theorem kw_1731 : Cond.selects "SmallCourtModel" yX10_walked yX10_walked ∈ hx_all := kt_g (kt_7 (List.mem_of_getElem? (i := 198) rfl)) rfl
theorem kw_1732 : Cond.code yX10_walked cX10_walked 2 (some .int) ∈ hx_all := kt_g (kt_7 (List.mem_of_getElem? (i := 199) rfl)) rfl
theorem kw_1733 : Cond.methodLink "SmallCourtLaw" 141 yX10_habit ∈ hx_all := kt_g (kt_7 (List.mem_of_getElem? (i := 200) rfl)) rfl
theorem kw_1734 : Cond.instanceMethod yX10_habit ∈ hx_all := kt_g (kt_7 (List.mem_of_getElem? (i := 201) rfl)) rfl
theorem kw_1735 : Cond.selects "SmallCourtModel" yX10_habit yX10_habit ∈ hx_all := kt_g (kt_7 (List.mem_of_getElem? (i := 202) rfl)) rfl
theorem kw_1736 : Cond.code yX10_habit cX10_habit 3 (some .int) ∈ hx_all := kt_g (kt_7 (List.mem_of_getElem? (i := 203) rfl)) rfl
theorem kw_1737 : Cond.methodLink "SmallCourtModel" 489 yX10_habits ∈ hx_all := kt_g (kt_7 (List.mem_of_getElem? (i := 204) rfl)) rfl
theorem kw_1739 : Cond.instanceMethod yX10_habits ∈ hx_all := kt_g (kt_7 (List.mem_of_getElem? (i := 206) rfl)) rfl
theorem kw_1740 : Cond.code yX10_habits cX10_habits 4 none ∈ hx_all := kt_g (kt_7 (List.mem_of_getElem? (i := 207) rfl)) rfl
theorem kw_1741 : Cond.methodLink "SmallCourtModel" 492 yX10_isRare ∈ hx_all := kt_g (kt_7 (List.mem_of_getElem? (i := 208) rfl)) rfl
theorem kw_1743 : Cond.instanceMethod yX10_isRare ∈ hx_all := kt_g (kt_7 (List.mem_of_getElem? (i := 210) rfl)) rfl
theorem kw_1744 : Cond.code yX10_isRare cX10_isRare 6 (some .boolean) ∈ hx_all := kt_g (kt_7 (List.mem_of_getElem? (i := 211) rfl)) rfl
theorem kw_1746 : Cond.methodLink "SmallCourtLaw" 145 yX10_other ∈ hx_all := kt_g (kt_7 (List.mem_of_getElem? (i := 213) rfl)) rfl
theorem kw_1747 : Cond.instanceMethod yX10_other ∈ hx_all := kt_g (kt_7 (List.mem_of_getElem? (i := 214) rfl)) rfl
theorem kw_1748 : Cond.selects "SmallCourtModel" yX10_other yX10_other ∈ hx_all := kt_g (kt_7 (List.mem_of_getElem? (i := 215) rfl)) rfl
theorem kw_1749 : Cond.code yX10_other cX10_other 9 (some .int) ∈ hx_all := kt_g (kt_7 (List.mem_of_getElem? (i := 216) rfl)) rfl
theorem kw_1750 : Cond.methodLink "SmallCourtLaw" 149 yX10_count ∈ hx_all := kt_g (kt_7 (List.mem_of_getElem? (i := 217) rfl)) rfl
theorem kw_1751 : Cond.instanceMethod yX10_count ∈ hx_all := kt_g (kt_7 (List.mem_of_getElem? (i := 218) rfl)) rfl
theorem kw_1752 : Cond.selects "SmallCourtModel" yX10_count yX10_count ∈ hx_all := kt_g (kt_7 (List.mem_of_getElem? (i := 219) rfl)) rfl
theorem kw_1753 : Cond.code yX10_count cX10_count 4 (some .int) ∈ hx_all := kt_g (kt_7 (List.mem_of_getElem? (i := 220) rfl)) rfl
def hx_N : List Cond := [Cond.methodLinkNest "SmallCourt" 15 yX6_init "SmallCourt", Cond.fieldLinkNest "SmallCourt$Act" 25 "SmallCourt" "WITHOUT" "[I" "SmallCourt", Cond.methodLinkNest "SmallCourt" 41 yX1_init "SmallCourt", Cond.methodLinkNest "SmallCourt" 57 yX3_init "SmallCourt", Cond.methodLinkNest "SmallCourt" 71 yX5_init "SmallCourt", Cond.methodLinkNest "SmallCourt" 78 yX7_init "SmallCourt", Cond.methodLinkNest "SmallCourt" 85 yX8_init "SmallCourt", Cond.fieldLinkNest "SmallCourt$Reader" 82 "SmallCourt" "LEAST_TOLD" "[I" "SmallCourt", Cond.fieldLinkNest "SmallCourt$Reader" 86 "SmallCourt" "MOST_TOLD" "[I" "SmallCourt", Cond.methodLinkNest "SmallCourt$Claim" 95 yX9_roundUp "SmallCourt", Cond.methodLinkNest "SmallCourt$Plan" 78 yX9_roundUp "SmallCourt"]
theorem kc_0 : ∀ w ∈ u_ws RX0 TX0 5, w ∈ hx_all := fun w hw => by
  obtain ⟨k, hk, rfl⟩ := List.mem_map.mp hw
  have hk := List.mem_range.mp hk
  match k, hk with
  | 0, _ => exact kw_175
  | 1, _ => exact kw_177
  | 2, _ => exact kw_179
  | 3, _ => exact kw_181
  | 4, _ => exact kw_183
  | k + 5, hk => exact absurd hk (by omega)
theorem hC_0 : hx_C hx_all vwCl 0 RX0 TX0 5 tyX0 := ⟨rfl, kc_0, tyX0_ok, nmX0⟩
theorem kc_1 : ∀ w ∈ u_ws RX1 TX1 8, w ∈ hx_all := fun w hw => by
  obtain ⟨k, hk, rfl⟩ := List.mem_map.mp hw
  have hk := List.mem_range.mp hk
  match k, hk with
  | 0, _ => exact kw_205
  | 1, _ => exact kw_207
  | 2, _ => exact kw_209
  | 3, _ => exact kw_211
  | 4, _ => exact kw_213
  | 5, _ => exact kw_215
  | 6, _ => exact kw_217
  | 7, _ => exact kw_219
  | k + 8, hk => exact absurd hk (by omega)
theorem hC_1 : hx_C hx_all vwCl 1 RX1 TX1 8 tyX1 := ⟨rfl, kc_1, tyX1_ok, nmX1⟩
theorem kc_2 : ∀ w ∈ u_ws RX2 TX2 19, w ∈ hx_all := fun w hw => by
  obtain ⟨k, hk, rfl⟩ := List.mem_map.mp hw
  have hk := List.mem_range.mp hk
  match k, hk with
  | 0, _ => exact kw_764
  | 1, _ => exact kw_766
  | 2, _ => exact kw_768
  | 3, _ => exact kw_770
  | 4, _ => exact kw_772
  | 5, _ => exact kw_774
  | 6, _ => exact kw_776
  | 7, _ => exact kw_778
  | 8, _ => exact kw_780
  | 9, _ => exact kw_782
  | 10, _ => exact kw_784
  | 11, _ => exact kw_786
  | 12, _ => exact kw_788
  | 13, _ => exact kw_790
  | 14, _ => exact kw_792
  | 15, _ => exact kw_794
  | 16, _ => exact kw_796
  | 17, _ => exact kw_798
  | 18, _ => exact kw_800
  | k + 19, hk => exact absurd hk (by omega)
theorem hC_2 : hx_C hx_all vwCl 2 RX2 TX2 19 tyX2 := ⟨rfl, kc_2, tyX2_ok, nmX2⟩
theorem kc_3 : ∀ w ∈ u_ws RX3 TX3 6, w ∈ hx_all := fun w hw => by
  obtain ⟨k, hk, rfl⟩ := List.mem_map.mp hw
  have hk := List.mem_range.mp hk
  match k, hk with
  | 0, _ => exact kw_239
  | 1, _ => exact kw_241
  | 2, _ => exact kw_243
  | 3, _ => exact kw_245
  | 4, _ => exact kw_247
  | 5, _ => exact kw_249
  | k + 6, hk => exact absurd hk (by omega)
theorem hC_3 : hx_C hx_all vwCl 3 RX3 TX3 6 tyX3 := ⟨rfl, kc_3, tyX3_ok, nmX3⟩
theorem kc_4 : ∀ w ∈ u_ws RX4 TX4 10, w ∈ hx_all := fun w hw => by
  obtain ⟨k, hk, rfl⟩ := List.mem_map.mp hw
  have hk := List.mem_range.mp hk
  match k, hk with
  | 0, _ => exact kw_627
  | 1, _ => exact kw_629
  | 2, _ => exact kw_631
  | 3, _ => exact kw_633
  | 4, _ => exact kw_635
  | 5, _ => exact kw_637
  | 6, _ => exact kw_639
  | 7, _ => exact kw_641
  | 8, _ => exact kw_643
  | 9, _ => exact kw_645
  | k + 10, hk => exact absurd hk (by omega)
theorem hC_4 : hx_C hx_all vwCl 4 RX4 TX4 10 tyX4 := ⟨rfl, kc_4, tyX4_ok, nmX4⟩
theorem kc_5 : ∀ w ∈ u_ws RX5 TX5 13, w ∈ hx_all := fun w hw => by
  obtain ⟨k, hk, rfl⟩ := List.mem_map.mp hw
  have hk := List.mem_range.mp hk
  match k, hk with
  | 0, _ => exact kw_276
  | 1, _ => exact kw_278
  | 2, _ => exact kw_280
  | 3, _ => exact kw_282
  | 4, _ => exact kw_284
  | 5, _ => exact kw_286
  | 6, _ => exact kw_288
  | 7, _ => exact kw_290
  | 8, _ => exact kw_292
  | 9, _ => exact kw_294
  | 10, _ => exact kw_296
  | 11, _ => exact kw_298
  | 12, _ => exact kw_300
  | k + 13, hk => exact absurd hk (by omega)
theorem hC_5 : hx_C hx_all vwCl 5 RX5 TX5 13 tyX5 := ⟨rfl, kc_5, tyX5_ok, nmX5⟩
theorem kc_6 : ∀ w ∈ u_ws RX6 TX6 7, w ∈ hx_all := fun w hw => by
  obtain ⟨k, hk, rfl⟩ := List.mem_map.mp hw
  have hk := List.mem_range.mp hk
  match k, hk with
  | 0, _ => exact kw_132
  | 1, _ => exact kw_134
  | 2, _ => exact kw_136
  | 3, _ => exact kw_138
  | 4, _ => exact kw_140
  | 5, _ => exact kw_142
  | 6, _ => exact kw_144
  | k + 7, hk => exact absurd hk (by omega)
theorem hC_6 : hx_C hx_all vwCl 6 RX6 TX6 7 tyX6 := ⟨rfl, kc_6, tyX6_ok, nmX6⟩
theorem kc_7 : ∀ w ∈ u_ws RX7 TX7 8, w ∈ hx_all := fun w hw => by
  obtain ⟨k, hk, rfl⟩ := List.mem_map.mp hw
  have hk := List.mem_range.mp hk
  match k, hk with
  | 0, _ => exact kw_321
  | 1, _ => exact kw_323
  | 2, _ => exact kw_325
  | 3, _ => exact kw_327
  | 4, _ => exact kw_329
  | 5, _ => exact kw_331
  | 6, _ => exact kw_333
  | 7, _ => exact kw_335
  | k + 8, hk => exact absurd hk (by omega)
theorem hC_7 : hx_C hx_all vwCl 7 RX7 TX7 8 tyX7 := ⟨rfl, kc_7, tyX7_ok, nmX7⟩
theorem kc_8 : ∀ w ∈ u_ws RX8 TX8 5, w ∈ hx_all := fun w hw => by
  obtain ⟨k, hk, rfl⟩ := List.mem_map.mp hw
  have hk := List.mem_range.mp hk
  match k, hk with
  | 0, _ => exact kw_353
  | 1, _ => exact kw_355
  | 2, _ => exact kw_357
  | 3, _ => exact kw_359
  | 4, _ => exact kw_361
  | k + 5, hk => exact absurd hk (by omega)
theorem hC_8 : hx_C hx_all vwCl 8 RX8 TX8 5 tyX8 := ⟨rfl, kc_8, tyX8_ok, nmX8⟩
theorem kc_9 : ∀ w ∈ u_ws RX9 TX9 20, w ∈ hx_all := fun w hw => by
  obtain ⟨k, hk, rfl⟩ := List.mem_map.mp hw
  have hk := List.mem_range.mp hk
  match k, hk with
  | 0, _ => exact kw_384
  | 1, _ => exact kw_386
  | 2, _ => exact kw_388
  | 3, _ => exact kw_390
  | 4, _ => exact kw_392
  | 5, _ => exact kw_394
  | 6, _ => exact kw_396
  | 7, _ => exact kw_398
  | 8, _ => exact kw_400
  | 9, _ => exact kw_402
  | 10, _ => exact kw_404
  | 11, _ => exact kw_406
  | 12, _ => exact kw_408
  | 13, _ => exact kw_410
  | 14, _ => exact kw_412
  | 15, _ => exact kw_414
  | 16, _ => exact kw_416
  | 17, _ => exact kw_418
  | 18, _ => exact kw_420
  | 19, _ => exact kw_422
  | k + 20, hk => exact absurd hk (by omega)
theorem hC_9 : hx_C hx_all vwCl 9 RX9 TX9 20 tyX9 := ⟨rfl, kc_9, tyX9_ok, nmX9⟩
theorem kc_10 : ∀ w ∈ u_ws RX10 TX10 98, w ∈ hx_all := fun w hw => by
  obtain ⟨k, hk, rfl⟩ := List.mem_map.mp hw
  have hk := List.mem_range.mp hk
  match k, hk with
  | 0, _ => exact kw_1241
  | 1, _ => exact kw_1243
  | 2, _ => exact kw_1245
  | 3, _ => exact kw_1247
  | 4, _ => exact kw_1249
  | 5, _ => exact kw_1251
  | 6, _ => exact kw_1253
  | 7, _ => exact kw_1255
  | 8, _ => exact kw_1257
  | 9, _ => exact kw_1259
  | 10, _ => exact kw_1261
  | 11, _ => exact kw_1263
  | 12, _ => exact kw_1265
  | 13, _ => exact kw_1267
  | 14, _ => exact kw_1269
  | 15, _ => exact kw_1271
  | 16, _ => exact kw_1273
  | 17, _ => exact kw_1275
  | 18, _ => exact kw_1277
  | 19, _ => exact kw_1279
  | 20, _ => exact kw_1281
  | 21, _ => exact kw_1283
  | 22, _ => exact kw_1285
  | 23, _ => exact kw_1287
  | 24, _ => exact kw_1289
  | 25, _ => exact kw_1291
  | 26, _ => exact kw_1293
  | 27, _ => exact kw_1295
  | 28, _ => exact kw_1297
  | 29, _ => exact kw_1299
  | 30, _ => exact kw_1301
  | 31, _ => exact kw_1303
  | 32, _ => exact kw_1305
  | 33, _ => exact kw_1307
  | 34, _ => exact kw_1309
  | 35, _ => exact kw_1311
  | 36, _ => exact kw_1313
  | 37, _ => exact kw_1315
  | 38, _ => exact kw_1317
  | 39, _ => exact kw_1319
  | 40, _ => exact kw_1321
  | 41, _ => exact kw_1323
  | 42, _ => exact kw_1325
  | 43, _ => exact kw_1327
  | 44, _ => exact kw_1329
  | 45, _ => exact kw_1331
  | 46, _ => exact kw_1333
  | 47, _ => exact kw_1335
  | 48, _ => exact kw_1337
  | 49, _ => exact kw_1339
  | 50, _ => exact kw_1341
  | 51, _ => exact kw_1343
  | 52, _ => exact kw_1345
  | 53, _ => exact kw_1347
  | 54, _ => exact kw_1349
  | 55, _ => exact kw_1351
  | 56, _ => exact kw_1353
  | 57, _ => exact kw_1355
  | 58, _ => exact kw_1357
  | 59, _ => exact kw_1359
  | 60, _ => exact kw_1361
  | 61, _ => exact kw_1363
  | 62, _ => exact kw_1365
  | 63, _ => exact kw_1367
  | 64, _ => exact kw_1369
  | 65, _ => exact kw_1371
  | 66, _ => exact kw_1373
  | 67, _ => exact kw_1375
  | 68, _ => exact kw_1377
  | 69, _ => exact kw_1379
  | 70, _ => exact kw_1381
  | 71, _ => exact kw_1383
  | 72, _ => exact kw_1385
  | 73, _ => exact kw_1387
  | 74, _ => exact kw_1389
  | 75, _ => exact kw_1391
  | 76, _ => exact kw_1393
  | 77, _ => exact kw_1395
  | 78, _ => exact kw_1397
  | 79, _ => exact kw_1399
  | 80, _ => exact kw_1401
  | 81, _ => exact kw_1403
  | 82, _ => exact kw_1405
  | 83, _ => exact kw_1407
  | 84, _ => exact kw_1409
  | 85, _ => exact kw_1411
  | 86, _ => exact kw_1413
  | 87, _ => exact kw_1415
  | 88, _ => exact kw_1417
  | 89, _ => exact kw_1419
  | 90, _ => exact kw_1421
  | 91, _ => exact kw_1423
  | 92, _ => exact kw_1425
  | 93, _ => exact kw_1427
  | 94, _ => exact kw_1429
  | 95, _ => exact kw_1431
  | 96, _ => exact kw_1433
  | 97, _ => exact kw_1435
  | k + 98, hk => exact absurd hk (by omega)
theorem hC_10 : hx_C hx_all vwCl 10 RX10 TX10 98 tyX10 := ⟨rfl, kc_10, tyX10_ok, nmX10⟩
end
section
/-! WHAT STANDS OUTSIDE THE WORLD: the nest mates' links, the arrays of objects, the static table WITHOUT; it is carried into the calls that ask for it -/
def hx_Xt (A : Nat → Prop) (b0 : Nat) (U : State) : Prop := (∀ w ∈ hx_N, va_Nw w U) ∧ (va_AO "SmallCourt$Act" U ∧ va_AO "SmallCourt$Person" U ∧ va_AO "SmallCourt$Claim" U) ∧ va_Z "SmallCourt" "WITHOUT" "[I" (.ref b0) A U U.heap ∧ va_X b0 14 P_wo U U.heap ∧ b0 < U.heap.size ∧ ¬ A b0
theorem hx_Xt.go {A A1 : Nat → Prop} {b0 : Nat} {s : State} {H : Heap} {locs : List Loc} (hz : hx_Xt A b0 s) (hS : va_S A s.heap H locs) (hA : ∀ q, A1 q → A q) {U : State} (hU : U.heap = H) (hw : s.WarmedH U.vm) : hx_Xt A1 b0 U := by
  obtain ⟨z1, ⟨z2, z3, z4⟩, z5, z6, z7, z8⟩ := hz
  subst hU
  refine ⟨fun w hw2 => ?_, ⟨va_AO.moved hw.alike z2, va_AO.moved hw.alike z3, va_AO.moved hw.alike z4⟩, va_Z.moved hw.alike ((z5.kept hS.2.1).narrow hA), (z6.kept (hS.2.1 b0 z7 z8)).moved hw.alike, Nat.lt_of_lt_of_le z7 hS.1, fun z => z8 (hA b0 z)⟩
  have h1 := z1 w hw2
  have h2 := hw2
  unfold hx_N at h2
  simp only [List.mem_cons, List.not_mem_nil, or_false] at h2
  rcases h2 with rfl | rfl | rfl | rfl | rfl | rfl | rfl | rfl | rfl | rfl | rfl <;> first | exact va_Nw.warmF hw h1 | exact va_Nw.warmM hw h1
def hx_BX (tb : List hx_d) (tys : hx_y) (D : va_G) (cl : List vw_C) (L : List Nat) (h : hx_h) (sz b0 : Nat) (U : State) : Prop := hx_B tb tys D cl L h sz U ∧ hx_Xt (hx_A L sz) b0 U
theorem hx_blindX {tb : List hx_d} {tys : hx_y} {D : va_G} {cl : List vw_C} {L : List Nat} {h : hx_h} {sz b0 : Nat} {av : List Value} : FrameBlind (va_Pc av (hx_BX tb tys D cl L h sz b0)) := fun a U g mk q =>
  ⟨q.1, (hx_blind a U g mk ⟨q.1, q.2.1⟩).2, q.2.2.go va_S.rf (fun _ h => h) rfl (State.WarmedH.refl U)⟩
theorem hx_preX {tb : List hx_d} {tys : hx_y} {D : va_G} {cl : List vw_C} {A : Nat → Prop} {H : Heap} {L : List Nat} {h : hx_h} {s : State} {locs : List Loc} {av : List Value} {b0 : Nat} (hW : hx_W tb tys D cl A s.heap L h s H locs) (hZ : hx_Xt A b0 s) : ∀ U : State, U.heap = H → s.WarmedH U.vm → va_Pc av (hx_BX tb tys D cl L h H.size b0) av.toArray U := fun U hU hw =>
  ⟨rfl, (hx_pre (av := av) hW U hU hw).2, hZ.go hW.2.2.2.1 (hx_in hW) hU hw⟩
section HXX
variable {p : Program} {l : Launch} {e : Env} {R : Room} {s : State} {m : MethodId} {args : Array Value} {below : List Frame} {meth : Method} {c : Code} {H : Heap} {locs : List Loc} {cells slots : Nat} {Q : State → Prop}
variable {cc : ByteArray} {pc : Nat} {ls : Array Slot} {rest st0 : List Value} {D : va_G} {cl : List vw_C} {A : Nat → Prop} {a : Nat} {tys : hx_y} {H0 : Heap} {tb : List hx_d} {L : List Nat} {h : hx_h}
variable {y : MethodName} {bytes : ByteArray} {maxL nL mc ms n index : Nat} {ret : Option FieldType} {ws : List Cond} {rm : Room} {Ts : List Cond} {own C : String} {As : List Value} {Qc : Array Value → State → Outcome → State → Prop}
theorem hx_runVX (S : CallFix p m c cc nL s args Ts own) (hW : hx_W tb tys D cl A s.heap L h s H locs) {t : Nat} (g : hx_g L h a t) {ci : Nat} {fs : List hx_f} (hd : tb[t]? = some (.inl (ci, fs))) {T : u_T} {N : Nat} (hc : cl[ci]? = some (C, T, N)) {b0 : Nat} (hM : Met l y ws rm (va_Pc (.ref a :: As) (hx_BX tb tys D cl L h H.size b0)) Qc mc ms (hx_A L H.size)) (hZ : hx_Xt A b0 s) (cw : CallW R s args own C index y bytes maxL ret ws rm mc ms n) (hn : As.length = n) (hsize : ls.size = nL) (hst : st0 = As.reverse ++ .ref a :: rest) (hR : (rest.map fun v => v.category).sum ≤ 8) (hdg : decode cc pc = .ok (.invokevirtual index, 3)) (hf : cells + mc ≤ R.cells ∧ slots + ms ≤ R.slots) :
    va_Run p l e R s m args below meth c H locs cells slots mc ms (F0 m pc ls st0) rest (Qc (Value.ref a :: As).toArray) (hx_A L H.size) :=
  va_runV S hM cw ⟨hx_blindX, hx_recv hW g hd hc, hx_preX hW hZ⟩ rfl hn hsize hst (lv_room hR) hdg hf
theorem hx_runIX (S : CallFix p m c cc nL s args Ts own) (hW : hx_W tb tys D cl A s.heap L h s H locs) {b0 : Nat} (hM : Met l y ws rm (va_Pc (.ref a :: As) (hx_BX tb tys D cl L h H.size b0)) Qc mc ms (hx_A L H.size)) (hZ : hx_Xt A b0 s) (cw : CallB R s args own index y bytes maxL none ws rm mc ms n ∧ y.name = "<init>" ∧ (Cond.instanceMethod y).before args s = true) (hn : As.length = n) (hsize : ls.size = nL) (hst : st0 = As.reverse ++ .ref a :: rest) (hR : (rest.map fun v => v.category).sum ≤ 8) (hdg : decode cc pc = .ok (.invokespecial index, 3)) (hf : cells + mc ≤ R.cells ∧ slots + ms ≤ R.slots) :
    va_Run p l e R s m args below meth c H locs cells slots mc ms (F0 m pc ls st0) rest (Qc (Value.ref a :: As).toArray) (hx_A L H.size) :=
  va_runI S hM cw ⟨hx_blindX, hx_preX hW hZ⟩ rfl hn hsize hst (lv_room hR) hdg hf
theorem hx_runINX (S : CallFix p m c cc nL s args Ts own) (hW : hx_W tb tys D cl A s.heap L h s H locs) {b0 : Nat} (hM : Met l y ws rm (va_Pc (.ref a :: As) (hx_BX tb tys D cl L h H.size b0)) Qc mc ms (hx_A L H.size)) (hZ : hx_Xt A b0 s) {host : String} (cw : va_CN R s args own index y host bytes maxL none ws rm mc ms n ∧ y.name = "<init>" ∧ (Cond.instanceMethod y).before args s = true) (hn : As.length = n) (hsize : ls.size = nL) (hst : st0 = As.reverse ++ .ref a :: rest) (hR : (rest.map fun v => v.category).sum ≤ 8) (hdg : decode cc pc = .ok (.invokespecial index, 3)) (hf : cells + mc ≤ R.cells ∧ slots + ms ≤ R.slots) :
    va_Run p l e R s m args below meth c H locs cells slots mc ms (F0 m pc ls st0) rest (Qc (Value.ref a :: As).toArray) (hx_A L H.size) :=
  va_runIN S hM cw ⟨hx_blindX, hx_preX hW hZ⟩ rfl hn hsize hst (lv_room hR) hdg hf
theorem hx_runIN (S : CallFix p m c cc nL s args Ts own) (hW : hx_W tb tys D cl A H0 L h s H locs) (hM : Met l y ws rm (va_Pc (.ref a :: As) (hx_B tb tys D cl L h H.size)) Qc mc ms (hx_A L H.size)) {host : String} (cw : va_CN R s args own index y host bytes maxL none ws rm mc ms n ∧ y.name = "<init>" ∧ (Cond.instanceMethod y).before args s = true) (hn : As.length = n) (hsize : ls.size = nL) (hst : st0 = As.reverse ++ .ref a :: rest) (hR : (rest.map fun v => v.category).sum ≤ 8) (hdg : decode cc pc = .ok (.invokespecial index, 3)) (hf : cells + mc ≤ R.cells ∧ slots + ms ≤ R.slots) :
    va_Run p l e R s m args below meth c H locs cells slots mc ms (F0 m pc ls st0) rest (Qc (Value.ref a :: As).toArray) (hx_A L H.size) :=
  va_runIN S hM cw ⟨hx_blind, hx_pre hW⟩ rfl hn hsize hst (lv_room hR) hdg hf
theorem hk_newqX (hx : p.tables.exec = Jvm.exec) (hb : c.code = cc) {index : Nat} {Ts : List Cond} (hts : ∀ w ∈ Ts, w.before args s = true) (hown : s.vm.findClass own = some m.cls) (hW : hx_W tb tys D cl A H0 L h s H locs) (t : Nat) {t0 n : Nat} {b : Bool × List Nat} (hd : tb[t]? = some (.inr (t0, n, .inr b))) (hcl : Cond.classLink own index C ∈ Ts) (hover : va_AO C s) {cA : ClassId} (ht : tys[t0]? = some (cA, .object C)) {i : Int32} (hi : i.toInt = n) (hbytes : n * 4 ≤ 536870912) (hcells : cells + 1 ≤ R.cells) (hslots : slots + n ≤ R.slots) (hdg : decode cc pc = .ok (.anewarray index, 3))
    (kk : ∀ (q : Nat) (H1 : Heap) (h1 : hx_h), h1 = hx_nw h q t → q ∉ L → hx_W tb tys D cl A H0 (L ++ [q]) h1 s H1 locs → hx_S tb [] L h (L ++ [q]) h1 → hx_g (L ++ [q]) h1 q t → W p l e R s m args below meth c H1 locs (cells + 1) (slots + n) Q (F0 m (pc + 3) ls (.ref q :: rest))) : W p l e R s m args below meth c H locs cells slots Q (F0 m pc ls (.int i :: rest)) := by
  obtain ⟨hK, hP, hD, hS, hA⟩ := hW
  have hneg : ¬ i < 0 := by rw [Int32.lt_iff_toInt_lt, hi]; simp
  have hcl2 : i.toNatClampNeg = n := by unfold Int32.toNatClampNeg; rw [hi]; simp
  refine va_newq hx hb hown (hts _ hcl) hover hK hP hD hS hA hneg hcl2 hbytes hcells hslots hdg (fun q c1 H1 hK2 hP2 hD2 hS2 => ?_)
  have hq := hx_fresh hD2
  have hc1 : c1 = cA := by
    obtain ⟨_, _, _, _, _, e1⟩ := (hK2.2 tys.length (c1, .object C) (by simp)).2
    obtain ⟨_, _, _, _, _, e2⟩ := (hK.2 t0 (cA, .object C) ht).2
    exact Option.some.inj (e1.symm.trans e2)
  subst hc1
  have hcA : hx_t tys t0 = c1 := by simp [hx_t, ht]
  have he : hx_e tb tys (hx_nw h q t) q = .inl (c1, n, .inr (.inr (.inr (.inr (fun _ => none))))) := by
    rw [hx_e_arr (h := hx_nw h q t) (t := t) (by simp [hx_nw]) hd, hcA]
    simp only [hx_a, hx_nw, if_true]
  rw [hx_push hq he] at hP2 hD2
  exact kk q H1 _ rfl hq ⟨hK, hP2, hD2, hS2, hA⟩ (hx_nw_S hq) hx_nw_g
theorem hk_copyx (hx : p.tables.exec = Jvm.exec) (hb : c.code = cc) (hml : c.maxLocals = ls.size) (hown : s.vm.findClass own = some m.cls) (hlink : (Cond.methodLink own index arraycopyName).before args s = true) (hnat : (Cond.native arraycopyName).before args s = true) (hstat : (Cond.static arraycopyName).before args s = true) (hini : (Cond.initialized "java/lang/System").before args s = true)
    (hW : hx_W tb tys D cl A s.heap L h s H locs) {b0 n0 : Nat} {f : Nat → Int32} (hX : va_X b0 n0 f s s.heap) (hbl : b0 < s.heap.size) (hbA : ¬ A b0) {t : Nat} (g : hx_g L h a t) {t0 n1 : Nat} {b : Int × Int} (hd : tb[t]? = some (.inr (t0, n1, .inl b))) {cA : ClassId} (ht : tys[t0]? = some (cA, .int)) (hN : n0 ≤ n1) {z1 z2 z3 : Int32} (e1 : z1 = 0) (e2 : z2 = 0) (e3 : z3.toInt = n0)
    (hframes : 1 ≤ R.frames) (hlocals : (rest.map fun v => v.category).sum + (nativeFrameWords "java/lang/System" "arraycopy" 5 + 11) ≤ R.locals) (hdg : decode cc pc = .ok (.invokestatic index, 3))
    (kk : ∀ (H1 : Heap) (locs1 : List Loc) (h1 : hx_h), (∀ j, j < n0 → h1.2.1 a j = f j) → hx_W tb tys D cl A s.heap L h1 s H1 locs1 → hx_S tb [(t, 0)] L h L h1 → W p l e R s m args below meth c H1 locs1 cells slots Q (F0 m (pc + 3) ls rest)) : W p l e R s m args below meth c H locs cells slots Q (F0 m pc ls (.int z3 :: .int z2 :: .ref a :: .int z1 :: .ref b0 :: rest)) := by
  subst e1; subst e2
  obtain ⟨k0, hk0⟩ := hx_at (tb := tb) (tys := tys) (h := h) g.1
  have hk1 := hk0
  rw [hx_e_arr g.2 hd] at hk0
  have hcA : hx_t tys t0 = cA := by simp [hx_t, ht]
  rw [hcA] at hk0
  obtain ⟨hK, hP, hD, hS, hA⟩ := hW
  have hcl : z3.toNatClampNeg = n0 := by unfold Int32.toNatClampNeg; rw [e3]; simp
  have hneg : ¬ z3 < 0 := by rw [Int32.lt_iff_toInt_lt, e3]; simp
  have z0 : (0 : Int32).toNatClampNeg = 0 := by decide
  refine va_copyx hx hb hml hown hlink hnat hstat hini hK hP hD hS hX hbl hbA k0 t0 hk0 ht (by decide) (by decide) hneg (by rw [z0, hcl]; omega) (by rw [z0, hcl]; omega) hframes hlocals hdg (fun H1 locs1 hP2 hD2 hS2 => ?_)
  rw [z0, hcl] at hP2 hD2
  have he : hx_e tb tys (h.1, fun x j => if x = a then va_cpy f (h.2.1 a) 0 0 n0 j else h.2.1 x j, h.2.2) a = .inl (cA, n1, .inl (va_cpy f (h.2.1 a) 0 0 n0)) := by
    rw [hx_e_arr (h := (h.1, fun x j => if x = a then va_cpy f (h.2.1 a) 0 0 n0 j else h.2.1 x j, h.2.2)) g.2 hd, hcA]
    simp [hx_a]
  rw [hx_set (h1 := (h.1, fun x j => if x = a then va_cpy f (h.2.1 a) 0 0 n0 j else h.2.1 x j, h.2.2)) hD g.1 hk1 he (fun x hxa => by simp [hx_e, hx_fs, hx_a, hxa])] at hP2 hD2
  refine kk H1 locs1 _ (fun j hj => ?_) ⟨hK, hP2, hD2, hS2, hA⟩ ⟨fun q hq => ⟨hq, rfl⟩, fun q hq k hk => ⟨?_, rfl⟩⟩
  · simp [va_cpy, hj]
  · have hqa : q ≠ a := by
      intro z
      rw [z, g.2, hd] at hk
      exact hk (List.mem_singleton.mpr rfl)
    simp [hqa]
end HXX
theorem hx_metX {l : Launch} {y : MethodName} {ws ws' : List Cond} {rm : Room} {mc ms : Nat} {cc : ByteArray} {maxL : Nat} {ret : Option FieldType} {tb : List hx_d} {tys : hx_y} {D : va_G} {cl : List vw_C} {L : List Nat} {h : hx_h} {sz b0 : Nat} {av : List Value} {Qc : Array Value → State → Outcome → State → Prop} {lv : List (Nat × Value)}
    (hy : plainName y.cls = true) (hw : ws = Cond.code y cc maxL ret :: ws') (hlen : (lg_sl av).length ≤ maxL) (hlv : lv_args 0 av = lv)
    (body : ∀ (p : Program) (e : Env) (s : State) (m : MethodId) (below : List Frame) (meth : Method) (c : Code), p.tables.exec = Jvm.exec → c.code = cc → c.maxLocals = maxL → meth.sig.returnType = ret → meth.locks = false → (∀ w ∈ ws, w.before av.toArray s = true) → s.vm.findClass y.cls = some m.cls → meth.name = y.name → s.heap.size = sz →
      hx_W tb tys D cl (hx_A L sz) s.heap L h s s.heap [] → hx_Xt (hx_A L sz) b0 s → ∀ ls : Array Slot, lv_has ls maxL lv → W p l e rm s m av.toArray below meth c s.heap [] 0 0 (MQ below Qc av.toArray s mc ms (hx_A L sz)) (F0 m 0 ls [])) :
    Met l y ws rm (va_Pc av (hx_BX tb tys D cl L h sz b0)) Qc mc ms (hx_A L sz) := by
  refine Met.ofW (cc := cc) (maxL := maxL) (ret := ret) hy hw ?_
  intro p e s m args below meth c s₁ B hml hv
  obtain ⟨rfl, ⟨hsz, hP, hK, hD0⟩, hZ⟩ := hv
  have hl := lv_entry av (n := maxL) hlen
  rw [lg_entry_eq]
  refine body p e s m below meth c B.exec B.bytes hml B.returns B.notSynchronized (atoms_spec (ws := ws) B.pre) (findClass_of_methodNamed B.named) (name_of_methodNamed B.named B.method).1 hsz ⟨hK, hP, hD0.weaken (fun k q hk _ => ?_), va_S.rf, fun q hq => Or.inr (by rw [← hsz]; exact hq)⟩ hZ _ (by rw [← hlv]; exact hl)
  refine Or.inl ?_
  have hmem := List.mem_of_getElem? hk
  obtain ⟨b, hb, hbq⟩ := List.mem_map.mp hmem
  rw [← hbq]
  exact hb
end
section
theorem dX9_isWithin_0 : decode cX9_isWithin 0 = .ok (.iload_n 0, 1) := by decide +kernel
theorem dX9_isWithin_1 : decode cX9_isWithin 1 = .ok (.iload_n 1, 1) := by decide +kernel
theorem dX9_isWithin_2 : decode cX9_isWithin 2 = .ok (.if_icmp .lt 12, 3) := by decide +kernel
theorem dX9_isWithin_5 : decode cX9_isWithin 5 = .ok (.iload_n 0, 1) := by decide +kernel
theorem dX9_isWithin_6 : decode cX9_isWithin 6 = .ok (.iload_n 2, 1) := by decide +kernel
theorem dX9_isWithin_7 : decode cX9_isWithin 7 = .ok (.if_icmp .gt 7, 3) := by decide +kernel
theorem dX9_isWithin_10 : decode cX9_isWithin 10 = .ok (.iconst 1, 1) := by decide +kernel
theorem dX9_isWithin_11 : decode cX9_isWithin 11 = .ok (.goto 4, 3) := by decide +kernel
theorem dX9_isWithin_14 : decode cX9_isWithin 14 = .ok (.iconst 0, 1) := by decide +kernel
theorem dX9_isWithin_15 : decode cX9_isWithin 15 = .ok (.ireturn, 1) := by decide +kernel
set_option maxHeartbeats 4000000 in
set_option maxRecDepth 100000 in
theorem c_X9_isWithin (l : Launch) (dC : Nat → ClassId) (dI : Nat → Nat → Nat) (dA : Nat → ClassId) (L : List Nat) (h : hx_h) (sz : Nat) (n : Int32) (lo : Int32) (hi : Int32)   : Met l yX9_isWithin (Cond.code yX9_isWithin cX9_isWithin 3 (some .boolean) :: hx_all) ({ frames := 0, cells := 0, slots := 0, locals := 0 }) (va_Pc [.int n, .int lo, .int hi] (hx_B P_tb (P_ty dA) (dC, dI) vwCl L h sz)) (va_Qi (fun (r : Int32) (u : List Nat × hx_h) => ((lo.toInt ≤ n.toInt ∧ n.toInt ≤ hi.toInt) ∧ r = 1 ∨ ¬ (lo.toInt ≤ n.toInt ∧ n.toInt ≤ hi.toInt) ∧ r = 0) ∧ u = (L, h)) (hx_E P_tb (P_ty dA) (dC, dI) vwCl (hx_A L sz)) (hx_A L sz)) 0 0 (hx_A L sz) := by
  refine hx_met (lv := [(0, .int n), (1, .int lo), (2, .int hi)]) (by decide +kernel) rfl (Nat.le_of_ble_eq_true rfl) rfl ?_
  intro p e s m below meth c hx hb hml hr hlk hts0 hown hin hsz hW ls hl
  have hts : ∀ w ∈ hx_all, w.before _ s = true := fun w hw => hts0 w (List.mem_cons_of_mem _ hw)
  have hown : s.vm.findClass "SmallCourt" = some m.cls := hown
  refine lv_iload_n hx hb dX9_isWithin_0 rfl (lv_at hl 0 rfl) ?_
  refine lv_iload_n hx hb dX9_isWithin_1 rfl (lv_at hl 1 rfl) ?_
  refine hb_icmp_lt (zx := n.toInt) (zy := lo.toInt) (tgt := 14) hx hb rfl rfl dX9_isWithin_2 (by decide) (fun c_1 => ?_) (fun c_1 => ?_)
  · skip
    refine lv_iconst (v := 0) hx hb dX9_isWithin_14 (by decide) ?_
    exact hx_retz hx hb hr rfl hlk hW ⟨Or.inr ⟨by first | omega | exact id, rfl⟩, rfl⟩ dX9_isWithin_15
  · skip
    refine lv_iload_n hx hb dX9_isWithin_5 rfl (lv_at hl 0 rfl) ?_
    refine lv_iload_n hx hb dX9_isWithin_6 rfl (lv_at hl 2 rfl) ?_
    refine hb_icmp_gt (zx := n.toInt) (zy := hi.toInt) (tgt := 14) hx hb rfl rfl dX9_isWithin_7 (by decide) (fun c_2 => ?_) (fun c_2 => ?_)
    · skip
      refine lv_iconst (v := 0) hx hb dX9_isWithin_14 (by decide) ?_
      exact hx_retz hx hb hr rfl hlk hW ⟨Or.inr ⟨by first | omega | exact id, rfl⟩, rfl⟩ dX9_isWithin_15
    · skip
      refine lv_iconst (v := 1) hx hb dX9_isWithin_10 (by decide) ?_
      refine lv_goto (tgt := 15) hx hb dX9_isWithin_11 (by decide) ?_
      exact hx_retz hx hb hr rfl hlk hW ⟨Or.inl ⟨by first | omega | exact id, rfl⟩, rfl⟩ dX9_isWithin_15

theorem dX10_in_0 : decode cX10_in 0 = .ok (.iload_n 0, 1) := by decide +kernel
theorem dX10_in_1 : decode cX10_in 1 = .ok (.iload_n 1, 1) := by decide +kernel
theorem dX10_in_2 : decode cX10_in 2 = .ok (.if_icmp .lt 12, 3) := by decide +kernel
theorem dX10_in_5 : decode cX10_in 5 = .ok (.iload_n 0, 1) := by decide +kernel
theorem dX10_in_6 : decode cX10_in 6 = .ok (.iload_n 2, 1) := by decide +kernel
theorem dX10_in_7 : decode cX10_in 7 = .ok (.if_icmp .gt 7, 3) := by decide +kernel
theorem dX10_in_10 : decode cX10_in 10 = .ok (.iconst 1, 1) := by decide +kernel
theorem dX10_in_11 : decode cX10_in 11 = .ok (.goto 4, 3) := by decide +kernel
theorem dX10_in_14 : decode cX10_in 14 = .ok (.iconst 0, 1) := by decide +kernel
theorem dX10_in_15 : decode cX10_in 15 = .ok (.ireturn, 1) := by decide +kernel
set_option maxHeartbeats 4000000 in
set_option maxRecDepth 100000 in
theorem c_X10_in (l : Launch) (dC : Nat → ClassId) (dI : Nat → Nat → Nat) (dA : Nat → ClassId) (L : List Nat) (h : hx_h) (sz : Nat) (n : Int32) (lo : Int32) (hi : Int32)   : Met l yX10_in (Cond.code yX10_in cX10_in 3 (some .boolean) :: hx_all) ({ frames := 0, cells := 0, slots := 0, locals := 0 }) (va_Pc [.int n, .int lo, .int hi] (hx_B P_tb (P_ty dA) (dC, dI) vwCl L h sz)) (va_Qi (fun (r : Int32) (u : List Nat × hx_h) => ((lo.toInt ≤ n.toInt ∧ n.toInt ≤ hi.toInt) ∧ r = 1 ∨ ¬ (lo.toInt ≤ n.toInt ∧ n.toInt ≤ hi.toInt) ∧ r = 0) ∧ u = (L, h)) (hx_E P_tb (P_ty dA) (dC, dI) vwCl (hx_A L sz)) (hx_A L sz)) 0 0 (hx_A L sz) := by
  refine hx_met (lv := [(0, .int n), (1, .int lo), (2, .int hi)]) (by decide +kernel) rfl (Nat.le_of_ble_eq_true rfl) rfl ?_
  intro p e s m below meth c hx hb hml hr hlk hts0 hown hin hsz hW ls hl
  have hts : ∀ w ∈ hx_all, w.before _ s = true := fun w hw => hts0 w (List.mem_cons_of_mem _ hw)
  have hown : s.vm.findClass "SmallCourtModel" = some m.cls := hown
  refine lv_iload_n hx hb dX10_in_0 rfl (lv_at hl 0 rfl) ?_
  refine lv_iload_n hx hb dX10_in_1 rfl (lv_at hl 1 rfl) ?_
  refine hb_icmp_lt (zx := n.toInt) (zy := lo.toInt) (tgt := 14) hx hb rfl rfl dX10_in_2 (by decide) (fun c_1 => ?_) (fun c_1 => ?_)
  · skip
    refine lv_iconst (v := 0) hx hb dX10_in_14 (by decide) ?_
    exact hx_retz hx hb hr rfl hlk hW ⟨Or.inr ⟨by first | omega | exact id, rfl⟩, rfl⟩ dX10_in_15
  · skip
    refine lv_iload_n hx hb dX10_in_5 rfl (lv_at hl 0 rfl) ?_
    refine lv_iload_n hx hb dX10_in_6 rfl (lv_at hl 2 rfl) ?_
    refine hb_icmp_gt (zx := n.toInt) (zy := hi.toInt) (tgt := 14) hx hb rfl rfl dX10_in_7 (by decide) (fun c_2 => ?_) (fun c_2 => ?_)
    · skip
      refine lv_iconst (v := 0) hx hb dX10_in_14 (by decide) ?_
      exact hx_retz hx hb hr rfl hlk hW ⟨Or.inr ⟨by first | omega | exact id, rfl⟩, rfl⟩ dX10_in_15
    · skip
      refine lv_iconst (v := 1) hx hb dX10_in_10 (by decide) ?_
      refine lv_goto (tgt := 15) hx hb dX10_in_11 (by decide) ?_
      exact hx_retz hx hb hr rfl hlk hW ⟨Or.inl ⟨by first | omega | exact id, rfl⟩, rfl⟩ dX10_in_15

theorem dX9_isDay_0 : decode cX9_isDay 0 = .ok (.iload_n 0, 1) := by decide +kernel
theorem dX9_isDay_1 : decode cX9_isDay 1 = .ok (.iconst 0, 1) := by decide +kernel
theorem dX9_isDay_2 : decode cX9_isDay 2 = .ok (.sipush 7999, 3) := by decide +kernel
theorem dX9_isDay_5 : decode cX9_isDay 5 = .ok (.invokestatic 128, 3) := by decide +kernel
theorem dX9_isDay_8 : decode cX9_isDay 8 = .ok (.ireturn, 1) := by decide +kernel
set_option maxHeartbeats 4000000 in
set_option maxRecDepth 100000 in
theorem c_X9_isDay (l : Launch) (dC : Nat → ClassId) (dI : Nat → Nat → Nat) (dA : Nat → ClassId) (L : List Nat) (h : hx_h) (sz : Nat) (d : Int32)   : Met l yX9_isDay (Cond.code yX9_isDay cX9_isDay 1 (some .boolean) :: hx_all) ({ frames := 1, cells := 0, slots := 0, locals := 22 }) (va_Pc [.int d] (hx_B P_tb (P_ty dA) (dC, dI) vwCl L h sz)) (va_Qi (fun (r : Int32) (u : List Nat × hx_h) => ((0 ≤ d.toInt ∧ d.toInt ≤ 7999) ∧ r = 1 ∨ ¬ (0 ≤ d.toInt ∧ d.toInt ≤ 7999) ∧ r = 0) ∧ u = (L, h)) (hx_E P_tb (P_ty dA) (dC, dI) vwCl (hx_A L sz)) (hx_A L sz)) 0 0 (hx_A L sz) := by
  refine hx_met (lv := [(0, .int d)]) (by decide +kernel) rfl (Nat.le_of_ble_eq_true rfl) rfl ?_
  intro p e s m below meth c hx hb hml hr hlk hts0 hown hin hsz hW ls hl
  have hts : ∀ w ∈ hx_all, w.before _ s = true := fun w hw => hts0 w (List.mem_cons_of_mem _ hw)
  have hown : s.vm.findClass "SmallCourt" = some m.cls := hown
  refine lv_iload_n hx hb dX9_isDay_0 rfl (lv_at hl 0 rfl) ?_
  refine lv_iconst (v := 0) hx hb dX9_isDay_1 (by decide) ?_
  refine lv_sipush (v := 7999) hx hb dX9_isDay_2 (by decide) ?_
  refine hx_goi (hx_runS (As := [.int d, .int (0 : Int32), .int (7999 : Int32)]) (rest := []) ⟨hx, hb, hml, hown, hts⟩ hW (c_X9_isWithin l dC dI dA L h s.heap.size d (0 : Int32) (7999 : Int32)) (va_cwS 3 hts (hx_gS kw_434 kw_432 kw_433 kw_94) rfl rfl rfl (by decide +kernel) ⟨Nat.le_of_ble_eq_true rfl, Nat.le_of_ble_eq_true rfl⟩) rfl hl.1 rfl (Nat.le_of_ble_eq_true rfl) dX9_isDay_5 ⟨Nat.le_of_ble_eq_true rfl, Nat.le_of_ble_eq_true rfl⟩) hW (fun r_3 L_1 h_2 H locs p_4 hW => ?_)
  obtain ⟨p_4, eu⟩ := p_4
  cases eu
  rcases p_4 with ⟨kp_4, rfl⟩ | ⟨kp_4, rfl⟩
  · skip
    have zc1 : (0 : Int32).toInt = 0 := by decide
    have zc2 : (7999 : Int32).toInt = 7999 := by decide
    exact hx_retz hx hb hr rfl hlk hW ⟨Or.inl ⟨by first | omega | exact id, rfl⟩, rfl⟩ dX9_isDay_8
  · skip
    have zc1 : (0 : Int32).toInt = 0 := by decide
    have zc2 : (7999 : Int32).toInt = 7999 := by decide
    exact hx_retz hx hb hr rfl hlk hW ⟨Or.inr ⟨by first | omega | exact id, rfl⟩, rfl⟩ dX9_isDay_8

theorem dX10_isDay_0 : decode cX10_isDay 0 = .ok (.iload_n 0, 1) := by decide +kernel
theorem dX10_isDay_1 : decode cX10_isDay 1 = .ok (.iconst 0, 1) := by decide +kernel
theorem dX10_isDay_2 : decode cX10_isDay 2 = .ok (.sipush 7999, 3) := by decide +kernel
theorem dX10_isDay_5 : decode cX10_isDay 5 = .ok (.invokestatic 228, 3) := by decide +kernel
theorem dX10_isDay_8 : decode cX10_isDay 8 = .ok (.ireturn, 1) := by decide +kernel
set_option maxHeartbeats 4000000 in
set_option maxRecDepth 100000 in
theorem c_X10_isDay (l : Launch) (dC : Nat → ClassId) (dI : Nat → Nat → Nat) (dA : Nat → ClassId) (L : List Nat) (h : hx_h) (sz : Nat) (d : Int32)   : Met l yX10_isDay (Cond.code yX10_isDay cX10_isDay 1 (some .boolean) :: hx_all) ({ frames := 1, cells := 0, slots := 0, locals := 22 }) (va_Pc [.int d] (hx_B P_tb (P_ty dA) (dC, dI) vwCl L h sz)) (va_Qi (fun (r : Int32) (u : List Nat × hx_h) => ((0 ≤ d.toInt ∧ d.toInt ≤ 7999) ∧ r = 1 ∨ ¬ (0 ≤ d.toInt ∧ d.toInt ≤ 7999) ∧ r = 0) ∧ u = (L, h)) (hx_E P_tb (P_ty dA) (dC, dI) vwCl (hx_A L sz)) (hx_A L sz)) 0 0 (hx_A L sz) := by
  refine hx_met (lv := [(0, .int d)]) (by decide +kernel) rfl (Nat.le_of_ble_eq_true rfl) rfl ?_
  intro p e s m below meth c hx hb hml hr hlk hts0 hown hin hsz hW ls hl
  have hts : ∀ w ∈ hx_all, w.before _ s = true := fun w hw => hts0 w (List.mem_cons_of_mem _ hw)
  have hown : s.vm.findClass "SmallCourtModel" = some m.cls := hown
  refine lv_iload_n hx hb dX10_isDay_0 rfl (lv_at hl 0 rfl) ?_
  refine lv_iconst (v := 0) hx hb dX10_isDay_1 (by decide) ?_
  refine lv_sipush (v := 7999) hx hb dX10_isDay_2 (by decide) ?_
  refine hx_goi (hx_runS (As := [.int d, .int (0 : Int32), .int (7999 : Int32)]) (rest := []) ⟨hx, hb, hml, hown, hts⟩ hW (c_X10_in l dC dI dA L h s.heap.size d (0 : Int32) (7999 : Int32)) (va_cwS 3 hts (hx_gS kw_1445 kw_1443 kw_1444 kw_103) rfl rfl rfl (by decide +kernel) ⟨Nat.le_of_ble_eq_true rfl, Nat.le_of_ble_eq_true rfl⟩) rfl hl.1 rfl (Nat.le_of_ble_eq_true rfl) dX10_isDay_5 ⟨Nat.le_of_ble_eq_true rfl, Nat.le_of_ble_eq_true rfl⟩) hW (fun r_3 L_1 h_2 H locs p_4 hW => ?_)
  obtain ⟨p_4, eu⟩ := p_4
  cases eu
  rcases p_4 with ⟨kp_4, rfl⟩ | ⟨kp_4, rfl⟩
  · skip
    have zc1 : (0 : Int32).toInt = 0 := by decide
    have zc2 : (7999 : Int32).toInt = 7999 := by decide
    exact hx_retz hx hb hr rfl hlk hW ⟨Or.inl ⟨by first | omega | exact id, rfl⟩, rfl⟩ dX10_isDay_8
  · skip
    have zc1 : (0 : Int32).toInt = 0 := by decide
    have zc2 : (7999 : Int32).toInt = 7999 := by decide
    exact hx_retz hx hb hr rfl hlk hW ⟨Or.inr ⟨by first | omega | exact id, rfl⟩, rfl⟩ dX10_isDay_8
end
section
theorem dX9_personAt_0 : decode cX9_personAt 0 = .ok (.iload_n 1, 1) := by decide +kernel
theorem dX9_personAt_1 : decode cX9_personAt 1 = .ok (.ifCond .lt 11, 3) := by decide +kernel
theorem dX9_personAt_4 : decode cX9_personAt 4 = .ok (.iload_n 1, 1) := by decide +kernel
theorem dX9_personAt_5 : decode cX9_personAt 5 = .ok (.aload_n 0, 1) := by decide +kernel
theorem dX9_personAt_6 : decode cX9_personAt 6 = .ok (.getfield 125, 3) := by decide +kernel
theorem dX9_personAt_9 : decode cX9_personAt 9 = .ok (.if_icmp .lt 7, 3) := by decide +kernel
theorem dX9_personAt_12 : decode cX9_personAt 12 = .ok (.aconst_null, 1) := by decide +kernel
theorem dX9_personAt_13 : decode cX9_personAt 13 = .ok (.goto 9, 3) := by decide +kernel
theorem dX9_personAt_22 : decode cX9_personAt 22 = .ok (.areturn, 1) := by decide +kernel
set_option maxHeartbeats 4000000 in
set_option maxRecDepth 100000 in
theorem c_X9_personAt (l : Launch) (dC : Nat → ClassId) (dI : Nat → Nat → Nat) (dA : Nat → ClassId) (L : List Nat) (h : hx_h) (sz : Nat) (x : Nat) (k : Int32) (gx : hx_g L h x 9) (f_x_8 : h.2.1 x 8 = 0) : Met l yX9_personAt (Cond.code yX9_personAt cX9_personAt 2 (some (.object "SmallCourt$Person")) :: hx_all) ({ frames := 0, cells := 0, slots := 0, locals := 0 }) (va_Pc [.ref x, .int k] (hx_B P_tb (P_ty dA) (dC, dI) vwCl L h sz)) (va_Qq (fun (r : Option Nat) (u : List Nat × hx_h) => r = none ∧ u = (L, h)) (hx_E P_tb (P_ty dA) (dC, dI) vwCl (hx_A L sz)) (hx_A L sz)) 0 0 (hx_A L sz) := by
  refine hx_met (lv := [(0, .ref x), (1, .int k)]) (by decide +kernel) rfl (Nat.le_of_ble_eq_true rfl) rfl ?_
  intro p e s m below meth c hx hb hml hr hlk hts0 hown hin hsz hW ls hl
  have hts : ∀ w ∈ hx_all, w.before _ s = true := fun w hw => hts0 w (List.mem_cons_of_mem _ hw)
  have hown : s.vm.findClass "SmallCourt" = some m.cls := hown
  refine lv_iload_n hx hb dX9_personAt_0 rfl (lv_at hl 1 rfl) ?_
  refine hb_if_lt (zx := k.toInt) (tgt := 12) hx hb rfl dX9_personAt_1 (by decide) (fun c_1 => ?_) (fun c_1 => ?_)
  · skip
    refine lv_null hx hb dX9_personAt_12 ?_
    refine lv_goto (tgt := 22) hx hb dX9_personAt_13 (by decide) ?_
    exact hx_retq (v := none) hx hb hr (Or.inl ⟨_, rfl⟩) hlk hW ⟨rfl, rfl⟩ dX9_personAt_22
  · skip
    refine lv_iload_n hx hb dX9_personAt_4 rfl (lv_at hl 1 rfl) ?_
    refine lv_aload_n hx hb dX9_personAt_5 rfl (lv_at hl 0 rfl) ?_
    refine hk_geti hx hb hts hC_9 hown hW gx td_9 8 (by decide) rfl kw_372 ⟨rfl, rfl, rfl⟩ f_x_8 dX9_personAt_6 ?_
    refine hb_icmp_lt (zx := k.toInt) (zy := 0) (tgt := 16) hx hb rfl (by decide) dX9_personAt_9 (by decide) (fun c_2 => by exfalso; omega) (fun c_2 => ?_)
    refine lv_null hx hb dX9_personAt_12 ?_
    refine lv_goto (tgt := 22) hx hb dX9_personAt_13 (by decide) ?_
    exact hx_retq (v := none) hx hb hr (Or.inl ⟨_, rfl⟩) hlk hW ⟨rfl, rfl⟩ dX9_personAt_22

theorem dX9_claimAt_0 : decode cX9_claimAt 0 = .ok (.iload_n 1, 1) := by decide +kernel
theorem dX9_claimAt_1 : decode cX9_claimAt 1 = .ok (.ifCond .lt 11, 3) := by decide +kernel
theorem dX9_claimAt_4 : decode cX9_claimAt 4 = .ok (.iload_n 1, 1) := by decide +kernel
theorem dX9_claimAt_5 : decode cX9_claimAt 5 = .ok (.aload_n 0, 1) := by decide +kernel
theorem dX9_claimAt_6 : decode cX9_claimAt 6 = .ok (.getfield 181, 3) := by decide +kernel
theorem dX9_claimAt_9 : decode cX9_claimAt 9 = .ok (.if_icmp .lt 7, 3) := by decide +kernel
theorem dX9_claimAt_12 : decode cX9_claimAt 12 = .ok (.aconst_null, 1) := by decide +kernel
theorem dX9_claimAt_13 : decode cX9_claimAt 13 = .ok (.goto 9, 3) := by decide +kernel
theorem dX9_claimAt_22 : decode cX9_claimAt 22 = .ok (.areturn, 1) := by decide +kernel
set_option maxHeartbeats 4000000 in
set_option maxRecDepth 100000 in
theorem c_X9_claimAt (l : Launch) (dC : Nat → ClassId) (dI : Nat → Nat → Nat) (dA : Nat → ClassId) (L : List Nat) (h : hx_h) (sz : Nat) (x : Nat) (k : Int32) (gx : hx_g L h x 9) (f_x_11 : h.2.1 x 11 = 0) : Met l yX9_claimAt (Cond.code yX9_claimAt cX9_claimAt 2 (some (.object "SmallCourt$Claim")) :: hx_all) ({ frames := 0, cells := 0, slots := 0, locals := 0 }) (va_Pc [.ref x, .int k] (hx_B P_tb (P_ty dA) (dC, dI) vwCl L h sz)) (va_Qq (fun (r : Option Nat) (u : List Nat × hx_h) => r = none ∧ u = (L, h)) (hx_E P_tb (P_ty dA) (dC, dI) vwCl (hx_A L sz)) (hx_A L sz)) 0 0 (hx_A L sz) := by
  refine hx_met (lv := [(0, .ref x), (1, .int k)]) (by decide +kernel) rfl (Nat.le_of_ble_eq_true rfl) rfl ?_
  intro p e s m below meth c hx hb hml hr hlk hts0 hown hin hsz hW ls hl
  have hts : ∀ w ∈ hx_all, w.before _ s = true := fun w hw => hts0 w (List.mem_cons_of_mem _ hw)
  have hown : s.vm.findClass "SmallCourt" = some m.cls := hown
  refine lv_iload_n hx hb dX9_claimAt_0 rfl (lv_at hl 1 rfl) ?_
  refine hb_if_lt (zx := k.toInt) (tgt := 12) hx hb rfl dX9_claimAt_1 (by decide) (fun c_1 => ?_) (fun c_1 => ?_)
  · skip
    refine lv_null hx hb dX9_claimAt_12 ?_
    refine lv_goto (tgt := 22) hx hb dX9_claimAt_13 (by decide) ?_
    exact hx_retq (v := none) hx hb hr (Or.inl ⟨_, rfl⟩) hlk hW ⟨rfl, rfl⟩ dX9_claimAt_22
  · skip
    refine lv_iload_n hx hb dX9_claimAt_4 rfl (lv_at hl 1 rfl) ?_
    refine lv_aload_n hx hb dX9_claimAt_5 rfl (lv_at hl 0 rfl) ?_
    refine hk_geti hx hb hts hC_9 hown hW gx td_9 11 (by decide) rfl kw_375 ⟨rfl, rfl, rfl⟩ f_x_11 dX9_claimAt_6 ?_
    refine hb_icmp_lt (zx := k.toInt) (zy := 0) (tgt := 16) hx hb rfl (by decide) dX9_claimAt_9 (by decide) (fun c_2 => by exfalso; omega) (fun c_2 => ?_)
    refine lv_null hx hb dX9_claimAt_12 ?_
    refine lv_goto (tgt := 22) hx hb dX9_claimAt_13 (by decide) ?_
    exact hx_retq (v := none) hx hb hr (Or.inl ⟨_, rfl⟩) hlk hW ⟨rfl, rfl⟩ dX9_claimAt_22

theorem dX9_areTwo_0 : decode cX9_areTwo 0 = .ok (.iload_n 1, 1) := by decide +kernel
theorem dX9_areTwo_1 : decode cX9_areTwo 1 = .ok (.iload_n 2, 1) := by decide +kernel
theorem dX9_areTwo_2 : decode cX9_areTwo 2 = .ok (.if_icmp .eq 23, 3) := by decide +kernel
theorem dX9_areTwo_5 : decode cX9_areTwo 5 = .ok (.aload_n 0, 1) := by decide +kernel
theorem dX9_areTwo_6 : decode cX9_areTwo 6 = .ok (.iload_n 1, 1) := by decide +kernel
theorem dX9_areTwo_7 : decode cX9_areTwo 7 = .ok (.invokevirtual 144, 3) := by decide +kernel
theorem dX9_areTwo_10 : decode cX9_areTwo 10 = .ok (.ifnull 15, 3) := by decide +kernel
theorem dX9_areTwo_25 : decode cX9_areTwo 25 = .ok (.iconst 0, 1) := by decide +kernel
theorem dX9_areTwo_26 : decode cX9_areTwo 26 = .ok (.ireturn, 1) := by decide +kernel
set_option maxHeartbeats 4000000 in
set_option maxRecDepth 100000 in
theorem c_X9_areTwo (l : Launch) (dC : Nat → ClassId) (dI : Nat → Nat → Nat) (dA : Nat → ClassId) (L : List Nat) (h : hx_h) (sz : Nat) (x : Nat) (i1 : Int32) (i2 : Int32) (gx : hx_g L h x 9) (f_x_8 : h.2.1 x 8 = 0) : Met l yX9_areTwo (Cond.code yX9_areTwo cX9_areTwo 3 (some .boolean) :: hx_all) ({ frames := 1, cells := 0, slots := 0, locals := 21 }) (va_Pc [.ref x, .int i1, .int i2] (hx_B P_tb (P_ty dA) (dC, dI) vwCl L h sz)) (va_Qi (fun (r : Int32) (u : List Nat × hx_h) => ((False) ∧ r = 1 ∨ ¬ (False) ∧ r = 0) ∧ u = (L, h)) (hx_E P_tb (P_ty dA) (dC, dI) vwCl (hx_A L sz)) (hx_A L sz)) 0 0 (hx_A L sz) := by
  refine hx_met (lv := [(0, .ref x), (1, .int i1), (2, .int i2)]) (by decide +kernel) rfl (Nat.le_of_ble_eq_true rfl) rfl ?_
  intro p e s m below meth c hx hb hml hr hlk hts0 hown hin hsz hW ls hl
  have hts : ∀ w ∈ hx_all, w.before _ s = true := fun w hw => hts0 w (List.mem_cons_of_mem _ hw)
  have hown : s.vm.findClass "SmallCourt" = some m.cls := hown
  refine lv_iload_n hx hb dX9_areTwo_0 rfl (lv_at hl 1 rfl) ?_
  refine lv_iload_n hx hb dX9_areTwo_1 rfl (lv_at hl 2 rfl) ?_
  refine hb_icmp_eq (zx := i1.toInt) (zy := i2.toInt) (tgt := 25) hx hb rfl rfl dX9_areTwo_2 (by decide) (fun c_1 => ?_) (fun c_1 => ?_)
  · skip
    refine lv_iconst (v := 0) hx hb dX9_areTwo_25 (by decide) ?_
    exact hx_retz hx hb hr rfl hlk hW ⟨Or.inr ⟨by first | omega | exact id, rfl⟩, rfl⟩ dX9_areTwo_26
  · skip
    refine lv_aload_n hx hb dX9_areTwo_5 rfl (lv_at hl 0 rfl) ?_
    refine lv_iload_n hx hb dX9_areTwo_6 rfl (lv_at hl 1 rfl) ?_
    refine hx_goq (hx_runV (As := [.int i1]) (rest := []) ⟨hx, hb, hml, hown, hts⟩ hW gx td_9 (T := TX9) (N := 20) rfl (c_X9_personAt l dC dI dA L h s.heap.size x i1 gx f_x_8) (cwV 1 hts (hx_gV kw_659 kw_656 kw_658 kw_20 kw_94) rfl rfl rfl (by decide +kernel) ⟨Nat.le_of_ble_eq_true rfl, Nat.le_of_ble_eq_true rfl⟩) rfl hl.1 rfl (Nat.le_of_ble_eq_true rfl) dX9_areTwo_7 ⟨Nat.le_of_ble_eq_true rfl, Nat.le_of_ble_eq_true rfl⟩) hW (fun r_4 L_2 h_3 H locs p_5 hW => ?_)
    obtain ⟨rfl, eu⟩ := p_5
    cases eu
    refine lv_ifnullN (tgt := 25) hx hb dX9_areTwo_10 (by decide) ?_
    refine lv_iconst (v := 0) hx hb dX9_areTwo_25 (by decide) ?_
    exact hx_retz hx hb hr rfl hlk hW ⟨Or.inr ⟨by first | omega | exact id, rfl⟩, rfl⟩ dX9_areTwo_26

theorem dX9_isHousehold_0 : decode cX9_isHousehold 0 = .ok (.iload_n 0, 1) := by decide +kernel
theorem dX9_isHousehold_1 : decode cX9_isHousehold 1 = .ok (.iconst 0, 1) := by decide +kernel
theorem dX9_isHousehold_2 : decode cX9_isHousehold 2 = .ok (.sipush 9999, 3) := by decide +kernel
theorem dX9_isHousehold_5 : decode cX9_isHousehold 5 = .ok (.invokestatic 128, 3) := by decide +kernel
theorem dX9_isHousehold_8 : decode cX9_isHousehold 8 = .ok (.ifCond .eq 37, 3) := by decide +kernel
theorem dX9_isHousehold_11 : decode cX9_isHousehold 11 = .ok (.iload_n 1, 1) := by decide +kernel
theorem dX9_isHousehold_12 : decode cX9_isHousehold 12 = .ok (.iconst 1, 1) := by decide +kernel
theorem dX9_isHousehold_13 : decode cX9_isHousehold 13 = .ok (.bipush 20, 2) := by decide +kernel
theorem dX9_isHousehold_15 : decode cX9_isHousehold 15 = .ok (.invokestatic 128, 3) := by decide +kernel
theorem dX9_isHousehold_18 : decode cX9_isHousehold 18 = .ok (.ifCond .eq 27, 3) := by decide +kernel
theorem dX9_isHousehold_21 : decode cX9_isHousehold 21 = .ok (.iload_n 2, 1) := by decide +kernel
theorem dX9_isHousehold_22 : decode cX9_isHousehold 22 = .ok (.iconst 0, 1) := by decide +kernel
theorem dX9_isHousehold_23 : decode cX9_isHousehold 23 = .ok (.bipush 99, 2) := by decide +kernel
theorem dX9_isHousehold_25 : decode cX9_isHousehold 25 = .ok (.invokestatic 128, 3) := by decide +kernel
theorem dX9_isHousehold_28 : decode cX9_isHousehold 28 = .ok (.ifCond .eq 17, 3) := by decide +kernel
theorem dX9_isHousehold_31 : decode cX9_isHousehold 31 = .ok (.iload_n 3, 1) := by decide +kernel
theorem dX9_isHousehold_32 : decode cX9_isHousehold 32 = .ok (.iconst 0, 1) := by decide +kernel
theorem dX9_isHousehold_33 : decode cX9_isHousehold 33 = .ok (.bipush 99, 2) := by decide +kernel
theorem dX9_isHousehold_35 : decode cX9_isHousehold 35 = .ok (.invokestatic 128, 3) := by decide +kernel
theorem dX9_isHousehold_38 : decode cX9_isHousehold 38 = .ok (.ifCond .eq 7, 3) := by decide +kernel
theorem dX9_isHousehold_41 : decode cX9_isHousehold 41 = .ok (.iconst 1, 1) := by decide +kernel
theorem dX9_isHousehold_42 : decode cX9_isHousehold 42 = .ok (.goto 4, 3) := by decide +kernel
theorem dX9_isHousehold_45 : decode cX9_isHousehold 45 = .ok (.iconst 0, 1) := by decide +kernel
theorem dX9_isHousehold_46 : decode cX9_isHousehold 46 = .ok (.ireturn, 1) := by decide +kernel
set_option maxHeartbeats 4000000 in
set_option maxRecDepth 100000 in
theorem c_X9_isHousehold (l : Launch) (dC : Nat → ClassId) (dI : Nat → Nat → Nat) (dA : Nat → ClassId) (L : List Nat) (h : hx_h) (sz : Nat) (i1 : Int32) (i2 : Int32) (i3 : Int32) (i4 : Int32)   : Met l yX9_isHousehold (Cond.code yX9_isHousehold cX9_isHousehold 4 (some .boolean) :: hx_all) ({ frames := 1, cells := 0, slots := 0, locals := 22 }) (va_Pc [.int i1, .int i2, .int i3, .int i4] (hx_B P_tb (P_ty dA) (dC, dI) vwCl L h sz)) (va_Qi (fun (r : Int32) (u : List Nat × hx_h) => (((0 ≤ i1.toInt ∧ i1.toInt ≤ 9999) ∧ (1 ≤ i2.toInt ∧ i2.toInt ≤ 20) ∧ (0 ≤ i3.toInt ∧ i3.toInt ≤ 99) ∧ (0 ≤ i4.toInt ∧ i4.toInt ≤ 99)) ∧ r = 1 ∨ ¬ ((0 ≤ i1.toInt ∧ i1.toInt ≤ 9999) ∧ (1 ≤ i2.toInt ∧ i2.toInt ≤ 20) ∧ (0 ≤ i3.toInt ∧ i3.toInt ≤ 99) ∧ (0 ≤ i4.toInt ∧ i4.toInt ≤ 99)) ∧ r = 0) ∧ u = (L, h)) (hx_E P_tb (P_ty dA) (dC, dI) vwCl (hx_A L sz)) (hx_A L sz)) 0 0 (hx_A L sz) := by
  refine hx_met (lv := [(0, .int i1), (1, .int i2), (2, .int i3), (3, .int i4)]) (by decide +kernel) rfl (Nat.le_of_ble_eq_true rfl) rfl ?_
  intro p e s m below meth c hx hb hml hr hlk hts0 hown hin hsz hW ls hl
  have hts : ∀ w ∈ hx_all, w.before _ s = true := fun w hw => hts0 w (List.mem_cons_of_mem _ hw)
  have hown : s.vm.findClass "SmallCourt" = some m.cls := hown
  refine lv_iload_n hx hb dX9_isHousehold_0 rfl (lv_at hl 0 rfl) ?_
  refine lv_iconst (v := 0) hx hb dX9_isHousehold_1 (by decide) ?_
  refine lv_sipush (v := 9999) hx hb dX9_isHousehold_2 (by decide) ?_
  refine hx_goi (hx_runS (As := [.int i1, .int (0 : Int32), .int (9999 : Int32)]) (rest := []) ⟨hx, hb, hml, hown, hts⟩ hW (c_X9_isWithin l dC dI dA L h s.heap.size i1 (0 : Int32) (9999 : Int32)) (va_cwS 3 hts (hx_gS kw_434 kw_432 kw_433 kw_94) rfl rfl rfl (by decide +kernel) ⟨Nat.le_of_ble_eq_true rfl, Nat.le_of_ble_eq_true rfl⟩) rfl hl.1 rfl (Nat.le_of_ble_eq_true rfl) dX9_isHousehold_5 ⟨Nat.le_of_ble_eq_true rfl, Nat.le_of_ble_eq_true rfl⟩) hW (fun r_3 L_1 h_2 H locs p_4 hW => ?_)
  obtain ⟨p_4, eu⟩ := p_4
  cases eu
  rcases p_4 with ⟨kp_4, rfl⟩ | ⟨kp_4, rfl⟩
  · skip
    have zc1 : (0 : Int32).toInt = 0 := by decide
    have zc2 : (9999 : Int32).toInt = 9999 := by decide
    refine hb_if_eq (zx := 1) (tgt := 45) hx hb (by decide) dX9_isHousehold_8 (by decide) (fun c_5 => absurd c_5 (by decide)) (fun c_5 => ?_)
    refine lv_iload_n hx hb dX9_isHousehold_11 rfl (lv_at hl 1 rfl) ?_
    refine lv_iconst (v := 1) hx hb dX9_isHousehold_12 (by decide) ?_
    refine lv_bipush (v := 20) hx hb dX9_isHousehold_13 (by decide) ?_
    refine hx_goi (hx_runS (As := [.int i2, .int (1 : Int32), .int (20 : Int32)]) (rest := []) ⟨hx, hb, hml, hown, hts⟩ hW (c_X9_isWithin l dC dI dA L h H.size i2 (1 : Int32) (20 : Int32)) (va_cwS 3 hts (hx_gS kw_434 kw_432 kw_433 kw_94) rfl rfl rfl (by decide +kernel) ⟨Nat.le_of_ble_eq_true rfl, Nat.le_of_ble_eq_true rfl⟩) rfl hl.1 rfl (Nat.le_of_ble_eq_true rfl) dX9_isHousehold_15 ⟨Nat.le_of_ble_eq_true rfl, Nat.le_of_ble_eq_true rfl⟩) hW (fun r_8 L_6 h_7 H locs p_9 hW => ?_)
    obtain ⟨p_9, eu⟩ := p_9
    cases eu
    rcases p_9 with ⟨kp_9, rfl⟩ | ⟨kp_9, rfl⟩
    · skip
      have zc1 : (1 : Int32).toInt = 1 := by decide
      have zc2 : (20 : Int32).toInt = 20 := by decide
      refine hb_if_eq (zx := 1) (tgt := 45) hx hb (by decide) dX9_isHousehold_18 (by decide) (fun c_10 => absurd c_10 (by decide)) (fun c_10 => ?_)
      refine lv_iload_n hx hb dX9_isHousehold_21 rfl (lv_at hl 2 rfl) ?_
      refine lv_iconst (v := 0) hx hb dX9_isHousehold_22 (by decide) ?_
      refine lv_bipush (v := 99) hx hb dX9_isHousehold_23 (by decide) ?_
      refine hx_goi (hx_runS (As := [.int i3, .int (0 : Int32), .int (99 : Int32)]) (rest := []) ⟨hx, hb, hml, hown, hts⟩ hW (c_X9_isWithin l dC dI dA L h H.size i3 (0 : Int32) (99 : Int32)) (va_cwS 3 hts (hx_gS kw_434 kw_432 kw_433 kw_94) rfl rfl rfl (by decide +kernel) ⟨Nat.le_of_ble_eq_true rfl, Nat.le_of_ble_eq_true rfl⟩) rfl hl.1 rfl (Nat.le_of_ble_eq_true rfl) dX9_isHousehold_25 ⟨Nat.le_of_ble_eq_true rfl, Nat.le_of_ble_eq_true rfl⟩) hW (fun r_13 L_11 h_12 H locs p_14 hW => ?_)
      obtain ⟨p_14, eu⟩ := p_14
      cases eu
      rcases p_14 with ⟨kp_14, rfl⟩ | ⟨kp_14, rfl⟩
      · skip
        have zc1 : (0 : Int32).toInt = 0 := by decide
        have zc2 : (99 : Int32).toInt = 99 := by decide
        refine hb_if_eq (zx := 1) (tgt := 45) hx hb (by decide) dX9_isHousehold_28 (by decide) (fun c_15 => absurd c_15 (by decide)) (fun c_15 => ?_)
        refine lv_iload_n hx hb dX9_isHousehold_31 rfl (lv_at hl 3 rfl) ?_
        refine lv_iconst (v := 0) hx hb dX9_isHousehold_32 (by decide) ?_
        refine lv_bipush (v := 99) hx hb dX9_isHousehold_33 (by decide) ?_
        refine hx_goi (hx_runS (As := [.int i4, .int (0 : Int32), .int (99 : Int32)]) (rest := []) ⟨hx, hb, hml, hown, hts⟩ hW (c_X9_isWithin l dC dI dA L h H.size i4 (0 : Int32) (99 : Int32)) (va_cwS 3 hts (hx_gS kw_434 kw_432 kw_433 kw_94) rfl rfl rfl (by decide +kernel) ⟨Nat.le_of_ble_eq_true rfl, Nat.le_of_ble_eq_true rfl⟩) rfl hl.1 rfl (Nat.le_of_ble_eq_true rfl) dX9_isHousehold_35 ⟨Nat.le_of_ble_eq_true rfl, Nat.le_of_ble_eq_true rfl⟩) hW (fun r_18 L_16 h_17 H locs p_19 hW => ?_)
        obtain ⟨p_19, eu⟩ := p_19
        cases eu
        rcases p_19 with ⟨kp_19, rfl⟩ | ⟨kp_19, rfl⟩
        · skip
          have zc1 : (0 : Int32).toInt = 0 := by decide
          have zc2 : (99 : Int32).toInt = 99 := by decide
          refine hb_if_eq (zx := 1) (tgt := 45) hx hb (by decide) dX9_isHousehold_38 (by decide) (fun c_20 => absurd c_20 (by decide)) (fun c_20 => ?_)
          refine lv_iconst (v := 1) hx hb dX9_isHousehold_41 (by decide) ?_
          refine lv_goto (tgt := 46) hx hb dX9_isHousehold_42 (by decide) ?_
          exact hx_retz hx hb hr rfl hlk hW ⟨Or.inl ⟨by first | omega | exact id, rfl⟩, rfl⟩ dX9_isHousehold_46
        · skip
          have zc1 : (0 : Int32).toInt = 0 := by decide
          have zc2 : (99 : Int32).toInt = 99 := by decide
          refine hb_if_eq (zx := 0) (tgt := 45) hx hb (by decide) dX9_isHousehold_38 (by decide) (fun c_21 => ?_) (fun c_21 => absurd c_21 (by decide))
          refine lv_iconst (v := 0) hx hb dX9_isHousehold_45 (by decide) ?_
          exact hx_retz hx hb hr rfl hlk hW ⟨Or.inr ⟨by first | omega | exact id, rfl⟩, rfl⟩ dX9_isHousehold_46
      · skip
        have zc1 : (0 : Int32).toInt = 0 := by decide
        have zc2 : (99 : Int32).toInt = 99 := by decide
        refine hb_if_eq (zx := 0) (tgt := 45) hx hb (by decide) dX9_isHousehold_28 (by decide) (fun c_22 => ?_) (fun c_22 => absurd c_22 (by decide))
        refine lv_iconst (v := 0) hx hb dX9_isHousehold_45 (by decide) ?_
        exact hx_retz hx hb hr rfl hlk hW ⟨Or.inr ⟨by first | omega | exact id, rfl⟩, rfl⟩ dX9_isHousehold_46
    · skip
      have zc1 : (1 : Int32).toInt = 1 := by decide
      have zc2 : (20 : Int32).toInt = 20 := by decide
      refine hb_if_eq (zx := 0) (tgt := 45) hx hb (by decide) dX9_isHousehold_18 (by decide) (fun c_23 => ?_) (fun c_23 => absurd c_23 (by decide))
      refine lv_iconst (v := 0) hx hb dX9_isHousehold_45 (by decide) ?_
      exact hx_retz hx hb hr rfl hlk hW ⟨Or.inr ⟨by first | omega | exact id, rfl⟩, rfl⟩ dX9_isHousehold_46
  · skip
    have zc1 : (0 : Int32).toInt = 0 := by decide
    have zc2 : (9999 : Int32).toInt = 9999 := by decide
    refine hb_if_eq (zx := 0) (tgt := 45) hx hb (by decide) dX9_isHousehold_8 (by decide) (fun c_24 => ?_) (fun c_24 => absurd c_24 (by decide))
    refine lv_iconst (v := 0) hx hb dX9_isHousehold_45 (by decide) ?_
    exact hx_retz hx hb hr rfl hlk hW ⟨Or.inr ⟨by first | omega | exact id, rfl⟩, rfl⟩ dX9_isHousehold_46

theorem dX9_livingJudges_0 : decode cX9_livingJudges 0 = .ok (.iconst 0, 1) := by decide +kernel
theorem dX9_livingJudges_1 : decode cX9_livingJudges 1 = .ok (.istore_n 1, 1) := by decide +kernel
theorem dX9_livingJudges_2 : decode cX9_livingJudges 2 = .ok (.iconst 0, 1) := by decide +kernel
theorem dX9_livingJudges_3 : decode cX9_livingJudges 3 = .ok (.istore_n 2, 1) := by decide +kernel
theorem dX9_livingJudges_4 : decode cX9_livingJudges 4 = .ok (.iload_n 2, 1) := by decide +kernel
theorem dX9_livingJudges_5 : decode cX9_livingJudges 5 = .ok (.aload_n 0, 1) := by decide +kernel
theorem dX9_livingJudges_6 : decode cX9_livingJudges 6 = .ok (.getfield 125, 3) := by decide +kernel
theorem dX9_livingJudges_9 : decode cX9_livingJudges 9 = .ok (.if_icmp .ge 41, 3) := by decide +kernel
theorem dX9_livingJudges_50 : decode cX9_livingJudges 50 = .ok (.iload_n 1, 1) := by decide +kernel
theorem dX9_livingJudges_51 : decode cX9_livingJudges 51 = .ok (.ireturn, 1) := by decide +kernel
set_option maxHeartbeats 4000000 in
set_option maxRecDepth 100000 in
theorem c_X9_livingJudges (l : Launch) (dC : Nat → ClassId) (dI : Nat → Nat → Nat) (dA : Nat → ClassId) (L : List Nat) (h : hx_h) (sz : Nat) (x : Nat) (gx : hx_g L h x 9) (f_x_8 : h.2.1 x 8 = 0) : Met l yX9_livingJudges (Cond.code yX9_livingJudges cX9_livingJudges 3 (some .int) :: hx_all) ({ frames := 0, cells := 0, slots := 0, locals := 0 }) (va_Pc [.ref x] (hx_B P_tb (P_ty dA) (dC, dI) vwCl L h sz)) (va_Qi (fun (r : Int32) (u : List Nat × hx_h) => r = 0 ∧ u = (L, h)) (hx_E P_tb (P_ty dA) (dC, dI) vwCl (hx_A L sz)) (hx_A L sz)) 0 0 (hx_A L sz) := by
  refine hx_met (lv := [(0, .ref x)]) (by decide +kernel) rfl (Nat.le_of_ble_eq_true rfl) rfl ?_
  intro p e s m below meth c hx hb hml hr hlk hts0 hown hin hsz hW ls hl
  have hts : ∀ w ∈ hx_all, w.before _ s = true := fun w hw => hts0 w (List.mem_cons_of_mem _ hw)
  have hown : s.vm.findClass "SmallCourt" = some m.cls := hown
  refine lv_iconst (v := 0) hx hb dX9_livingJudges_0 (by decide) ?_
  refine lv_istore_n (lv' := [(1, .int (0 : Int32)), (0, .ref x)]) hx hb dX9_livingJudges_1 rfl hl (by decide) rfl (fun ls hl => ?_)
  refine lv_iconst (v := 0) hx hb dX9_livingJudges_2 (by decide) ?_
  refine lv_istore_n (lv' := [(2, .int (0 : Int32)), (1, .int (0 : Int32)), (0, .ref x)]) hx hb dX9_livingJudges_3 rfl hl (by decide) rfl (fun ls hl => ?_)
  refine lv_iload_n hx hb dX9_livingJudges_4 rfl (lv_at hl 0 rfl) ?_
  refine lv_aload_n hx hb dX9_livingJudges_5 rfl (lv_at hl 2 rfl) ?_
  refine hk_geti hx hb hts hC_9 hown hW gx td_9 8 (by decide) rfl kw_372 ⟨rfl, rfl, rfl⟩ f_x_8 dX9_livingJudges_6 ?_
  refine hb_icmp_ge (zx := 0) (zy := 0) (tgt := 50) hx hb (by decide) (by decide) dX9_livingJudges_9 (by decide) (fun c_1 => ?_) (fun c_1 => absurd c_1 (by decide))
  refine lv_iload_n hx hb dX9_livingJudges_50 rfl (lv_at hl 1 rfl) ?_
  exact hx_reti hx hb hr hlk hW ⟨rfl, rfl⟩ dX9_livingJudges_51
end
section
theorem dX9_clock_0 : decode cX9_clock 0 = .ok (.iload_n 1, 1) := by decide +kernel
theorem dX9_clock_1 : decode cX9_clock 1 = .ok (.invokestatic 90, 3) := by decide +kernel
theorem dX9_clock_4 : decode cX9_clock 4 = .ok (.ifCond .eq 11, 3) := by decide +kernel
theorem dX9_clock_7 : decode cX9_clock 7 = .ok (.iload_n 1, 1) := by decide +kernel
theorem dX9_clock_8 : decode cX9_clock 8 = .ok (.aload_n 0, 1) := by decide +kernel
theorem dX9_clock_9 : decode cX9_clock 9 = .ok (.getfield 94, 3) := by decide +kernel
theorem dX9_clock_12 : decode cX9_clock 12 = .ok (.if_icmp .ge 5, 3) := by decide +kernel
theorem dX9_clock_15 : decode cX9_clock 15 = .ok (.iconst 0, 1) := by decide +kernel
theorem dX9_clock_16 : decode cX9_clock 16 = .ok (.ireturn, 1) := by decide +kernel
theorem dX9_clock_17 : decode cX9_clock 17 = .ok (.aload_n 0, 1) := by decide +kernel
theorem dX9_clock_18 : decode cX9_clock 18 = .ok (.iload_n 1, 1) := by decide +kernel
theorem dX9_clock_19 : decode cX9_clock 19 = .ok (.putfield 94, 3) := by decide +kernel
theorem dX9_clock_22 : decode cX9_clock 22 = .ok (.iconst 1, 1) := by decide +kernel
theorem dX9_clock_23 : decode cX9_clock 23 = .ok (.ireturn, 1) := by decide +kernel
set_option maxHeartbeats 4000000 in
set_option maxRecDepth 100000 in
theorem c_X9_clock (l : Launch) (dC : Nat → ClassId) (dI : Nat → Nat → Nat) (dA : Nat → ClassId) (L : List Nat) (h : hx_h) (sz : Nat) (x : Nat) (d : Int32) (gx : hx_g L h x 9) (f_x_2 : h.2.1 x 2 = 0) : Met l yX9_clock (Cond.code yX9_clock cX9_clock 2 (some .boolean) :: hx_all) ({ frames := 2, cells := 0, slots := 0, locals := 42 }) (va_Pc [.ref x, .int d] (hx_B P_tb (P_ty dA) (dC, dI) vwCl L h sz)) (va_Qi (fun (r : Int32) (u : List Nat × hx_h) => ((0 ≤ d.toInt ∧ d.toInt ≤ 7999) ∧ r = 1 ∨ ¬ (0 ≤ d.toInt ∧ d.toInt ≤ 7999) ∧ r = 0) ∧ hx_S P_tb [(9, 2)] L h u.1 u.2) (hx_E P_tb (P_ty dA) (dC, dI) vwCl (hx_A L sz)) (hx_A L sz)) 0 0 (hx_A L sz) := by
  refine hx_met (lv := [(0, .ref x), (1, .int d)]) (by decide +kernel) rfl (Nat.le_of_ble_eq_true rfl) rfl ?_
  intro p e s m below meth c hx hb hml hr hlk hts0 hown hin hsz hW ls hl
  have hts : ∀ w ∈ hx_all, w.before _ s = true := fun w hw => hts0 w (List.mem_cons_of_mem _ hw)
  have hown : s.vm.findClass "SmallCourt" = some m.cls := hown
  have hM : hx_S P_tb [(9, 2)] L h L h := hx_S.rf
  refine lv_iload_n hx hb dX9_clock_0 rfl (lv_at hl 1 rfl) ?_
  refine hx_goi (hx_runS (As := [.int d]) (rest := []) ⟨hx, hb, hml, hown, hts⟩ hW (c_X9_isDay l dC dI dA L h s.heap.size d) (va_cwS 1 hts (hx_gS kw_431 kw_429 kw_430 kw_94) rfl rfl rfl (by decide +kernel) ⟨Nat.le_of_ble_eq_true rfl, Nat.le_of_ble_eq_true rfl⟩) rfl hl.1 rfl (Nat.le_of_ble_eq_true rfl) dX9_clock_1 ⟨Nat.le_of_ble_eq_true rfl, Nat.le_of_ble_eq_true rfl⟩) hW (fun r_3 L_1 h_2 H locs p_4 hW => ?_)
  obtain ⟨p_4, eu⟩ := p_4
  cases eu
  rcases p_4 with ⟨kp_4, rfl⟩ | ⟨kp_4, rfl⟩
  · skip
    refine hb_if_eq (zx := 1) (tgt := 15) hx hb (by decide) dX9_clock_4 (by decide) (fun c_5 => absurd c_5 (by decide)) (fun c_5 => ?_)
    refine lv_iload_n hx hb dX9_clock_7 rfl (lv_at hl 1 rfl) ?_
    refine lv_aload_n hx hb dX9_clock_8 rfl (lv_at hl 0 rfl) ?_
    refine hk_geti hx hb hts hC_9 hown hW gx td_9 2 (by decide) rfl kw_366 ⟨rfl, rfl, rfl⟩ f_x_2 dX9_clock_9 ?_
    refine hb_icmp_ge (zx := d.toInt) (zy := 0) (tgt := 17) hx hb rfl (by decide) dX9_clock_12 (by decide) (fun c_6 => ?_) (fun c_6 => by exfalso; omega)
    refine lv_aload_n hx hb dX9_clock_17 rfl (lv_at hl 0 rfl) ?_
    refine lv_iload_n hx hb dX9_clock_18 rfl (lv_at hl 1 rfl) ?_
    refine hk_puti hx hb hts hC_9 hown hW gx td_9 2 (by decide) rfl kw_366 ⟨rfl, rfl, rfl⟩ rfl (x := d) rfl rfl rfl dX9_clock_19 (fun H locs h_7 eh_7 hW hs => ?_)
    have hM := hM.tr (hs.mono (by decide))
    have gx := gx.S hs
    have f_8 : h_7.2.1 x 2 = d := by rw [eh_7]; exact hx_pi_at _ _ _ _
    refine lv_iconst (v := 1) hx hb dX9_clock_22 (by decide) ?_
    exact hx_retz hx hb hr rfl hlk hW ⟨Or.inl ⟨by first | omega | decide, rfl⟩, hM⟩ dX9_clock_23
  · skip
    refine hb_if_eq (zx := 0) (tgt := 15) hx hb (by decide) dX9_clock_4 (by decide) (fun c_9 => ?_) (fun c_9 => absurd c_9 (by decide))
    refine lv_iconst (v := 0) hx hb dX9_clock_15 (by decide) ?_
    exact hx_retz hx hb hr rfl hlk hW ⟨Or.inr ⟨by first | omega | decide, rfl⟩, hM⟩ dX9_clock_16

theorem dX9_anew_0 : decode cX9_anew 0 = .ok (.aload_n 0, 1) := by decide +kernel
theorem dX9_anew_1 : decode cX9_anew 1 = .ok (.iload_n 1, 1) := by decide +kernel
theorem dX9_anew_2 : decode cX9_anew 2 = .ok (.invokevirtual 144, 3) := by decide +kernel
theorem dX9_anew_5 : decode cX9_anew 5 = .ok (.astore 6, 2) := by decide +kernel
theorem dX9_anew_7 : decode cX9_anew 7 = .ok (.aload 6, 2) := by decide +kernel
theorem dX9_anew_9 : decode cX9_anew 9 = .ok (.ifnull 23, 3) := by decide +kernel
theorem dX9_anew_32 : decode cX9_anew 32 = .ok (.iconst 0, 1) := by decide +kernel
theorem dX9_anew_33 : decode cX9_anew 33 = .ok (.ireturn, 1) := by decide +kernel
set_option maxHeartbeats 4000000 in
set_option maxRecDepth 100000 in
theorem c_X9_anew (l : Launch) (dC : Nat → ClassId) (dI : Nat → Nat → Nat) (dA : Nat → ClassId) (L : List Nat) (h : hx_h) (sz : Nat) (x : Nat) (i1 : Int32) (i2 : Int32) (i3 : Int32) (i4 : Int32) (i5 : Int32) (gx : hx_g L h x 9) (f_x_8 : h.2.1 x 8 = 0) : Met l yX9_anew (Cond.code yX9_anew cX9_anew 7 (some .boolean) :: hx_all) ({ frames := 1, cells := 0, slots := 0, locals := 21 }) (va_Pc [.ref x, .int i1, .int i2, .int i3, .int i4, .int i5] (hx_B P_tb (P_ty dA) (dC, dI) vwCl L h sz)) (va_Qi (fun (r : Int32) (u : List Nat × hx_h) => (r = 0) ∧ hx_S P_tb [] L h u.1 u.2) (hx_E P_tb (P_ty dA) (dC, dI) vwCl (hx_A L sz)) (hx_A L sz)) 0 0 (hx_A L sz) := by
  refine hx_met (lv := [(0, .ref x), (1, .int i1), (2, .int i2), (3, .int i3), (4, .int i4), (5, .int i5)]) (by decide +kernel) rfl (Nat.le_of_ble_eq_true rfl) rfl ?_
  intro p e s m below meth c hx hb hml hr hlk hts0 hown hin hsz hW ls hl
  have hts : ∀ w ∈ hx_all, w.before _ s = true := fun w hw => hts0 w (List.mem_cons_of_mem _ hw)
  have hown : s.vm.findClass "SmallCourt" = some m.cls := hown
  have hM : hx_S P_tb [] L h L h := hx_S.rf
  refine lv_aload_n hx hb dX9_anew_0 rfl (lv_at hl 0 rfl) ?_
  refine lv_iload_n hx hb dX9_anew_1 rfl (lv_at hl 1 rfl) ?_
  refine hx_goq (hx_runV (As := [.int i1]) (rest := []) ⟨hx, hb, hml, hown, hts⟩ hW gx td_9 (T := TX9) (N := 20) rfl (c_X9_personAt l dC dI dA L h s.heap.size x i1 gx f_x_8) (cwV 1 hts (hx_gV kw_659 kw_656 kw_658 kw_20 kw_94) rfl rfl rfl (by decide +kernel) ⟨Nat.le_of_ble_eq_true rfl, Nat.le_of_ble_eq_true rfl⟩) rfl hl.1 rfl (Nat.le_of_ble_eq_true rfl) dX9_anew_2 ⟨Nat.le_of_ble_eq_true rfl, Nat.le_of_ble_eq_true rfl⟩) hW (fun r_3 L_1 h_2 H locs p_4 hW => ?_)
  obtain ⟨rfl, eu⟩ := p_4
  cases eu
  refine lv_astoreN (lv' := [(6, .null), (0, .ref x), (1, .int i1), (2, .int i2), (3, .int i3), (4, .int i4), (5, .int i5)]) hx hb dX9_anew_5 hl (by decide) rfl (fun ls hl => ?_)
  refine lv_aloadN hx hb dX9_anew_7 (lv_at hl 0 rfl) ?_
  refine lv_ifnullN (tgt := 32) hx hb dX9_anew_9 (by decide) ?_
  refine lv_iconst (v := 0) hx hb dX9_anew_32 (by decide) ?_
  exact hx_retz hx hb hr rfl hlk hW ⟨rfl, hM⟩ dX9_anew_33

theorem dX9_dies_0 : decode cX9_dies 0 = .ok (.aload_n 0, 1) := by decide +kernel
theorem dX9_dies_1 : decode cX9_dies 1 = .ok (.iload_n 1, 1) := by decide +kernel
theorem dX9_dies_2 : decode cX9_dies 2 = .ok (.invokevirtual 144, 3) := by decide +kernel
theorem dX9_dies_5 : decode cX9_dies 5 = .ok (.astore_n 2, 1) := by decide +kernel
theorem dX9_dies_6 : decode cX9_dies 6 = .ok (.aload_n 2, 1) := by decide +kernel
theorem dX9_dies_7 : decode cX9_dies 7 = .ok (.ifnull 10, 3) := by decide +kernel
theorem dX9_dies_17 : decode cX9_dies 17 = .ok (.iconst 0, 1) := by decide +kernel
theorem dX9_dies_18 : decode cX9_dies 18 = .ok (.ireturn, 1) := by decide +kernel
set_option maxHeartbeats 4000000 in
set_option maxRecDepth 100000 in
theorem c_X9_dies (l : Launch) (dC : Nat → ClassId) (dI : Nat → Nat → Nat) (dA : Nat → ClassId) (L : List Nat) (h : hx_h) (sz : Nat) (x : Nat) (a : Int32) (gx : hx_g L h x 9) (f_x_8 : h.2.1 x 8 = 0) : Met l yX9_dies (Cond.code yX9_dies cX9_dies 3 (some .boolean) :: hx_all) ({ frames := 1, cells := 0, slots := 0, locals := 21 }) (va_Pc [.ref x, .int a] (hx_B P_tb (P_ty dA) (dC, dI) vwCl L h sz)) (va_Qi (fun (r : Int32) (u : List Nat × hx_h) => (r = 0) ∧ hx_S P_tb [] L h u.1 u.2) (hx_E P_tb (P_ty dA) (dC, dI) vwCl (hx_A L sz)) (hx_A L sz)) 0 0 (hx_A L sz) := by
  refine hx_met (lv := [(0, .ref x), (1, .int a)]) (by decide +kernel) rfl (Nat.le_of_ble_eq_true rfl) rfl ?_
  intro p e s m below meth c hx hb hml hr hlk hts0 hown hin hsz hW ls hl
  have hts : ∀ w ∈ hx_all, w.before _ s = true := fun w hw => hts0 w (List.mem_cons_of_mem _ hw)
  have hown : s.vm.findClass "SmallCourt" = some m.cls := hown
  have hM : hx_S P_tb [] L h L h := hx_S.rf
  refine lv_aload_n hx hb dX9_dies_0 rfl (lv_at hl 0 rfl) ?_
  refine lv_iload_n hx hb dX9_dies_1 rfl (lv_at hl 1 rfl) ?_
  refine hx_goq (hx_runV (As := [.int a]) (rest := []) ⟨hx, hb, hml, hown, hts⟩ hW gx td_9 (T := TX9) (N := 20) rfl (c_X9_personAt l dC dI dA L h s.heap.size x a gx f_x_8) (cwV 1 hts (hx_gV kw_659 kw_656 kw_658 kw_20 kw_94) rfl rfl rfl (by decide +kernel) ⟨Nat.le_of_ble_eq_true rfl, Nat.le_of_ble_eq_true rfl⟩) rfl hl.1 rfl (Nat.le_of_ble_eq_true rfl) dX9_dies_2 ⟨Nat.le_of_ble_eq_true rfl, Nat.le_of_ble_eq_true rfl⟩) hW (fun r_3 L_1 h_2 H locs p_4 hW => ?_)
  obtain ⟨rfl, eu⟩ := p_4
  cases eu
  refine lv_astore_nN (lv' := [(2, .null), (0, .ref x), (1, .int a)]) hx hb dX9_dies_5 rfl hl (by decide) rfl (fun ls hl => ?_)
  refine lv_aload_nN hx hb dX9_dies_6 rfl (lv_at hl 0 rfl) ?_
  refine lv_ifnullN (tgt := 17) hx hb dX9_dies_7 (by decide) ?_
  refine lv_iconst (v := 0) hx hb dX9_dies_17 (by decide) ?_
  exact hx_retz hx hb hr rfl hlk hW ⟨rfl, hM⟩ dX9_dies_18

theorem dX9_judge_0 : decode cX9_judge 0 = .ok (.aload_n 0, 1) := by decide +kernel
theorem dX9_judge_1 : decode cX9_judge 1 = .ok (.iload_n 1, 1) := by decide +kernel
theorem dX9_judge_2 : decode cX9_judge 2 = .ok (.invokevirtual 144, 3) := by decide +kernel
theorem dX9_judge_5 : decode cX9_judge 5 = .ok (.astore_n 3, 1) := by decide +kernel
theorem dX9_judge_6 : decode cX9_judge 6 = .ok (.aload_n 3, 1) := by decide +kernel
theorem dX9_judge_7 : decode cX9_judge 7 = .ok (.ifnull 11, 3) := by decide +kernel
theorem dX9_judge_18 : decode cX9_judge 18 = .ok (.iconst 0, 1) := by decide +kernel
theorem dX9_judge_19 : decode cX9_judge 19 = .ok (.ireturn, 1) := by decide +kernel
set_option maxHeartbeats 4000000 in
set_option maxRecDepth 100000 in
theorem c_X9_judge (l : Launch) (dC : Nat → ClassId) (dI : Nat → Nat → Nat) (dA : Nat → ClassId) (L : List Nat) (h : hx_h) (sz : Nat) (x : Nat) (a : Int32) (b : Int32) (gx : hx_g L h x 9) (f_x_8 : h.2.1 x 8 = 0) : Met l yX9_judge (Cond.code yX9_judge cX9_judge 4 (some .boolean) :: hx_all) ({ frames := 1, cells := 0, slots := 0, locals := 21 }) (va_Pc [.ref x, .int a, .int b] (hx_B P_tb (P_ty dA) (dC, dI) vwCl L h sz)) (va_Qi (fun (r : Int32) (u : List Nat × hx_h) => (r = 0) ∧ hx_S P_tb [] L h u.1 u.2) (hx_E P_tb (P_ty dA) (dC, dI) vwCl (hx_A L sz)) (hx_A L sz)) 0 0 (hx_A L sz) := by
  refine hx_met (lv := [(0, .ref x), (1, .int a), (2, .int b)]) (by decide +kernel) rfl (Nat.le_of_ble_eq_true rfl) rfl ?_
  intro p e s m below meth c hx hb hml hr hlk hts0 hown hin hsz hW ls hl
  have hts : ∀ w ∈ hx_all, w.before _ s = true := fun w hw => hts0 w (List.mem_cons_of_mem _ hw)
  have hown : s.vm.findClass "SmallCourt" = some m.cls := hown
  have hM : hx_S P_tb [] L h L h := hx_S.rf
  refine lv_aload_n hx hb dX9_judge_0 rfl (lv_at hl 0 rfl) ?_
  refine lv_iload_n hx hb dX9_judge_1 rfl (lv_at hl 1 rfl) ?_
  refine hx_goq (hx_runV (As := [.int a]) (rest := []) ⟨hx, hb, hml, hown, hts⟩ hW gx td_9 (T := TX9) (N := 20) rfl (c_X9_personAt l dC dI dA L h s.heap.size x a gx f_x_8) (cwV 1 hts (hx_gV kw_659 kw_656 kw_658 kw_20 kw_94) rfl rfl rfl (by decide +kernel) ⟨Nat.le_of_ble_eq_true rfl, Nat.le_of_ble_eq_true rfl⟩) rfl hl.1 rfl (Nat.le_of_ble_eq_true rfl) dX9_judge_2 ⟨Nat.le_of_ble_eq_true rfl, Nat.le_of_ble_eq_true rfl⟩) hW (fun r_3 L_1 h_2 H locs p_4 hW => ?_)
  obtain ⟨rfl, eu⟩ := p_4
  cases eu
  refine lv_astore_nN (lv' := [(3, .null), (0, .ref x), (1, .int a), (2, .int b)]) hx hb dX9_judge_5 rfl hl (by decide) rfl (fun ls hl => ?_)
  refine lv_aload_nN hx hb dX9_judge_6 rfl (lv_at hl 0 rfl) ?_
  refine lv_ifnullN (tgt := 18) hx hb dX9_judge_7 (by decide) ?_
  refine lv_iconst (v := 0) hx hb dX9_judge_18 (by decide) ?_
  exact hx_retz hx hb hr rfl hlk hW ⟨rfl, hM⟩ dX9_judge_19

theorem dX9_book_0 : decode cX9_book 0 = .ok (.aload_n 0, 1) := by decide +kernel
theorem dX9_book_1 : decode cX9_book 1 = .ok (.iload_n 1, 1) := by decide +kernel
theorem dX9_book_2 : decode cX9_book 2 = .ok (.iload_n 2, 1) := by decide +kernel
theorem dX9_book_3 : decode cX9_book 3 = .ok (.invokevirtual 161, 3) := by decide +kernel
theorem dX9_book_6 : decode cX9_book 6 = .ok (.ifCond .eq 10, 3) := by decide +kernel
theorem dX9_book_16 : decode cX9_book 16 = .ok (.ldc 169, 2) := by decide +kernel
theorem dX9_book_18 : decode cX9_book 18 = .ok (.ireturn, 1) := by decide +kernel
set_option maxHeartbeats 4000000 in
set_option maxRecDepth 100000 in
theorem c_X9_book (l : Launch) (dC : Nat → ClassId) (dI : Nat → Nat → Nat) (dA : Nat → ClassId) (L : List Nat) (h : hx_h) (sz : Nat) (x : Nat) (i1 : Int32) (i2 : Int32) (i3 : Int32) (i4 : Int32) (gx : hx_g L h x 9) (f_x_8 : h.2.1 x 8 = 0) : Met l yX9_book (Cond.code yX9_book cX9_book 5 (some .int) :: hx_all) ({ frames := 2, cells := 0, slots := 0, locals := 43 }) (va_Pc [.ref x, .int i1, .int i2, .int i3, .int i4] (hx_B P_tb (P_ty dA) (dC, dI) vwCl L h sz)) (va_Qi (fun (r : Int32) (u : List Nat × hx_h) => (r = -1000000) ∧ hx_S P_tb [] L h u.1 u.2) (hx_E P_tb (P_ty dA) (dC, dI) vwCl (hx_A L sz)) (hx_A L sz)) 0 0 (hx_A L sz) := by
  refine hx_met (lv := [(0, .ref x), (1, .int i1), (2, .int i2), (3, .int i3), (4, .int i4)]) (by decide +kernel) rfl (Nat.le_of_ble_eq_true rfl) rfl ?_
  intro p e s m below meth c hx hb hml hr hlk hts0 hown hin hsz hW ls hl
  have hts : ∀ w ∈ hx_all, w.before _ s = true := fun w hw => hts0 w (List.mem_cons_of_mem _ hw)
  have hown : s.vm.findClass "SmallCourt" = some m.cls := hown
  have hM : hx_S P_tb [] L h L h := hx_S.rf
  refine lv_aload_n hx hb dX9_book_0 rfl (lv_at hl 0 rfl) ?_
  refine lv_iload_n hx hb dX9_book_1 rfl (lv_at hl 1 rfl) ?_
  refine lv_iload_n hx hb dX9_book_2 rfl (lv_at hl 2 rfl) ?_
  refine hx_goi (hx_runV (As := [.int i1, .int i2]) (rest := []) ⟨hx, hb, hml, hown, hts⟩ hW gx td_9 (T := TX9) (N := 20) rfl (c_X9_areTwo l dC dI dA L h s.heap.size x i1 i2 gx f_x_8) (cwV 2 hts (hx_gV kw_675 kw_672 kw_674 kw_21 kw_94) rfl rfl rfl (by decide +kernel) ⟨Nat.le_of_ble_eq_true rfl, Nat.le_of_ble_eq_true rfl⟩) rfl hl.1 rfl (Nat.le_of_ble_eq_true rfl) dX9_book_3 ⟨Nat.le_of_ble_eq_true rfl, Nat.le_of_ble_eq_true rfl⟩) hW (fun r_3 L_1 h_2 H locs p_4 hW => ?_)
  obtain ⟨p_4, eu⟩ := p_4
  cases eu
  rcases p_4 with ⟨kp_4, rfl⟩ | ⟨kp_4, rfl⟩
  · exfalso
    omega
  · skip
    refine hb_if_eq (zx := 0) (tgt := 16) hx hb (by decide) dX9_book_6 (by decide) (fun c_5 => ?_) (fun c_5 => absurd c_5 (by decide))
    refine lv_ldc (v := -1000000) hx hb hown (hts _ kw_684) dX9_book_16 ?_
    exact hx_reti hx hb hr hlk hW ⟨rfl, hM⟩ dX9_book_18

theorem dX9_summons_0 : decode cX9_summons 0 = .ok (.aload_n 0, 1) := by decide +kernel
theorem dX9_summons_1 : decode cX9_summons 1 = .ok (.iload_n 1, 1) := by decide +kernel
theorem dX9_summons_2 : decode cX9_summons 2 = .ok (.invokevirtual 200, 3) := by decide +kernel
theorem dX9_summons_5 : decode cX9_summons 5 = .ok (.astore_n 3, 1) := by decide +kernel
theorem dX9_summons_6 : decode cX9_summons 6 = .ok (.aload_n 3, 1) := by decide +kernel
theorem dX9_summons_7 : decode cX9_summons 7 = .ok (.ifnull 11, 3) := by decide +kernel
theorem dX9_summons_18 : decode cX9_summons 18 = .ok (.iconst (-1), 1) := by decide +kernel
theorem dX9_summons_19 : decode cX9_summons 19 = .ok (.ireturn, 1) := by decide +kernel
set_option maxHeartbeats 4000000 in
set_option maxRecDepth 100000 in
theorem c_X9_summons (l : Launch) (dC : Nat → ClassId) (dI : Nat → Nat → Nat) (dA : Nat → ClassId) (L : List Nat) (h : hx_h) (sz : Nat) (x : Nat) (a : Int32) (b : Int32) (gx : hx_g L h x 9) (f_x_11 : h.2.1 x 11 = 0) : Met l yX9_summons (Cond.code yX9_summons cX9_summons 4 (some .int) :: hx_all) ({ frames := 1, cells := 0, slots := 0, locals := 21 }) (va_Pc [.ref x, .int a, .int b] (hx_B P_tb (P_ty dA) (dC, dI) vwCl L h sz)) (va_Qi (fun (r : Int32) (u : List Nat × hx_h) => (r = -1) ∧ hx_S P_tb [] L h u.1 u.2) (hx_E P_tb (P_ty dA) (dC, dI) vwCl (hx_A L sz)) (hx_A L sz)) 0 0 (hx_A L sz) := by
  refine hx_met (lv := [(0, .ref x), (1, .int a), (2, .int b)]) (by decide +kernel) rfl (Nat.le_of_ble_eq_true rfl) rfl ?_
  intro p e s m below meth c hx hb hml hr hlk hts0 hown hin hsz hW ls hl
  have hts : ∀ w ∈ hx_all, w.before _ s = true := fun w hw => hts0 w (List.mem_cons_of_mem _ hw)
  have hown : s.vm.findClass "SmallCourt" = some m.cls := hown
  have hM : hx_S P_tb [] L h L h := hx_S.rf
  refine lv_aload_n hx hb dX9_summons_0 rfl (lv_at hl 0 rfl) ?_
  refine lv_iload_n hx hb dX9_summons_1 rfl (lv_at hl 1 rfl) ?_
  refine hx_goq (hx_runV (As := [.int a]) (rest := []) ⟨hx, hb, hml, hown, hts⟩ hW gx td_9 (T := TX9) (N := 20) rfl (c_X9_claimAt l dC dI dA L h s.heap.size x a gx f_x_11) (cwV 1 hts (hx_gV kw_810 kw_807 kw_809 kw_25 kw_94) rfl rfl rfl (by decide +kernel) ⟨Nat.le_of_ble_eq_true rfl, Nat.le_of_ble_eq_true rfl⟩) rfl hl.1 rfl (Nat.le_of_ble_eq_true rfl) dX9_summons_2 ⟨Nat.le_of_ble_eq_true rfl, Nat.le_of_ble_eq_true rfl⟩) hW (fun r_3 L_1 h_2 H locs p_4 hW => ?_)
  obtain ⟨rfl, eu⟩ := p_4
  cases eu
  refine lv_astore_nN (lv' := [(3, .null), (0, .ref x), (1, .int a), (2, .int b)]) hx hb dX9_summons_5 rfl hl (by decide) rfl (fun ls hl => ?_)
  refine lv_aload_nN hx hb dX9_summons_6 rfl (lv_at hl 0 rfl) ?_
  refine lv_ifnullN (tgt := 18) hx hb dX9_summons_7 (by decide) ?_
  refine lv_iconst (v := -1) hx hb dX9_summons_18 (by decide) ?_
  exact hx_reti hx hb hr hlk hW ⟨rfl, hM⟩ dX9_summons_19

theorem dX9_hear_0 : decode cX9_hear 0 = .ok (.aload_n 0, 1) := by decide +kernel
theorem dX9_hear_1 : decode cX9_hear 1 = .ok (.iload_n 1, 1) := by decide +kernel
theorem dX9_hear_2 : decode cX9_hear 2 = .ok (.invokevirtual 200, 3) := by decide +kernel
theorem dX9_hear_5 : decode cX9_hear 5 = .ok (.astore 5, 2) := by decide +kernel
theorem dX9_hear_7 : decode cX9_hear 7 = .ok (.aload 5, 2) := by decide +kernel
theorem dX9_hear_9 : decode cX9_hear 9 = .ok (.ifnull 57, 3) := by decide +kernel
theorem dX9_hear_66 : decode cX9_hear 66 = .ok (.iconst (-1), 1) := by decide +kernel
theorem dX9_hear_67 : decode cX9_hear 67 = .ok (.ireturn, 1) := by decide +kernel
set_option maxHeartbeats 4000000 in
set_option maxRecDepth 100000 in
theorem c_X9_hear (l : Launch) (dC : Nat → ClassId) (dI : Nat → Nat → Nat) (dA : Nat → ClassId) (L : List Nat) (h : hx_h) (sz : Nat) (x : Nat) (i1 : Int32) (i2 : Int32) (i3 : Int32) (i4 : Int32) (gx : hx_g L h x 9) (f_x_11 : h.2.1 x 11 = 0) : Met l yX9_hear (Cond.code yX9_hear cX9_hear 8 (some .int) :: hx_all) ({ frames := 1, cells := 0, slots := 0, locals := 21 }) (va_Pc [.ref x, .int i1, .int i2, .int i3, .int i4] (hx_B P_tb (P_ty dA) (dC, dI) vwCl L h sz)) (va_Qi (fun (r : Int32) (u : List Nat × hx_h) => (r = -1) ∧ hx_S P_tb [] L h u.1 u.2) (hx_E P_tb (P_ty dA) (dC, dI) vwCl (hx_A L sz)) (hx_A L sz)) 0 0 (hx_A L sz) := by
  refine hx_met (lv := [(0, .ref x), (1, .int i1), (2, .int i2), (3, .int i3), (4, .int i4)]) (by decide +kernel) rfl (Nat.le_of_ble_eq_true rfl) rfl ?_
  intro p e s m below meth c hx hb hml hr hlk hts0 hown hin hsz hW ls hl
  have hts : ∀ w ∈ hx_all, w.before _ s = true := fun w hw => hts0 w (List.mem_cons_of_mem _ hw)
  have hown : s.vm.findClass "SmallCourt" = some m.cls := hown
  have hM : hx_S P_tb [] L h L h := hx_S.rf
  refine lv_aload_n hx hb dX9_hear_0 rfl (lv_at hl 0 rfl) ?_
  refine lv_iload_n hx hb dX9_hear_1 rfl (lv_at hl 1 rfl) ?_
  refine hx_goq (hx_runV (As := [.int i1]) (rest := []) ⟨hx, hb, hml, hown, hts⟩ hW gx td_9 (T := TX9) (N := 20) rfl (c_X9_claimAt l dC dI dA L h s.heap.size x i1 gx f_x_11) (cwV 1 hts (hx_gV kw_810 kw_807 kw_809 kw_25 kw_94) rfl rfl rfl (by decide +kernel) ⟨Nat.le_of_ble_eq_true rfl, Nat.le_of_ble_eq_true rfl⟩) rfl hl.1 rfl (Nat.le_of_ble_eq_true rfl) dX9_hear_2 ⟨Nat.le_of_ble_eq_true rfl, Nat.le_of_ble_eq_true rfl⟩) hW (fun r_3 L_1 h_2 H locs p_4 hW => ?_)
  obtain ⟨rfl, eu⟩ := p_4
  cases eu
  refine lv_astoreN (lv' := [(5, .null), (0, .ref x), (1, .int i1), (2, .int i2), (3, .int i3), (4, .int i4)]) hx hb dX9_hear_5 hl (by decide) rfl (fun ls hl => ?_)
  refine lv_aloadN hx hb dX9_hear_7 (lv_at hl 0 rfl) ?_
  refine lv_ifnullN (tgt := 66) hx hb dX9_hear_9 (by decide) ?_
  refine lv_iconst (v := -1) hx hb dX9_hear_66 (by decide) ?_
  exact hx_reti hx hb hr hlk hW ⟨rfl, hM⟩ dX9_hear_67

theorem dX9_order_0 : decode cX9_order 0 = .ok (.aload_n 0, 1) := by decide +kernel
theorem dX9_order_1 : decode cX9_order 1 = .ok (.iload_n 1, 1) := by decide +kernel
theorem dX9_order_2 : decode cX9_order 2 = .ok (.invokevirtual 200, 3) := by decide +kernel
theorem dX9_order_5 : decode cX9_order 5 = .ok (.astore_n 3, 1) := by decide +kernel
theorem dX9_order_6 : decode cX9_order 6 = .ok (.aload_n 3, 1) := by decide +kernel
theorem dX9_order_7 : decode cX9_order 7 = .ok (.ifnull 40, 3) := by decide +kernel
theorem dX9_order_47 : decode cX9_order 47 = .ok (.iconst (-1), 1) := by decide +kernel
theorem dX9_order_48 : decode cX9_order 48 = .ok (.ireturn, 1) := by decide +kernel
set_option maxHeartbeats 4000000 in
set_option maxRecDepth 100000 in
theorem c_X9_order (l : Launch) (dC : Nat → ClassId) (dI : Nat → Nat → Nat) (dA : Nat → ClassId) (L : List Nat) (h : hx_h) (sz : Nat) (x : Nat) (a : Int32) (b : Int32) (gx : hx_g L h x 9) (f_x_11 : h.2.1 x 11 = 0) : Met l yX9_order (Cond.code yX9_order cX9_order 5 (some .int) :: hx_all) ({ frames := 1, cells := 0, slots := 0, locals := 21 }) (va_Pc [.ref x, .int a, .int b] (hx_B P_tb (P_ty dA) (dC, dI) vwCl L h sz)) (va_Qi (fun (r : Int32) (u : List Nat × hx_h) => (r = -1) ∧ hx_S P_tb [] L h u.1 u.2) (hx_E P_tb (P_ty dA) (dC, dI) vwCl (hx_A L sz)) (hx_A L sz)) 0 0 (hx_A L sz) := by
  refine hx_met (lv := [(0, .ref x), (1, .int a), (2, .int b)]) (by decide +kernel) rfl (Nat.le_of_ble_eq_true rfl) rfl ?_
  intro p e s m below meth c hx hb hml hr hlk hts0 hown hin hsz hW ls hl
  have hts : ∀ w ∈ hx_all, w.before _ s = true := fun w hw => hts0 w (List.mem_cons_of_mem _ hw)
  have hown : s.vm.findClass "SmallCourt" = some m.cls := hown
  have hM : hx_S P_tb [] L h L h := hx_S.rf
  refine lv_aload_n hx hb dX9_order_0 rfl (lv_at hl 0 rfl) ?_
  refine lv_iload_n hx hb dX9_order_1 rfl (lv_at hl 1 rfl) ?_
  refine hx_goq (hx_runV (As := [.int a]) (rest := []) ⟨hx, hb, hml, hown, hts⟩ hW gx td_9 (T := TX9) (N := 20) rfl (c_X9_claimAt l dC dI dA L h s.heap.size x a gx f_x_11) (cwV 1 hts (hx_gV kw_810 kw_807 kw_809 kw_25 kw_94) rfl rfl rfl (by decide +kernel) ⟨Nat.le_of_ble_eq_true rfl, Nat.le_of_ble_eq_true rfl⟩) rfl hl.1 rfl (Nat.le_of_ble_eq_true rfl) dX9_order_2 ⟨Nat.le_of_ble_eq_true rfl, Nat.le_of_ble_eq_true rfl⟩) hW (fun r_3 L_1 h_2 H locs p_4 hW => ?_)
  obtain ⟨rfl, eu⟩ := p_4
  cases eu
  refine lv_astore_nN (lv' := [(3, .null), (0, .ref x), (1, .int a), (2, .int b)]) hx hb dX9_order_5 rfl hl (by decide) rfl (fun ls hl => ?_)
  refine lv_aload_nN hx hb dX9_order_6 rfl (lv_at hl 0 rfl) ?_
  refine lv_ifnullN (tgt := 47) hx hb dX9_order_7 (by decide) ?_
  refine lv_iconst (v := -1) hx hb dX9_order_47 (by decide) ?_
  exact hx_reti hx hb hr hlk hW ⟨rfl, hM⟩ dX9_order_48

theorem dX9_seize_0 : decode cX9_seize 0 = .ok (.aload_n 0, 1) := by decide +kernel
theorem dX9_seize_1 : decode cX9_seize 1 = .ok (.iload_n 1, 1) := by decide +kernel
theorem dX9_seize_2 : decode cX9_seize 2 = .ok (.invokevirtual 200, 3) := by decide +kernel
theorem dX9_seize_5 : decode cX9_seize 5 = .ok (.astore_n 3, 1) := by decide +kernel
theorem dX9_seize_6 : decode cX9_seize 6 = .ok (.aload_n 3, 1) := by decide +kernel
theorem dX9_seize_7 : decode cX9_seize 7 = .ok (.ifnull 22, 3) := by decide +kernel
theorem dX9_seize_29 : decode cX9_seize 29 = .ok (.ldc 169, 2) := by decide +kernel
theorem dX9_seize_31 : decode cX9_seize 31 = .ok (.ireturn, 1) := by decide +kernel
set_option maxHeartbeats 4000000 in
set_option maxRecDepth 100000 in
theorem c_X9_seize (l : Launch) (dC : Nat → ClassId) (dI : Nat → Nat → Nat) (dA : Nat → ClassId) (L : List Nat) (h : hx_h) (sz : Nat) (x : Nat) (a : Int32) (b : Int32) (gx : hx_g L h x 9) (f_x_11 : h.2.1 x 11 = 0) : Met l yX9_seize (Cond.code yX9_seize cX9_seize 5 (some .int) :: hx_all) ({ frames := 1, cells := 0, slots := 0, locals := 21 }) (va_Pc [.ref x, .int a, .int b] (hx_B P_tb (P_ty dA) (dC, dI) vwCl L h sz)) (va_Qi (fun (r : Int32) (u : List Nat × hx_h) => (r = -1000000) ∧ hx_S P_tb [] L h u.1 u.2) (hx_E P_tb (P_ty dA) (dC, dI) vwCl (hx_A L sz)) (hx_A L sz)) 0 0 (hx_A L sz) := by
  refine hx_met (lv := [(0, .ref x), (1, .int a), (2, .int b)]) (by decide +kernel) rfl (Nat.le_of_ble_eq_true rfl) rfl ?_
  intro p e s m below meth c hx hb hml hr hlk hts0 hown hin hsz hW ls hl
  have hts : ∀ w ∈ hx_all, w.before _ s = true := fun w hw => hts0 w (List.mem_cons_of_mem _ hw)
  have hown : s.vm.findClass "SmallCourt" = some m.cls := hown
  have hM : hx_S P_tb [] L h L h := hx_S.rf
  refine lv_aload_n hx hb dX9_seize_0 rfl (lv_at hl 0 rfl) ?_
  refine lv_iload_n hx hb dX9_seize_1 rfl (lv_at hl 1 rfl) ?_
  refine hx_goq (hx_runV (As := [.int a]) (rest := []) ⟨hx, hb, hml, hown, hts⟩ hW gx td_9 (T := TX9) (N := 20) rfl (c_X9_claimAt l dC dI dA L h s.heap.size x a gx f_x_11) (cwV 1 hts (hx_gV kw_810 kw_807 kw_809 kw_25 kw_94) rfl rfl rfl (by decide +kernel) ⟨Nat.le_of_ble_eq_true rfl, Nat.le_of_ble_eq_true rfl⟩) rfl hl.1 rfl (Nat.le_of_ble_eq_true rfl) dX9_seize_2 ⟨Nat.le_of_ble_eq_true rfl, Nat.le_of_ble_eq_true rfl⟩) hW (fun r_3 L_1 h_2 H locs p_4 hW => ?_)
  obtain ⟨rfl, eu⟩ := p_4
  cases eu
  refine lv_astore_nN (lv' := [(3, .null), (0, .ref x), (1, .int a), (2, .int b)]) hx hb dX9_seize_5 rfl hl (by decide) rfl (fun ls hl => ?_)
  refine lv_aload_nN hx hb dX9_seize_6 rfl (lv_at hl 0 rfl) ?_
  refine lv_ifnullN (tgt := 29) hx hb dX9_seize_7 (by decide) ?_
  refine lv_ldc (v := -1000000) hx hb hown (hts _ kw_684) dX9_seize_29 ?_
  exact hx_reti hx hb hr hlk hW ⟨rfl, hM⟩ dX9_seize_31

theorem dX9_gaol_0 : decode cX9_gaol 0 = .ok (.aload_n 0, 1) := by decide +kernel
theorem dX9_gaol_1 : decode cX9_gaol 1 = .ok (.iload_n 1, 1) := by decide +kernel
theorem dX9_gaol_2 : decode cX9_gaol 2 = .ok (.invokevirtual 200, 3) := by decide +kernel
theorem dX9_gaol_5 : decode cX9_gaol 5 = .ok (.astore_n 2, 1) := by decide +kernel
theorem dX9_gaol_6 : decode cX9_gaol 6 = .ok (.aload_n 2, 1) := by decide +kernel
theorem dX9_gaol_7 : decode cX9_gaol 7 = .ok (.ifnull 42, 3) := by decide +kernel
theorem dX9_gaol_49 : decode cX9_gaol 49 = .ok (.iconst (-1), 1) := by decide +kernel
theorem dX9_gaol_50 : decode cX9_gaol 50 = .ok (.ireturn, 1) := by decide +kernel
set_option maxHeartbeats 4000000 in
set_option maxRecDepth 100000 in
theorem c_X9_gaol (l : Launch) (dC : Nat → ClassId) (dI : Nat → Nat → Nat) (dA : Nat → ClassId) (L : List Nat) (h : hx_h) (sz : Nat) (x : Nat) (a : Int32) (gx : hx_g L h x 9) (f_x_11 : h.2.1 x 11 = 0) : Met l yX9_gaol (Cond.code yX9_gaol cX9_gaol 4 (some .int) :: hx_all) ({ frames := 1, cells := 0, slots := 0, locals := 21 }) (va_Pc [.ref x, .int a] (hx_B P_tb (P_ty dA) (dC, dI) vwCl L h sz)) (va_Qi (fun (r : Int32) (u : List Nat × hx_h) => (r = -1) ∧ hx_S P_tb [] L h u.1 u.2) (hx_E P_tb (P_ty dA) (dC, dI) vwCl (hx_A L sz)) (hx_A L sz)) 0 0 (hx_A L sz) := by
  refine hx_met (lv := [(0, .ref x), (1, .int a)]) (by decide +kernel) rfl (Nat.le_of_ble_eq_true rfl) rfl ?_
  intro p e s m below meth c hx hb hml hr hlk hts0 hown hin hsz hW ls hl
  have hts : ∀ w ∈ hx_all, w.before _ s = true := fun w hw => hts0 w (List.mem_cons_of_mem _ hw)
  have hown : s.vm.findClass "SmallCourt" = some m.cls := hown
  have hM : hx_S P_tb [] L h L h := hx_S.rf
  refine lv_aload_n hx hb dX9_gaol_0 rfl (lv_at hl 0 rfl) ?_
  refine lv_iload_n hx hb dX9_gaol_1 rfl (lv_at hl 1 rfl) ?_
  refine hx_goq (hx_runV (As := [.int a]) (rest := []) ⟨hx, hb, hml, hown, hts⟩ hW gx td_9 (T := TX9) (N := 20) rfl (c_X9_claimAt l dC dI dA L h s.heap.size x a gx f_x_11) (cwV 1 hts (hx_gV kw_810 kw_807 kw_809 kw_25 kw_94) rfl rfl rfl (by decide +kernel) ⟨Nat.le_of_ble_eq_true rfl, Nat.le_of_ble_eq_true rfl⟩) rfl hl.1 rfl (Nat.le_of_ble_eq_true rfl) dX9_gaol_2 ⟨Nat.le_of_ble_eq_true rfl, Nat.le_of_ble_eq_true rfl⟩) hW (fun r_3 L_1 h_2 H locs p_4 hW => ?_)
  obtain ⟨rfl, eu⟩ := p_4
  cases eu
  refine lv_astore_nN (lv' := [(2, .null), (0, .ref x), (1, .int a)]) hx hb dX9_gaol_5 rfl hl (by decide) rfl (fun ls hl => ?_)
  refine lv_aload_nN hx hb dX9_gaol_6 rfl (lv_at hl 0 rfl) ?_
  refine lv_ifnullN (tgt := 49) hx hb dX9_gaol_7 (by decide) ?_
  refine lv_iconst (v := -1) hx hb dX9_gaol_49 (by decide) ?_
  exact hx_reti hx hb hr hlk hW ⟨rfl, hM⟩ dX9_gaol_50

theorem dX9_claim_0 : decode cX9_claim 0 = .ok (.aload_n 0, 1) := by decide +kernel
theorem dX9_claim_1 : decode cX9_claim 1 = .ok (.iload_n 1, 1) := by decide +kernel
theorem dX9_claim_2 : decode cX9_claim 2 = .ok (.invokevirtual 200, 3) := by decide +kernel
theorem dX9_claim_5 : decode cX9_claim 5 = .ok (.astore_n 3, 1) := by decide +kernel
theorem dX9_claim_6 : decode cX9_claim 6 = .ok (.aload_n 3, 1) := by decide +kernel
theorem dX9_claim_7 : decode cX9_claim 7 = .ok (.ifnonnull 5, 3) := by decide +kernel
theorem dX9_claim_10 : decode cX9_claim 10 = .ok (.iconst (-1), 1) := by decide +kernel
theorem dX9_claim_11 : decode cX9_claim 11 = .ok (.ireturn, 1) := by decide +kernel
set_option maxHeartbeats 4000000 in
set_option maxRecDepth 100000 in
theorem c_X9_claim (l : Launch) (dC : Nat → ClassId) (dI : Nat → Nat → Nat) (dA : Nat → ClassId) (L : List Nat) (h : hx_h) (sz : Nat) (x : Nat) (a : Int32) (b : Int32) (gx : hx_g L h x 9) (f_x_11 : h.2.1 x 11 = 0) : Met l yX9_claim (Cond.code yX9_claim cX9_claim 4 (some .int) :: hx_all) ({ frames := 1, cells := 0, slots := 0, locals := 21 }) (va_Pc [.ref x, .int a, .int b] (hx_B P_tb (P_ty dA) (dC, dI) vwCl L h sz)) (va_Qi (fun (r : Int32) (u : List Nat × hx_h) => (r = -1) ∧ hx_S P_tb [] L h u.1 u.2) (hx_E P_tb (P_ty dA) (dC, dI) vwCl (hx_A L sz)) (hx_A L sz)) 0 0 (hx_A L sz) := by
  refine hx_met (lv := [(0, .ref x), (1, .int a), (2, .int b)]) (by decide +kernel) rfl (Nat.le_of_ble_eq_true rfl) rfl ?_
  intro p e s m below meth c hx hb hml hr hlk hts0 hown hin hsz hW ls hl
  have hts : ∀ w ∈ hx_all, w.before _ s = true := fun w hw => hts0 w (List.mem_cons_of_mem _ hw)
  have hown : s.vm.findClass "SmallCourt" = some m.cls := hown
  have hM : hx_S P_tb [] L h L h := hx_S.rf
  refine lv_aload_n hx hb dX9_claim_0 rfl (lv_at hl 0 rfl) ?_
  refine lv_iload_n hx hb dX9_claim_1 rfl (lv_at hl 1 rfl) ?_
  refine hx_goq (hx_runV (As := [.int a]) (rest := []) ⟨hx, hb, hml, hown, hts⟩ hW gx td_9 (T := TX9) (N := 20) rfl (c_X9_claimAt l dC dI dA L h s.heap.size x a gx f_x_11) (cwV 1 hts (hx_gV kw_810 kw_807 kw_809 kw_25 kw_94) rfl rfl rfl (by decide +kernel) ⟨Nat.le_of_ble_eq_true rfl, Nat.le_of_ble_eq_true rfl⟩) rfl hl.1 rfl (Nat.le_of_ble_eq_true rfl) dX9_claim_2 ⟨Nat.le_of_ble_eq_true rfl, Nat.le_of_ble_eq_true rfl⟩) hW (fun r_3 L_1 h_2 H locs p_4 hW => ?_)
  obtain ⟨rfl, eu⟩ := p_4
  cases eu
  refine lv_astore_nN (lv' := [(3, .null), (0, .ref x), (1, .int a), (2, .int b)]) hx hb dX9_claim_5 rfl hl (by decide) rfl (fun ls hl => ?_)
  refine lv_aload_nN hx hb dX9_claim_6 rfl (lv_at hl 0 rfl) ?_
  refine lv_ifnonnullN hx hb dX9_claim_7 ?_
  refine lv_iconst (v := -1) hx hb dX9_claim_10 (by decide) ?_
  exact hx_reti hx hb hr hlk hW ⟨rfl, hM⟩ dX9_claim_11

theorem dX9_state_0 : decode cX9_state 0 = .ok (.aload_n 0, 1) := by decide +kernel
theorem dX9_state_1 : decode cX9_state 1 = .ok (.iload_n 1, 1) := by decide +kernel
theorem dX9_state_2 : decode cX9_state 2 = .ok (.invokevirtual 200, 3) := by decide +kernel
theorem dX9_state_5 : decode cX9_state 5 = .ok (.astore 5, 2) := by decide +kernel
theorem dX9_state_7 : decode cX9_state 7 = .ok (.aload 5, 2) := by decide +kernel
theorem dX9_state_9 : decode cX9_state 9 = .ok (.ifnull 33, 3) := by decide +kernel
theorem dX9_state_42 : decode cX9_state 42 = .ok (.iconst (-1), 1) := by decide +kernel
theorem dX9_state_43 : decode cX9_state 43 = .ok (.ireturn, 1) := by decide +kernel
set_option maxHeartbeats 4000000 in
set_option maxRecDepth 100000 in
theorem c_X9_state (l : Launch) (dC : Nat → ClassId) (dI : Nat → Nat → Nat) (dA : Nat → ClassId) (L : List Nat) (h : hx_h) (sz : Nat) (x : Nat) (i1 : Int32) (i2 : Int32) (i3 : Int32) (i4 : Int32) (gx : hx_g L h x 9) (f_x_11 : h.2.1 x 11 = 0) : Met l yX9_state (Cond.code yX9_state cX9_state 6 (some .int) :: hx_all) ({ frames := 1, cells := 0, slots := 0, locals := 21 }) (va_Pc [.ref x, .int i1, .int i2, .int i3, .int i4] (hx_B P_tb (P_ty dA) (dC, dI) vwCl L h sz)) (va_Qi (fun (r : Int32) (u : List Nat × hx_h) => (r = -1) ∧ hx_S P_tb [] L h u.1 u.2) (hx_E P_tb (P_ty dA) (dC, dI) vwCl (hx_A L sz)) (hx_A L sz)) 0 0 (hx_A L sz) := by
  refine hx_met (lv := [(0, .ref x), (1, .int i1), (2, .int i2), (3, .int i3), (4, .int i4)]) (by decide +kernel) rfl (Nat.le_of_ble_eq_true rfl) rfl ?_
  intro p e s m below meth c hx hb hml hr hlk hts0 hown hin hsz hW ls hl
  have hts : ∀ w ∈ hx_all, w.before _ s = true := fun w hw => hts0 w (List.mem_cons_of_mem _ hw)
  have hown : s.vm.findClass "SmallCourt" = some m.cls := hown
  have hM : hx_S P_tb [] L h L h := hx_S.rf
  refine lv_aload_n hx hb dX9_state_0 rfl (lv_at hl 0 rfl) ?_
  refine lv_iload_n hx hb dX9_state_1 rfl (lv_at hl 1 rfl) ?_
  refine hx_goq (hx_runV (As := [.int i1]) (rest := []) ⟨hx, hb, hml, hown, hts⟩ hW gx td_9 (T := TX9) (N := 20) rfl (c_X9_claimAt l dC dI dA L h s.heap.size x i1 gx f_x_11) (cwV 1 hts (hx_gV kw_810 kw_807 kw_809 kw_25 kw_94) rfl rfl rfl (by decide +kernel) ⟨Nat.le_of_ble_eq_true rfl, Nat.le_of_ble_eq_true rfl⟩) rfl hl.1 rfl (Nat.le_of_ble_eq_true rfl) dX9_state_2 ⟨Nat.le_of_ble_eq_true rfl, Nat.le_of_ble_eq_true rfl⟩) hW (fun r_3 L_1 h_2 H locs p_4 hW => ?_)
  obtain ⟨rfl, eu⟩ := p_4
  cases eu
  refine lv_astoreN (lv' := [(5, .null), (0, .ref x), (1, .int i1), (2, .int i2), (3, .int i3), (4, .int i4)]) hx hb dX9_state_5 hl (by decide) rfl (fun ls hl => ?_)
  refine lv_aloadN hx hb dX9_state_7 (lv_at hl 0 rfl) ?_
  refine lv_ifnullN (tgt := 42) hx hb dX9_state_9 (by decide) ?_
  refine lv_iconst (v := -1) hx hb dX9_state_42 (by decide) ?_
  exact hx_reti hx hb hr hlk hW ⟨rfl, hM⟩ dX9_state_43

theorem dX9_plan_0 : decode cX9_plan 0 = .ok (.aload_n 0, 1) := by decide +kernel
theorem dX9_plan_1 : decode cX9_plan 1 = .ok (.iload_n 1, 1) := by decide +kernel
theorem dX9_plan_2 : decode cX9_plan 2 = .ok (.invokevirtual 144, 3) := by decide +kernel
theorem dX9_plan_5 : decode cX9_plan 5 = .ok (.astore_n 3, 1) := by decide +kernel
theorem dX9_plan_6 : decode cX9_plan 6 = .ok (.aload_n 3, 1) := by decide +kernel
theorem dX9_plan_7 : decode cX9_plan 7 = .ok (.ifnull 13, 3) := by decide +kernel
theorem dX9_plan_20 : decode cX9_plan 20 = .ok (.iconst (-1), 1) := by decide +kernel
theorem dX9_plan_21 : decode cX9_plan 21 = .ok (.ireturn, 1) := by decide +kernel
set_option maxHeartbeats 4000000 in
set_option maxRecDepth 100000 in
theorem c_X9_plan (l : Launch) (dC : Nat → ClassId) (dI : Nat → Nat → Nat) (dA : Nat → ClassId) (L : List Nat) (h : hx_h) (sz : Nat) (x : Nat) (a : Int32) (b : Int32) (gx : hx_g L h x 9) (f_x_8 : h.2.1 x 8 = 0) : Met l yX9_plan (Cond.code yX9_plan cX9_plan 6 (some .int) :: hx_all) ({ frames := 1, cells := 0, slots := 0, locals := 21 }) (va_Pc [.ref x, .int a, .int b] (hx_B P_tb (P_ty dA) (dC, dI) vwCl L h sz)) (va_Qi (fun (r : Int32) (u : List Nat × hx_h) => (r = -1) ∧ hx_S P_tb [] L h u.1 u.2) (hx_E P_tb (P_ty dA) (dC, dI) vwCl (hx_A L sz)) (hx_A L sz)) 0 0 (hx_A L sz) := by
  refine hx_met (lv := [(0, .ref x), (1, .int a), (2, .int b)]) (by decide +kernel) rfl (Nat.le_of_ble_eq_true rfl) rfl ?_
  intro p e s m below meth c hx hb hml hr hlk hts0 hown hin hsz hW ls hl
  have hts : ∀ w ∈ hx_all, w.before _ s = true := fun w hw => hts0 w (List.mem_cons_of_mem _ hw)
  have hown : s.vm.findClass "SmallCourt" = some m.cls := hown
  have hM : hx_S P_tb [] L h L h := hx_S.rf
  refine lv_aload_n hx hb dX9_plan_0 rfl (lv_at hl 0 rfl) ?_
  refine lv_iload_n hx hb dX9_plan_1 rfl (lv_at hl 1 rfl) ?_
  refine hx_goq (hx_runV (As := [.int a]) (rest := []) ⟨hx, hb, hml, hown, hts⟩ hW gx td_9 (T := TX9) (N := 20) rfl (c_X9_personAt l dC dI dA L h s.heap.size x a gx f_x_8) (cwV 1 hts (hx_gV kw_659 kw_656 kw_658 kw_20 kw_94) rfl rfl rfl (by decide +kernel) ⟨Nat.le_of_ble_eq_true rfl, Nat.le_of_ble_eq_true rfl⟩) rfl hl.1 rfl (Nat.le_of_ble_eq_true rfl) dX9_plan_2 ⟨Nat.le_of_ble_eq_true rfl, Nat.le_of_ble_eq_true rfl⟩) hW (fun r_3 L_1 h_2 H locs p_4 hW => ?_)
  obtain ⟨rfl, eu⟩ := p_4
  cases eu
  refine lv_astore_nN (lv' := [(3, .null), (0, .ref x), (1, .int a), (2, .int b)]) hx hb dX9_plan_5 rfl hl (by decide) rfl (fun ls hl => ?_)
  refine lv_aload_nN hx hb dX9_plan_6 rfl (lv_at hl 0 rfl) ?_
  refine lv_ifnullN (tgt := 20) hx hb dX9_plan_7 (by decide) ?_
  refine lv_iconst (v := -1) hx hb dX9_plan_20 (by decide) ?_
  exact hx_reti hx hb hr hlk hW ⟨rfl, hM⟩ dX9_plan_21

theorem dX9_list_0 : decode cX9_list 0 = .ok (.aload_n 0, 1) := by decide +kernel
theorem dX9_list_1 : decode cX9_list 1 = .ok (.iload_n 1, 1) := by decide +kernel
theorem dX9_list_2 : decode cX9_list 2 = .ok (.invokevirtual 200, 3) := by decide +kernel
theorem dX9_list_5 : decode cX9_list 5 = .ok (.astore_n 2, 1) := by decide +kernel
theorem dX9_list_6 : decode cX9_list 6 = .ok (.aload_n 2, 1) := by decide +kernel
theorem dX9_list_7 : decode cX9_list 7 = .ok (.ifnull 34, 3) := by decide +kernel
theorem dX9_list_41 : decode cX9_list 41 = .ok (.iconst (-1), 1) := by decide +kernel
theorem dX9_list_42 : decode cX9_list 42 = .ok (.ireturn, 1) := by decide +kernel
set_option maxHeartbeats 4000000 in
set_option maxRecDepth 100000 in
theorem c_X9_list (l : Launch) (dC : Nat → ClassId) (dI : Nat → Nat → Nat) (dA : Nat → ClassId) (L : List Nat) (h : hx_h) (sz : Nat) (x : Nat) (a : Int32) (gx : hx_g L h x 9) (f_x_11 : h.2.1 x 11 = 0) : Met l yX9_list (Cond.code yX9_list cX9_list 3 (some .int) :: hx_all) ({ frames := 1, cells := 0, slots := 0, locals := 21 }) (va_Pc [.ref x, .int a] (hx_B P_tb (P_ty dA) (dC, dI) vwCl L h sz)) (va_Qi (fun (r : Int32) (u : List Nat × hx_h) => (r = -1) ∧ hx_S P_tb [] L h u.1 u.2) (hx_E P_tb (P_ty dA) (dC, dI) vwCl (hx_A L sz)) (hx_A L sz)) 0 0 (hx_A L sz) := by
  refine hx_met (lv := [(0, .ref x), (1, .int a)]) (by decide +kernel) rfl (Nat.le_of_ble_eq_true rfl) rfl ?_
  intro p e s m below meth c hx hb hml hr hlk hts0 hown hin hsz hW ls hl
  have hts : ∀ w ∈ hx_all, w.before _ s = true := fun w hw => hts0 w (List.mem_cons_of_mem _ hw)
  have hown : s.vm.findClass "SmallCourt" = some m.cls := hown
  have hM : hx_S P_tb [] L h L h := hx_S.rf
  refine lv_aload_n hx hb dX9_list_0 rfl (lv_at hl 0 rfl) ?_
  refine lv_iload_n hx hb dX9_list_1 rfl (lv_at hl 1 rfl) ?_
  refine hx_goq (hx_runV (As := [.int a]) (rest := []) ⟨hx, hb, hml, hown, hts⟩ hW gx td_9 (T := TX9) (N := 20) rfl (c_X9_claimAt l dC dI dA L h s.heap.size x a gx f_x_11) (cwV 1 hts (hx_gV kw_810 kw_807 kw_809 kw_25 kw_94) rfl rfl rfl (by decide +kernel) ⟨Nat.le_of_ble_eq_true rfl, Nat.le_of_ble_eq_true rfl⟩) rfl hl.1 rfl (Nat.le_of_ble_eq_true rfl) dX9_list_2 ⟨Nat.le_of_ble_eq_true rfl, Nat.le_of_ble_eq_true rfl⟩) hW (fun r_3 L_1 h_2 H locs p_4 hW => ?_)
  obtain ⟨rfl, eu⟩ := p_4
  cases eu
  refine lv_astore_nN (lv' := [(2, .null), (0, .ref x), (1, .int a)]) hx hb dX9_list_5 rfl hl (by decide) rfl (fun ls hl => ?_)
  refine lv_aload_nN hx hb dX9_list_6 rfl (lv_at hl 0 rfl) ?_
  refine lv_ifnullN (tgt := 41) hx hb dX9_list_7 (by decide) ?_
  refine lv_iconst (v := -1) hx hb dX9_list_41 (by decide) ?_
  exact hx_reti hx hb hr hlk hW ⟨rfl, hM⟩ dX9_list_42

theorem dX9_habit_0 : decode cX9_habit 0 = .ok (.aload_n 0, 1) := by decide +kernel
theorem dX9_habit_1 : decode cX9_habit 1 = .ok (.iload_n 1, 1) := by decide +kernel
theorem dX9_habit_2 : decode cX9_habit 2 = .ok (.invokevirtual 144, 3) := by decide +kernel
theorem dX9_habit_5 : decode cX9_habit 5 = .ok (.astore_n 3, 1) := by decide +kernel
theorem dX9_habit_6 : decode cX9_habit 6 = .ok (.aload_n 3, 1) := by decide +kernel
theorem dX9_habit_7 : decode cX9_habit 7 = .ok (.ifnull 10, 3) := by decide +kernel
theorem dX9_habit_17 : decode cX9_habit 17 = .ok (.iconst (-1), 1) := by decide +kernel
theorem dX9_habit_18 : decode cX9_habit 18 = .ok (.ireturn, 1) := by decide +kernel
set_option maxHeartbeats 4000000 in
set_option maxRecDepth 100000 in
theorem c_X9_habit (l : Launch) (dC : Nat → ClassId) (dI : Nat → Nat → Nat) (dA : Nat → ClassId) (L : List Nat) (h : hx_h) (sz : Nat) (x : Nat) (a : Int32) (b : Int32) (gx : hx_g L h x 9) (f_x_8 : h.2.1 x 8 = 0) : Met l yX9_habit (Cond.code yX9_habit cX9_habit 7 (some .int) :: hx_all) ({ frames := 1, cells := 0, slots := 0, locals := 21 }) (va_Pc [.ref x, .int a, .int b] (hx_B P_tb (P_ty dA) (dC, dI) vwCl L h sz)) (va_Qi (fun (r : Int32) (u : List Nat × hx_h) => (r = -1) ∧ hx_S P_tb [] L h u.1 u.2) (hx_E P_tb (P_ty dA) (dC, dI) vwCl (hx_A L sz)) (hx_A L sz)) 0 0 (hx_A L sz) := by
  refine hx_met (lv := [(0, .ref x), (1, .int a), (2, .int b)]) (by decide +kernel) rfl (Nat.le_of_ble_eq_true rfl) rfl ?_
  intro p e s m below meth c hx hb hml hr hlk hts0 hown hin hsz hW ls hl
  have hts : ∀ w ∈ hx_all, w.before _ s = true := fun w hw => hts0 w (List.mem_cons_of_mem _ hw)
  have hown : s.vm.findClass "SmallCourt" = some m.cls := hown
  have hM : hx_S P_tb [] L h L h := hx_S.rf
  refine lv_aload_n hx hb dX9_habit_0 rfl (lv_at hl 0 rfl) ?_
  refine lv_iload_n hx hb dX9_habit_1 rfl (lv_at hl 1 rfl) ?_
  refine hx_goq (hx_runV (As := [.int a]) (rest := []) ⟨hx, hb, hml, hown, hts⟩ hW gx td_9 (T := TX9) (N := 20) rfl (c_X9_personAt l dC dI dA L h s.heap.size x a gx f_x_8) (cwV 1 hts (hx_gV kw_659 kw_656 kw_658 kw_20 kw_94) rfl rfl rfl (by decide +kernel) ⟨Nat.le_of_ble_eq_true rfl, Nat.le_of_ble_eq_true rfl⟩) rfl hl.1 rfl (Nat.le_of_ble_eq_true rfl) dX9_habit_2 ⟨Nat.le_of_ble_eq_true rfl, Nat.le_of_ble_eq_true rfl⟩) hW (fun r_3 L_1 h_2 H locs p_4 hW => ?_)
  obtain ⟨rfl, eu⟩ := p_4
  cases eu
  refine lv_astore_nN (lv' := [(3, .null), (0, .ref x), (1, .int a), (2, .int b)]) hx hb dX9_habit_5 rfl hl (by decide) rfl (fun ls hl => ?_)
  refine lv_aload_nN hx hb dX9_habit_6 rfl (lv_at hl 0 rfl) ?_
  refine lv_ifnullN (tgt := 17) hx hb dX9_habit_7 (by decide) ?_
  refine lv_iconst (v := -1) hx hb dX9_habit_17 (by decide) ?_
  exact hx_reti hx hb hr hlk hW ⟨rfl, hM⟩ dX9_habit_18

theorem dX9_end_0 : decode cX9_end 0 = .ok (.iload_n 1, 1) := by decide +kernel
theorem dX9_end_1 : decode cX9_end 1 = .ok (.ifCond .lt 11, 3) := by decide +kernel
theorem dX9_end_4 : decode cX9_end 4 = .ok (.iload_n 1, 1) := by decide +kernel
theorem dX9_end_5 : decode cX9_end 5 = .ok (.aload_n 0, 1) := by decide +kernel
theorem dX9_end_6 : decode cX9_end 6 = .ok (.getfield 98, 3) := by decide +kernel
theorem dX9_end_9 : decode cX9_end 9 = .ok (.if_icmp .le 5, 3) := by decide +kernel
theorem dX9_end_12 : decode cX9_end 12 = .ok (.iconst (-1), 1) := by decide +kernel
theorem dX9_end_13 : decode cX9_end 13 = .ok (.ireturn, 1) := by decide +kernel
theorem dX9_end_14 : decode cX9_end 14 = .ok (.aload_n 0, 1) := by decide +kernel
theorem dX9_end_15 : decode cX9_end 15 = .ok (.iload_n 1, 1) := by decide +kernel
theorem dX9_end_16 : decode cX9_end 16 = .ok (.putfield 98, 3) := by decide +kernel
theorem dX9_end_19 : decode cX9_end 19 = .ok (.iload_n 1, 1) := by decide +kernel
theorem dX9_end_20 : decode cX9_end 20 = .ok (.ireturn, 1) := by decide +kernel
set_option maxHeartbeats 4000000 in
set_option maxRecDepth 100000 in
theorem c_X9_end (l : Launch) (dC : Nat → ClassId) (dI : Nat → Nat → Nat) (dA : Nat → ClassId) (L : List Nat) (h : hx_h) (sz : Nat) (x : Nat) (n : Int32) (gx : hx_g L h x 9) (f_x_1 : h.2.1 x 1 = 0) : Met l yX9_end (Cond.code yX9_end cX9_end 2 (some .int) :: hx_all) ({ frames := 0, cells := 0, slots := 0, locals := 0 }) (va_Pc [.ref x, .int n] (hx_B P_tb (P_ty dA) (dC, dI) vwCl L h sz)) (va_Qi (fun (r : Int32) (u : List Nat × hx_h) => ((n.toInt = 0) ∧ r = 0 ∨ ¬ (n.toInt = 0) ∧ r = -1) ∧ hx_S P_tb [(9, 1)] L h u.1 u.2) (hx_E P_tb (P_ty dA) (dC, dI) vwCl (hx_A L sz)) (hx_A L sz)) 0 0 (hx_A L sz) := by
  refine hx_met (lv := [(0, .ref x), (1, .int n)]) (by decide +kernel) rfl (Nat.le_of_ble_eq_true rfl) rfl ?_
  intro p e s m below meth c hx hb hml hr hlk hts0 hown hin hsz hW ls hl
  have hts : ∀ w ∈ hx_all, w.before _ s = true := fun w hw => hts0 w (List.mem_cons_of_mem _ hw)
  have hown : s.vm.findClass "SmallCourt" = some m.cls := hown
  have hM : hx_S P_tb [(9, 1)] L h L h := hx_S.rf
  refine lv_iload_n hx hb dX9_end_0 rfl (lv_at hl 1 rfl) ?_
  refine hb_if_lt (zx := n.toInt) (tgt := 12) hx hb rfl dX9_end_1 (by decide) (fun c_1 => ?_) (fun c_1 => ?_)
  · skip
    refine lv_iconst (v := -1) hx hb dX9_end_12 (by decide) ?_
    exact hx_reti hx hb hr hlk hW ⟨Or.inr ⟨by first | omega | decide, rfl⟩, hM⟩ dX9_end_13
  · skip
    refine lv_iload_n hx hb dX9_end_4 rfl (lv_at hl 1 rfl) ?_
    refine lv_aload_n hx hb dX9_end_5 rfl (lv_at hl 0 rfl) ?_
    refine hk_geti hx hb hts hC_9 hown hW gx td_9 1 (by decide) rfl kw_365 ⟨rfl, rfl, rfl⟩ f_x_1 dX9_end_6 ?_
    refine hb_icmp_le (zx := n.toInt) (zy := 0) (tgt := 14) hx hb rfl (by decide) dX9_end_9 (by decide) (fun c_2 => ?_) (fun c_2 => ?_)
    · skip
      refine lv_aload_n hx hb dX9_end_14 rfl (lv_at hl 0 rfl) ?_
      refine lv_iload_n hx hb dX9_end_15 rfl (lv_at hl 1 rfl) ?_
      refine hk_puti hx hb hts hC_9 hown hW gx td_9 1 (by decide) rfl kw_365 ⟨rfl, rfl, rfl⟩ rfl (x := n) rfl rfl rfl dX9_end_16 (fun H locs h_3 eh_3 hW hs => ?_)
      have hM := hM.tr (hs.mono (by decide))
      have gx := gx.S hs
      have f_4 : h_3.2.1 x 1 = n := by rw [eh_3]; exact hx_pi_at _ _ _ _
      refine lv_iload_n hx hb dX9_end_19 rfl (lv_at hl 1 rfl) ?_
      exact hx_reti hx hb hr hlk hW ⟨Or.inl ⟨by omega, Int32.toInt_inj.mp (by rw [show (0 : Int32).toInt = 0 from by decide]; omega)⟩, hM⟩ dX9_end_20
    · skip
      refine lv_iconst (v := -1) hx hb dX9_end_12 (by decide) ?_
      exact hx_reti hx hb hr hlk hW ⟨Or.inr ⟨by first | omega | decide, rfl⟩, hM⟩ dX9_end_13

theorem dX9_line_0 : decode cX9_line 0 = .ok (.aload_n 0, 1) := by decide +kernel
theorem dX9_line_1 : decode cX9_line 1 = .ok (.getfield 42, 3) := by decide +kernel
theorem dX9_line_4 : decode cX9_line 4 = .ok (.getfield 158, 3) := by decide +kernel
theorem dX9_line_7 : decode cX9_line 7 = .ok (.sipush 400, 3) := by decide +kernel
theorem dX9_line_10 : decode cX9_line 10 = .ok (.if_icmp .ge 46, 3) := by decide +kernel
theorem dX9_line_13 : decode cX9_line 13 = .ok (.aload_n 0, 1) := by decide +kernel
theorem dX9_line_14 : decode cX9_line 14 = .ok (.iload_n 1, 1) := by decide +kernel
theorem dX9_line_15 : decode cX9_line 15 = .ok (.iload_n 2, 1) := by decide +kernel
theorem dX9_line_16 : decode cX9_line 16 = .ok (.invokevirtual 161, 3) := by decide +kernel
theorem dX9_line_19 : decode cX9_line 19 = .ok (.ifCond .eq 37, 3) := by decide +kernel
theorem dX9_line_56 : decode cX9_line 56 = .ok (.iconst (-1), 1) := by decide +kernel
theorem dX9_line_57 : decode cX9_line 57 = .ok (.ireturn, 1) := by decide +kernel
set_option maxHeartbeats 4000000 in
set_option maxRecDepth 100000 in
theorem c_X9_line (l : Launch) (dC : Nat → ClassId) (dI : Nat → Nat → Nat) (dA : Nat → ClassId) (L : List Nat) (h : hx_h) (sz : Nat) (x : Nat) (i1 : Int32) (i2 : Int32) (i3 : Int32) (i4 : Int32) (i5 : Int32) (gx : hx_g L h x 9) (qb : Nat) (gqb : hx_g L h qb 1) (f_x_9 : h.2.2 x 9 = some qb) (f_qb_0 : h.2.1 qb 0 = 0) (f_x_8 : h.2.1 x 8 = 0) (f_x_2 : h.2.1 x 2 = 0) : Met l yX9_line (Cond.code yX9_line cX9_line 6 (some .int) :: hx_all) ({ frames := 2, cells := 0, slots := 0, locals := 43 }) (va_Pc [.ref x, .int i1, .int i2, .int i3, .int i4, .int i5] (hx_B P_tb (P_ty dA) (dC, dI) vwCl L h sz)) (va_Qi (fun (r : Int32) (u : List Nat × hx_h) => (r = -1) ∧ hx_S P_tb [] L h u.1 u.2) (hx_E P_tb (P_ty dA) (dC, dI) vwCl (hx_A L sz)) (hx_A L sz)) 0 0 (hx_A L sz) := by
  refine hx_met (lv := [(0, .ref x), (1, .int i1), (2, .int i2), (3, .int i3), (4, .int i4), (5, .int i5)]) (by decide +kernel) rfl (Nat.le_of_ble_eq_true rfl) rfl ?_
  intro p e s m below meth c hx hb hml hr hlk hts0 hown hin hsz hW ls hl
  have hts : ∀ w ∈ hx_all, w.before _ s = true := fun w hw => hts0 w (List.mem_cons_of_mem _ hw)
  have hown : s.vm.findClass "SmallCourt" = some m.cls := hown
  have hM : hx_S P_tb [] L h L h := hx_S.rf
  refine lv_aload_n hx hb dX9_line_0 rfl (lv_at hl 0 rfl) ?_
  refine hk_getr hx hb hts hC_9 hown hW gx td_9 9 (by decide) rfl kw_373 ⟨rfl, rfl, rfl⟩ f_x_9 dX9_line_1 ?_
  refine hk_geti hx hb hts hC_1 hown hW gqb td_1 0 (by decide) rfl kw_197 ⟨rfl, rfl, rfl⟩ f_qb_0 dX9_line_4 ?_
  refine lv_sipush (v := 400) hx hb dX9_line_7 (by decide) ?_
  refine hb_icmp_ge (zx := 0) (zy := 400) (tgt := 56) hx hb (by decide) (by decide) dX9_line_10 (by decide) (fun c_1 => absurd c_1 (by decide)) (fun c_1 => ?_)
  refine lv_aload_n hx hb dX9_line_13 rfl (lv_at hl 0 rfl) ?_
  refine lv_iload_n hx hb dX9_line_14 rfl (lv_at hl 1 rfl) ?_
  refine lv_iload_n hx hb dX9_line_15 rfl (lv_at hl 2 rfl) ?_
  refine hx_goi (hx_runV (As := [.int i1, .int i2]) (rest := []) ⟨hx, hb, hml, hown, hts⟩ hW gx td_9 (T := TX9) (N := 20) rfl (c_X9_areTwo l dC dI dA L h s.heap.size x i1 i2 gx f_x_8) (cwV 2 hts (hx_gV kw_675 kw_672 kw_674 kw_21 kw_94) rfl rfl rfl (by decide +kernel) ⟨Nat.le_of_ble_eq_true rfl, Nat.le_of_ble_eq_true rfl⟩) rfl hl.1 rfl (Nat.le_of_ble_eq_true rfl) dX9_line_16 ⟨Nat.le_of_ble_eq_true rfl, Nat.le_of_ble_eq_true rfl⟩) hW (fun r_4 L_2 h_3 H locs p_5 hW => ?_)
  obtain ⟨p_5, eu⟩ := p_5
  cases eu
  rcases p_5 with ⟨kp_5, rfl⟩ | ⟨kp_5, rfl⟩
  · exfalso
    omega
  · skip
    refine hb_if_eq (zx := 0) (tgt := 56) hx hb (by decide) dX9_line_19 (by decide) (fun c_6 => ?_) (fun c_6 => absurd c_6 (by decide))
    refine lv_iconst (v := -1) hx hb dX9_line_56 (by decide) ?_
    exact hx_reti hx hb hr hlk hW ⟨rfl, hM⟩ dX9_line_57

theorem dX9_file_0 : decode cX9_file 0 = .ok (.aload_n 0, 1) := by decide +kernel
theorem dX9_file_1 : decode cX9_file 1 = .ok (.iload_n 1, 1) := by decide +kernel
theorem dX9_file_2 : decode cX9_file 2 = .ok (.invokevirtual 144, 3) := by decide +kernel
theorem dX9_file_5 : decode cX9_file 5 = .ok (.astore 7, 2) := by decide +kernel
theorem dX9_file_7 : decode cX9_file 7 = .ok (.aload_n 0, 1) := by decide +kernel
theorem dX9_file_8 : decode cX9_file 8 = .ok (.iload_n 2, 1) := by decide +kernel
theorem dX9_file_9 : decode cX9_file 9 = .ok (.invokevirtual 144, 3) := by decide +kernel
theorem dX9_file_12 : decode cX9_file 12 = .ok (.astore 8, 2) := by decide +kernel
theorem dX9_file_14 : decode cX9_file 14 = .ok (.aload_n 0, 1) := by decide +kernel
theorem dX9_file_15 : decode cX9_file 15 = .ok (.getfield 181, 3) := by decide +kernel
theorem dX9_file_18 : decode cX9_file 18 = .ok (.bipush 100, 2) := by decide +kernel
theorem dX9_file_20 : decode cX9_file 20 = .ok (.if_icmp .ge 61, 3) := by decide +kernel
theorem dX9_file_23 : decode cX9_file 23 = .ok (.aload 7, 2) := by decide +kernel
theorem dX9_file_25 : decode cX9_file 25 = .ok (.ifnull 56, 3) := by decide +kernel
theorem dX9_file_81 : decode cX9_file 81 = .ok (.iconst (-1), 1) := by decide +kernel
theorem dX9_file_82 : decode cX9_file 82 = .ok (.ireturn, 1) := by decide +kernel
set_option maxHeartbeats 4000000 in
set_option maxRecDepth 100000 in
theorem c_X9_file (l : Launch) (dC : Nat → ClassId) (dI : Nat → Nat → Nat) (dA : Nat → ClassId) (L : List Nat) (h : hx_h) (sz : Nat) (x : Nat) (i1 : Int32) (i2 : Int32) (i3 : Int32) (i4 : Int32) (i5 : Int32) (i6 : Int32) (gx : hx_g L h x 9) (f_x_8 : h.2.1 x 8 = 0) (f_x_11 : h.2.1 x 11 = 0) (f_x_2 : h.2.1 x 2 = 0) : Met l yX9_file (Cond.code yX9_file cX9_file 10 (some .int) :: hx_all) ({ frames := 1, cells := 0, slots := 0, locals := 21 }) (va_Pc [.ref x, .int i1, .int i2, .int i3, .int i4, .int i5, .int i6] (hx_B P_tb (P_ty dA) (dC, dI) vwCl L h sz)) (va_Qi (fun (r : Int32) (u : List Nat × hx_h) => (r = -1) ∧ hx_S P_tb [] L h u.1 u.2) (hx_E P_tb (P_ty dA) (dC, dI) vwCl (hx_A L sz)) (hx_A L sz)) 0 0 (hx_A L sz) := by
  refine hx_met (lv := [(0, .ref x), (1, .int i1), (2, .int i2), (3, .int i3), (4, .int i4), (5, .int i5), (6, .int i6)]) (by decide +kernel) rfl (Nat.le_of_ble_eq_true rfl) rfl ?_
  intro p e s m below meth c hx hb hml hr hlk hts0 hown hin hsz hW ls hl
  have hts : ∀ w ∈ hx_all, w.before _ s = true := fun w hw => hts0 w (List.mem_cons_of_mem _ hw)
  have hown : s.vm.findClass "SmallCourt" = some m.cls := hown
  have hM : hx_S P_tb [] L h L h := hx_S.rf
  refine lv_aload_n hx hb dX9_file_0 rfl (lv_at hl 0 rfl) ?_
  refine lv_iload_n hx hb dX9_file_1 rfl (lv_at hl 1 rfl) ?_
  refine hx_goq (hx_runV (As := [.int i1]) (rest := []) ⟨hx, hb, hml, hown, hts⟩ hW gx td_9 (T := TX9) (N := 20) rfl (c_X9_personAt l dC dI dA L h s.heap.size x i1 gx f_x_8) (cwV 1 hts (hx_gV kw_659 kw_656 kw_658 kw_20 kw_94) rfl rfl rfl (by decide +kernel) ⟨Nat.le_of_ble_eq_true rfl, Nat.le_of_ble_eq_true rfl⟩) rfl hl.1 rfl (Nat.le_of_ble_eq_true rfl) dX9_file_2 ⟨Nat.le_of_ble_eq_true rfl, Nat.le_of_ble_eq_true rfl⟩) hW (fun r_3 L_1 h_2 H locs p_4 hW => ?_)
  obtain ⟨rfl, eu⟩ := p_4
  cases eu
  refine lv_astoreN (lv' := [(7, .null), (0, .ref x), (1, .int i1), (2, .int i2), (3, .int i3), (4, .int i4), (5, .int i5), (6, .int i6)]) hx hb dX9_file_5 hl (by decide) rfl (fun ls hl => ?_)
  refine lv_aload_n hx hb dX9_file_7 rfl (lv_at hl 1 rfl) ?_
  refine lv_iload_n hx hb dX9_file_8 rfl (lv_at hl 3 rfl) ?_
  refine hx_goq (hx_runV (As := [.int i2]) (rest := []) ⟨hx, hb, hml, hown, hts⟩ hW gx td_9 (T := TX9) (N := 20) rfl (c_X9_personAt l dC dI dA L h H.size x i2 gx f_x_8) (cwV 1 hts (hx_gV kw_659 kw_656 kw_658 kw_20 kw_94) rfl rfl rfl (by decide +kernel) ⟨Nat.le_of_ble_eq_true rfl, Nat.le_of_ble_eq_true rfl⟩) rfl hl.1 rfl (Nat.le_of_ble_eq_true rfl) dX9_file_9 ⟨Nat.le_of_ble_eq_true rfl, Nat.le_of_ble_eq_true rfl⟩) hW (fun r_7 L_5 h_6 H locs p_8 hW => ?_)
  obtain ⟨rfl, eu⟩ := p_8
  cases eu
  refine lv_astoreN (lv' := [(8, .null), (7, .null), (0, .ref x), (1, .int i1), (2, .int i2), (3, .int i3), (4, .int i4), (5, .int i5), (6, .int i6)]) hx hb dX9_file_12 hl (by decide) rfl (fun ls hl => ?_)
  refine lv_aload_n hx hb dX9_file_14 rfl (lv_at hl 2 rfl) ?_
  refine hk_geti hx hb hts hC_9 hown hW gx td_9 11 (by decide) rfl kw_375 ⟨rfl, rfl, rfl⟩ f_x_11 dX9_file_15 ?_
  refine lv_bipush (v := 100) hx hb dX9_file_18 (by decide) ?_
  refine hb_icmp_ge (zx := 0) (zy := 100) (tgt := 81) hx hb (by decide) (by decide) dX9_file_20 (by decide) (fun c_9 => absurd c_9 (by decide)) (fun c_9 => ?_)
  refine lv_aloadN hx hb dX9_file_23 (lv_at hl 1 rfl) ?_
  refine lv_ifnullN (tgt := 81) hx hb dX9_file_25 (by decide) ?_
  refine lv_iconst (v := -1) hx hb dX9_file_81 (by decide) ?_
  exact hx_reti hx hb hr hlk hW ⟨rfl, hM⟩ dX9_file_82

theorem dX9_pay_0 : decode cX9_pay 0 = .ok (.aload_n 0, 1) := by decide +kernel
theorem dX9_pay_1 : decode cX9_pay 1 = .ok (.iload_n 1, 1) := by decide +kernel
theorem dX9_pay_2 : decode cX9_pay 2 = .ok (.invokevirtual 200, 3) := by decide +kernel
theorem dX9_pay_5 : decode cX9_pay 5 = .ok (.astore 4, 2) := by decide +kernel
theorem dX9_pay_7 : decode cX9_pay 7 = .ok (.aload_n 0, 1) := by decide +kernel
theorem dX9_pay_8 : decode cX9_pay 8 = .ok (.getfield 58, 3) := by decide +kernel
theorem dX9_pay_11 : decode cX9_pay 11 = .ok (.getfield 278, 3) := by decide +kernel
theorem dX9_pay_14 : decode cX9_pay 14 = .ok (.sipush 600, 3) := by decide +kernel
theorem dX9_pay_17 : decode cX9_pay 17 = .ok (.if_icmp .ge 53, 3) := by decide +kernel
theorem dX9_pay_20 : decode cX9_pay 20 = .ok (.aload 4, 2) := by decide +kernel
theorem dX9_pay_22 : decode cX9_pay 22 = .ok (.ifnull 48, 3) := by decide +kernel
theorem dX9_pay_70 : decode cX9_pay 70 = .ok (.iconst (-1), 1) := by decide +kernel
theorem dX9_pay_71 : decode cX9_pay 71 = .ok (.ireturn, 1) := by decide +kernel
set_option maxHeartbeats 4000000 in
set_option maxRecDepth 100000 in
theorem c_X9_pay (l : Launch) (dC : Nat → ClassId) (dI : Nat → Nat → Nat) (dA : Nat → ClassId) (L : List Nat) (h : hx_h) (sz : Nat) (x : Nat) (i1 : Int32) (i2 : Int32) (i3 : Int32) (gx : hx_g L h x 9) (qp : Nat) (gqp : hx_g L h qp 3) (f_x_14 : h.2.2 x 14 = some qp) (f_qp_0 : h.2.1 qp 0 = 0) (f_x_11 : h.2.1 x 11 = 0) : Met l yX9_pay (Cond.code yX9_pay cX9_pay 5 (some .int) :: hx_all) ({ frames := 1, cells := 0, slots := 0, locals := 21 }) (va_Pc [.ref x, .int i1, .int i2, .int i3] (hx_B P_tb (P_ty dA) (dC, dI) vwCl L h sz)) (va_Qi (fun (r : Int32) (u : List Nat × hx_h) => (r = -1) ∧ hx_S P_tb [] L h u.1 u.2) (hx_E P_tb (P_ty dA) (dC, dI) vwCl (hx_A L sz)) (hx_A L sz)) 0 0 (hx_A L sz) := by
  refine hx_met (lv := [(0, .ref x), (1, .int i1), (2, .int i2), (3, .int i3)]) (by decide +kernel) rfl (Nat.le_of_ble_eq_true rfl) rfl ?_
  intro p e s m below meth c hx hb hml hr hlk hts0 hown hin hsz hW ls hl
  have hts : ∀ w ∈ hx_all, w.before _ s = true := fun w hw => hts0 w (List.mem_cons_of_mem _ hw)
  have hown : s.vm.findClass "SmallCourt" = some m.cls := hown
  have hM : hx_S P_tb [] L h L h := hx_S.rf
  refine lv_aload_n hx hb dX9_pay_0 rfl (lv_at hl 0 rfl) ?_
  refine lv_iload_n hx hb dX9_pay_1 rfl (lv_at hl 1 rfl) ?_
  refine hx_goq (hx_runV (As := [.int i1]) (rest := []) ⟨hx, hb, hml, hown, hts⟩ hW gx td_9 (T := TX9) (N := 20) rfl (c_X9_claimAt l dC dI dA L h s.heap.size x i1 gx f_x_11) (cwV 1 hts (hx_gV kw_810 kw_807 kw_809 kw_25 kw_94) rfl rfl rfl (by decide +kernel) ⟨Nat.le_of_ble_eq_true rfl, Nat.le_of_ble_eq_true rfl⟩) rfl hl.1 rfl (Nat.le_of_ble_eq_true rfl) dX9_pay_2 ⟨Nat.le_of_ble_eq_true rfl, Nat.le_of_ble_eq_true rfl⟩) hW (fun r_3 L_1 h_2 H locs p_4 hW => ?_)
  obtain ⟨rfl, eu⟩ := p_4
  cases eu
  refine lv_astoreN (lv' := [(4, .null), (0, .ref x), (1, .int i1), (2, .int i2), (3, .int i3)]) hx hb dX9_pay_5 hl (by decide) rfl (fun ls hl => ?_)
  refine lv_aload_n hx hb dX9_pay_7 rfl (lv_at hl 1 rfl) ?_
  refine hk_getr hx hb hts hC_9 hown hW gx td_9 14 (by decide) rfl kw_378 ⟨rfl, rfl, rfl⟩ f_x_14 dX9_pay_8 ?_
  refine hk_geti hx hb hts hC_3 hown hW gqp td_3 0 (by decide) rfl kw_232 ⟨rfl, rfl, rfl⟩ f_qp_0 dX9_pay_11 ?_
  refine lv_sipush (v := 600) hx hb dX9_pay_14 (by decide) ?_
  refine hb_icmp_ge (zx := 0) (zy := 600) (tgt := 70) hx hb (by decide) (by decide) dX9_pay_17 (by decide) (fun c_5 => absurd c_5 (by decide)) (fun c_5 => ?_)
  refine lv_aloadN hx hb dX9_pay_20 (lv_at hl 0 rfl) ?_
  refine lv_ifnullN (tgt := 70) hx hb dX9_pay_22 (by decide) ?_
  refine lv_iconst (v := -1) hx hb dX9_pay_70 (by decide) ?_
  exact hx_reti hx hb hr hlk hW ⟨rfl, hM⟩ dX9_pay_71

theorem dX9_strike_0 : decode cX9_strike 0 = .ok (.iload_n 1, 1) := by decide +kernel
theorem dX9_strike_1 : decode cX9_strike 1 = .ok (.ifCond .lt 27, 3) := by decide +kernel
theorem dX9_strike_4 : decode cX9_strike 4 = .ok (.iload_n 1, 1) := by decide +kernel
theorem dX9_strike_5 : decode cX9_strike 5 = .ok (.aload_n 0, 1) := by decide +kernel
theorem dX9_strike_6 : decode cX9_strike 6 = .ok (.getfield 58, 3) := by decide +kernel
theorem dX9_strike_9 : decode cX9_strike 9 = .ok (.getfield 278, 3) := by decide +kernel
theorem dX9_strike_12 : decode cX9_strike 12 = .ok (.if_icmp .ge 16, 3) := by decide +kernel
theorem dX9_strike_28 : decode cX9_strike 28 = .ok (.iconst 0, 1) := by decide +kernel
theorem dX9_strike_29 : decode cX9_strike 29 = .ok (.ireturn, 1) := by decide +kernel
set_option maxHeartbeats 4000000 in
set_option maxRecDepth 100000 in
theorem c_X9_strike (l : Launch) (dC : Nat → ClassId) (dI : Nat → Nat → Nat) (dA : Nat → ClassId) (L : List Nat) (h : hx_h) (sz : Nat) (x : Nat) (a : Int32) (gx : hx_g L h x 9) (qp : Nat) (gqp : hx_g L h qp 3) (f_x_14 : h.2.2 x 14 = some qp) (f_qp_0 : h.2.1 qp 0 = 0) : Met l yX9_strike (Cond.code yX9_strike cX9_strike 2 (some .boolean) :: hx_all) ({ frames := 0, cells := 0, slots := 0, locals := 0 }) (va_Pc [.ref x, .int a] (hx_B P_tb (P_ty dA) (dC, dI) vwCl L h sz)) (va_Qi (fun (r : Int32) (u : List Nat × hx_h) => (r = 0) ∧ hx_S P_tb [] L h u.1 u.2) (hx_E P_tb (P_ty dA) (dC, dI) vwCl (hx_A L sz)) (hx_A L sz)) 0 0 (hx_A L sz) := by
  refine hx_met (lv := [(0, .ref x), (1, .int a)]) (by decide +kernel) rfl (Nat.le_of_ble_eq_true rfl) rfl ?_
  intro p e s m below meth c hx hb hml hr hlk hts0 hown hin hsz hW ls hl
  have hts : ∀ w ∈ hx_all, w.before _ s = true := fun w hw => hts0 w (List.mem_cons_of_mem _ hw)
  have hown : s.vm.findClass "SmallCourt" = some m.cls := hown
  have hM : hx_S P_tb [] L h L h := hx_S.rf
  refine lv_iload_n hx hb dX9_strike_0 rfl (lv_at hl 1 rfl) ?_
  refine hb_if_lt (zx := a.toInt) (tgt := 28) hx hb rfl dX9_strike_1 (by decide) (fun c_1 => ?_) (fun c_1 => ?_)
  · skip
    refine lv_iconst (v := 0) hx hb dX9_strike_28 (by decide) ?_
    exact hx_retz hx hb hr rfl hlk hW ⟨rfl, hM⟩ dX9_strike_29
  · skip
    refine lv_iload_n hx hb dX9_strike_4 rfl (lv_at hl 1 rfl) ?_
    refine lv_aload_n hx hb dX9_strike_5 rfl (lv_at hl 0 rfl) ?_
    refine hk_getr hx hb hts hC_9 hown hW gx td_9 14 (by decide) rfl kw_378 ⟨rfl, rfl, rfl⟩ f_x_14 dX9_strike_6 ?_
    refine hk_geti hx hb hts hC_3 hown hW gqp td_3 0 (by decide) rfl kw_232 ⟨rfl, rfl, rfl⟩ f_qp_0 dX9_strike_9 ?_
    refine hb_icmp_ge (zx := a.toInt) (zy := 0) (tgt := 28) hx hb rfl (by decide) dX9_strike_12 (by decide) (fun c_2 => ?_) (fun c_2 => by exfalso; omega)
    refine lv_iconst (v := 0) hx hb dX9_strike_28 (by decide) ?_
    exact hx_retz hx hb hr rfl hlk hW ⟨rfl, hM⟩ dX9_strike_29

theorem dX9_planned_0 : decode cX9_planned 0 = .ok (.iload_n 1, 1) := by decide +kernel
theorem dX9_planned_1 : decode cX9_planned 1 = .ok (.ifCond .lt 14, 3) := by decide +kernel
theorem dX9_planned_4 : decode cX9_planned 4 = .ok (.iload_n 1, 1) := by decide +kernel
theorem dX9_planned_5 : decode cX9_planned 5 = .ok (.aload_n 0, 1) := by decide +kernel
theorem dX9_planned_6 : decode cX9_planned 6 = .ok (.getfield 72, 3) := by decide +kernel
theorem dX9_planned_9 : decode cX9_planned 9 = .ok (.getfield 337, 3) := by decide +kernel
theorem dX9_planned_12 : decode cX9_planned 12 = .ok (.if_icmp .lt 5, 3) := by decide +kernel
theorem dX9_planned_15 : decode cX9_planned 15 = .ok (.iconst (-1), 1) := by decide +kernel
theorem dX9_planned_16 : decode cX9_planned 16 = .ok (.ireturn, 1) := by decide +kernel
set_option maxHeartbeats 4000000 in
set_option maxRecDepth 100000 in
theorem c_X9_planned (l : Launch) (dC : Nat → ClassId) (dI : Nat → Nat → Nat) (dA : Nat → ClassId) (L : List Nat) (h : hx_h) (sz : Nat) (x : Nat) (a : Int32) (b : Int32) (gx : hx_g L h x 9) (qn : Nat) (gqn : hx_g L h qn 5) (f_x_17 : h.2.2 x 17 = some qn) (f_qn_1 : h.2.1 qn 1 = 0) : Met l yX9_planned (Cond.code yX9_planned cX9_planned 3 (some .int) :: hx_all) ({ frames := 0, cells := 0, slots := 0, locals := 0 }) (va_Pc [.ref x, .int a, .int b] (hx_B P_tb (P_ty dA) (dC, dI) vwCl L h sz)) (va_Qi (fun (r : Int32) (u : List Nat × hx_h) => (r = -1) ∧ hx_S P_tb [] L h u.1 u.2) (hx_E P_tb (P_ty dA) (dC, dI) vwCl (hx_A L sz)) (hx_A L sz)) 0 0 (hx_A L sz) := by
  refine hx_met (lv := [(0, .ref x), (1, .int a), (2, .int b)]) (by decide +kernel) rfl (Nat.le_of_ble_eq_true rfl) rfl ?_
  intro p e s m below meth c hx hb hml hr hlk hts0 hown hin hsz hW ls hl
  have hts : ∀ w ∈ hx_all, w.before _ s = true := fun w hw => hts0 w (List.mem_cons_of_mem _ hw)
  have hown : s.vm.findClass "SmallCourt" = some m.cls := hown
  have hM : hx_S P_tb [] L h L h := hx_S.rf
  refine lv_iload_n hx hb dX9_planned_0 rfl (lv_at hl 1 rfl) ?_
  refine hb_if_lt (zx := a.toInt) (tgt := 15) hx hb rfl dX9_planned_1 (by decide) (fun c_1 => ?_) (fun c_1 => ?_)
  · skip
    refine lv_iconst (v := -1) hx hb dX9_planned_15 (by decide) ?_
    exact hx_reti hx hb hr hlk hW ⟨rfl, hM⟩ dX9_planned_16
  · skip
    refine lv_iload_n hx hb dX9_planned_4 rfl (lv_at hl 1 rfl) ?_
    refine lv_aload_n hx hb dX9_planned_5 rfl (lv_at hl 0 rfl) ?_
    refine hk_getr hx hb hts hC_9 hown hW gx td_9 17 (by decide) rfl kw_381 ⟨rfl, rfl, rfl⟩ f_x_17 dX9_planned_6 ?_
    refine hk_geti hx hb hts hC_5 hown hW gqn td_5 1 (by decide) rfl kw_261 ⟨rfl, rfl, rfl⟩ f_qn_1 dX9_planned_9 ?_
    refine hb_icmp_lt (zx := a.toInt) (zy := 0) (tgt := 17) hx hb rfl (by decide) dX9_planned_12 (by decide) (fun c_2 => by exfalso; omega) (fun c_2 => ?_)
    refine lv_iconst (v := -1) hx hb dX9_planned_15 (by decide) ?_
    exact hx_reti hx hb hr hlk hW ⟨rfl, hM⟩ dX9_planned_16

theorem dX9_netted_0 : decode cX9_netted 0 = .ok (.iload_n 1, 1) := by decide +kernel
theorem dX9_netted_1 : decode cX9_netted 1 = .ok (.iconst (-1), 1) := by decide +kernel
theorem dX9_netted_2 : decode cX9_netted 2 = .ok (.if_icmp .ne 11, 3) := by decide +kernel
theorem dX9_netted_5 : decode cX9_netted 5 = .ok (.aload_n 0, 1) := by decide +kernel
theorem dX9_netted_6 : decode cX9_netted 6 = .ok (.getfield 79, 3) := by decide +kernel
theorem dX9_netted_9 : decode cX9_netted 9 = .ok (.getfield 374, 3) := by decide +kernel
theorem dX9_netted_12 : decode cX9_netted 12 = .ok (.ireturn, 1) := by decide +kernel
theorem dX9_netted_13 : decode cX9_netted 13 = .ok (.iload_n 1, 1) := by decide +kernel
theorem dX9_netted_14 : decode cX9_netted 14 = .ok (.ifCond .lt 14, 3) := by decide +kernel
theorem dX9_netted_17 : decode cX9_netted 17 = .ok (.iload_n 1, 1) := by decide +kernel
theorem dX9_netted_18 : decode cX9_netted 18 = .ok (.aload_n 0, 1) := by decide +kernel
theorem dX9_netted_19 : decode cX9_netted 19 = .ok (.getfield 79, 3) := by decide +kernel
theorem dX9_netted_22 : decode cX9_netted 22 = .ok (.getfield 374, 3) := by decide +kernel
theorem dX9_netted_25 : decode cX9_netted 25 = .ok (.if_icmp .lt 7, 3) := by decide +kernel
theorem dX9_netted_28 : decode cX9_netted 28 = .ok (.iconst (-1), 1) := by decide +kernel
theorem dX9_netted_29 : decode cX9_netted 29 = .ok (.goto 12, 3) := by decide +kernel
theorem dX9_netted_41 : decode cX9_netted 41 = .ok (.ireturn, 1) := by decide +kernel
set_option maxHeartbeats 4000000 in
set_option maxRecDepth 100000 in
theorem c_X9_netted (l : Launch) (dC : Nat → ClassId) (dI : Nat → Nat → Nat) (dA : Nat → ClassId) (L : List Nat) (h : hx_h) (sz : Nat) (x : Nat) (a : Int32) (gx : hx_g L h x 9) (qr : Nat) (gqr : hx_g L h qr 7) (f_x_18 : h.2.2 x 18 = some qr) (f_qr_0 : h.2.1 qr 0 = -1) : Met l yX9_netted (Cond.code yX9_netted cX9_netted 2 (some .int) :: hx_all) ({ frames := 0, cells := 0, slots := 0, locals := 0 }) (va_Pc [.ref x, .int a] (hx_B P_tb (P_ty dA) (dC, dI) vwCl L h sz)) (va_Qi (fun (r : Int32) (u : List Nat × hx_h) => (r = -1) ∧ hx_S P_tb [] L h u.1 u.2) (hx_E P_tb (P_ty dA) (dC, dI) vwCl (hx_A L sz)) (hx_A L sz)) 0 0 (hx_A L sz) := by
  refine hx_met (lv := [(0, .ref x), (1, .int a)]) (by decide +kernel) rfl (Nat.le_of_ble_eq_true rfl) rfl ?_
  intro p e s m below meth c hx hb hml hr hlk hts0 hown hin hsz hW ls hl
  have hts : ∀ w ∈ hx_all, w.before _ s = true := fun w hw => hts0 w (List.mem_cons_of_mem _ hw)
  have hown : s.vm.findClass "SmallCourt" = some m.cls := hown
  have hM : hx_S P_tb [] L h L h := hx_S.rf
  refine lv_iload_n hx hb dX9_netted_0 rfl (lv_at hl 1 rfl) ?_
  refine lv_iconst (v := -1) hx hb dX9_netted_1 (by decide) ?_
  refine hb_icmp_ne (zx := a.toInt) (zy := (-1)) (tgt := 13) hx hb rfl (by decide) dX9_netted_2 (by decide) (fun c_1 => ?_) (fun c_1 => ?_)
  · skip
    refine lv_iload_n hx hb dX9_netted_13 rfl (lv_at hl 1 rfl) ?_
    refine hb_if_lt (zx := a.toInt) (tgt := 28) hx hb rfl dX9_netted_14 (by decide) (fun c_2 => ?_) (fun c_2 => ?_)
    · skip
      refine lv_iconst (v := -1) hx hb dX9_netted_28 (by decide) ?_
      refine lv_goto (tgt := 41) hx hb dX9_netted_29 (by decide) ?_
      exact hx_reti hx hb hr hlk hW ⟨rfl, hM⟩ dX9_netted_41
    · skip
      refine lv_iload_n hx hb dX9_netted_17 rfl (lv_at hl 1 rfl) ?_
      refine lv_aload_n hx hb dX9_netted_18 rfl (lv_at hl 0 rfl) ?_
      refine hk_getr hx hb hts hC_9 hown hW gx td_9 18 (by decide) rfl kw_382 ⟨rfl, rfl, rfl⟩ f_x_18 dX9_netted_19 ?_
      refine hk_geti hx hb hts hC_7 hown hW gqr td_7 0 (by decide) rfl kw_310 ⟨rfl, rfl, rfl⟩ f_qr_0 dX9_netted_22 ?_
      refine hb_icmp_lt (zx := a.toInt) (zy := (-1)) (tgt := 32) hx hb rfl (by decide) dX9_netted_25 (by decide) (fun c_3 => by exfalso; omega) (fun c_3 => ?_)
      refine lv_iconst (v := -1) hx hb dX9_netted_28 (by decide) ?_
      refine lv_goto (tgt := 41) hx hb dX9_netted_29 (by decide) ?_
      exact hx_reti hx hb hr hlk hW ⟨rfl, hM⟩ dX9_netted_41
  · skip
    refine lv_aload_n hx hb dX9_netted_5 rfl (lv_at hl 0 rfl) ?_
    refine hk_getr hx hb hts hC_9 hown hW gx td_9 18 (by decide) rfl kw_382 ⟨rfl, rfl, rfl⟩ f_x_18 dX9_netted_6 ?_
    refine hk_geti hx hb hts hC_7 hown hW gqr td_7 0 (by decide) rfl kw_310 ⟨rfl, rfl, rfl⟩ f_qr_0 dX9_netted_9 ?_
    exact hx_reti hx hb hr hlk hW ⟨rfl, hM⟩ dX9_netted_12

theorem dX9_walked_0 : decode cX9_walked 0 = .ok (.iload_n 1, 1) := by decide +kernel
theorem dX9_walked_1 : decode cX9_walked 1 = .ok (.ifCond .lt 14, 3) := by decide +kernel
theorem dX9_walked_4 : decode cX9_walked 4 = .ok (.iload_n 1, 1) := by decide +kernel
theorem dX9_walked_5 : decode cX9_walked 5 = .ok (.aload_n 0, 1) := by decide +kernel
theorem dX9_walked_6 : decode cX9_walked 6 = .ok (.getfield 86, 3) := by decide +kernel
theorem dX9_walked_9 : decode cX9_walked 9 = .ok (.getfield 391, 3) := by decide +kernel
theorem dX9_walked_12 : decode cX9_walked 12 = .ok (.if_icmp .lt 7, 3) := by decide +kernel
theorem dX9_walked_15 : decode cX9_walked 15 = .ok (.iconst (-1), 1) := by decide +kernel
theorem dX9_walked_16 : decode cX9_walked 16 = .ok (.goto 12, 3) := by decide +kernel
theorem dX9_walked_28 : decode cX9_walked 28 = .ok (.ireturn, 1) := by decide +kernel
set_option maxHeartbeats 4000000 in
set_option maxRecDepth 100000 in
theorem c_X9_walked (l : Launch) (dC : Nat → ClassId) (dI : Nat → Nat → Nat) (dA : Nat → ClassId) (L : List Nat) (h : hx_h) (sz : Nat) (x : Nat) (a : Int32) (gx : hx_g L h x 9) (qw : Nat) (gqw : hx_g L h qw 8) (f_x_19 : h.2.2 x 19 = some qw) (f_qw_0 : h.2.1 qw 0 = 0) (f_qw_1 : h.2.1 qw 1 = 0) : Met l yX9_walked (Cond.code yX9_walked cX9_walked 2 (some .int) :: hx_all) ({ frames := 0, cells := 0, slots := 0, locals := 0 }) (va_Pc [.ref x, .int a] (hx_B P_tb (P_ty dA) (dC, dI) vwCl L h sz)) (va_Qi (fun (r : Int32) (u : List Nat × hx_h) => (r = -1) ∧ hx_S P_tb [] L h u.1 u.2) (hx_E P_tb (P_ty dA) (dC, dI) vwCl (hx_A L sz)) (hx_A L sz)) 0 0 (hx_A L sz) := by
  refine hx_met (lv := [(0, .ref x), (1, .int a)]) (by decide +kernel) rfl (Nat.le_of_ble_eq_true rfl) rfl ?_
  intro p e s m below meth c hx hb hml hr hlk hts0 hown hin hsz hW ls hl
  have hts : ∀ w ∈ hx_all, w.before _ s = true := fun w hw => hts0 w (List.mem_cons_of_mem _ hw)
  have hown : s.vm.findClass "SmallCourt" = some m.cls := hown
  have hM : hx_S P_tb [] L h L h := hx_S.rf
  refine lv_iload_n hx hb dX9_walked_0 rfl (lv_at hl 1 rfl) ?_
  refine hb_if_lt (zx := a.toInt) (tgt := 15) hx hb rfl dX9_walked_1 (by decide) (fun c_1 => ?_) (fun c_1 => ?_)
  · skip
    refine lv_iconst (v := -1) hx hb dX9_walked_15 (by decide) ?_
    refine lv_goto (tgt := 28) hx hb dX9_walked_16 (by decide) ?_
    exact hx_reti hx hb hr hlk hW ⟨rfl, hM⟩ dX9_walked_28
  · skip
    refine lv_iload_n hx hb dX9_walked_4 rfl (lv_at hl 1 rfl) ?_
    refine lv_aload_n hx hb dX9_walked_5 rfl (lv_at hl 0 rfl) ?_
    refine hk_getr hx hb hts hC_9 hown hW gx td_9 19 (by decide) rfl kw_383 ⟨rfl, rfl, rfl⟩ f_x_19 dX9_walked_6 ?_
    refine hk_geti hx hb hts hC_8 hown hW gqw td_8 1 (by decide) rfl kw_348 ⟨rfl, rfl, rfl⟩ f_qw_1 dX9_walked_9 ?_
    refine hb_icmp_lt (zx := a.toInt) (zy := 0) (tgt := 19) hx hb rfl (by decide) dX9_walked_12 (by decide) (fun c_2 => by exfalso; omega) (fun c_2 => ?_)
    refine lv_iconst (v := -1) hx hb dX9_walked_15 (by decide) ?_
    refine lv_goto (tgt := 28) hx hb dX9_walked_16 (by decide) ?_
    exact hx_reti hx hb hr hlk hW ⟨rfl, hM⟩ dX9_walked_28

theorem dX9_count_0 : decode cX9_count 0 = .ok (.iload_n 1, 1) := by decide +kernel
theorem dX9_count_1 : decode cX9_count 1 = .ok (.tableswitch 105 0 8 #[51, 56, 61, 66, 71, 79, 84, 92, 97], 51) := by decide +kernel
theorem dX9_count_52 : decode cX9_count 52 = .ok (.aload_n 0, 1) := by decide +kernel
theorem dX9_count_53 : decode cX9_count 53 = .ok (.getfield 94, 3) := by decide +kernel
theorem dX9_count_56 : decode cX9_count 56 = .ok (.ireturn, 1) := by decide +kernel
theorem dX9_count_57 : decode cX9_count 57 = .ok (.aload_n 0, 1) := by decide +kernel
theorem dX9_count_58 : decode cX9_count 58 = .ok (.getfield 105, 3) := by decide +kernel
theorem dX9_count_61 : decode cX9_count 61 = .ok (.ireturn, 1) := by decide +kernel
theorem dX9_count_62 : decode cX9_count 62 = .ok (.aload_n 0, 1) := by decide +kernel
theorem dX9_count_63 : decode cX9_count 63 = .ok (.getfield 125, 3) := by decide +kernel
theorem dX9_count_66 : decode cX9_count 66 = .ok (.ireturn, 1) := by decide +kernel
theorem dX9_count_67 : decode cX9_count 67 = .ok (.aload_n 0, 1) := by decide +kernel
theorem dX9_count_68 : decode cX9_count 68 = .ok (.invokevirtual 405, 3) := by decide +kernel
theorem dX9_count_71 : decode cX9_count 71 = .ok (.ireturn, 1) := by decide +kernel
theorem dX9_count_72 : decode cX9_count 72 = .ok (.aload_n 0, 1) := by decide +kernel
theorem dX9_count_73 : decode cX9_count 73 = .ok (.getfield 42, 3) := by decide +kernel
theorem dX9_count_76 : decode cX9_count 76 = .ok (.getfield 158, 3) := by decide +kernel
theorem dX9_count_79 : decode cX9_count 79 = .ok (.ireturn, 1) := by decide +kernel
theorem dX9_count_80 : decode cX9_count 80 = .ok (.aload_n 0, 1) := by decide +kernel
theorem dX9_count_81 : decode cX9_count 81 = .ok (.getfield 181, 3) := by decide +kernel
theorem dX9_count_84 : decode cX9_count 84 = .ok (.ireturn, 1) := by decide +kernel
theorem dX9_count_85 : decode cX9_count 85 = .ok (.aload_n 0, 1) := by decide +kernel
theorem dX9_count_86 : decode cX9_count 86 = .ok (.getfield 58, 3) := by decide +kernel
theorem dX9_count_89 : decode cX9_count 89 = .ok (.getfield 278, 3) := by decide +kernel
theorem dX9_count_92 : decode cX9_count 92 = .ok (.ireturn, 1) := by decide +kernel
theorem dX9_count_93 : decode cX9_count 93 = .ok (.aload_n 0, 1) := by decide +kernel
theorem dX9_count_94 : decode cX9_count 94 = .ok (.getfield 98, 3) := by decide +kernel
theorem dX9_count_97 : decode cX9_count 97 = .ok (.ireturn, 1) := by decide +kernel
theorem dX9_count_98 : decode cX9_count 98 = .ok (.aload_n 0, 1) := by decide +kernel
theorem dX9_count_99 : decode cX9_count 99 = .ok (.getfield 86, 3) := by decide +kernel
theorem dX9_count_102 : decode cX9_count 102 = .ok (.getfield 381, 3) := by decide +kernel
theorem dX9_count_105 : decode cX9_count 105 = .ok (.ireturn, 1) := by decide +kernel
theorem dX9_count_106 : decode cX9_count 106 = .ok (.iconst (-1), 1) := by decide +kernel
theorem dX9_count_107 : decode cX9_count 107 = .ok (.ireturn, 1) := by decide +kernel
set_option maxHeartbeats 4000000 in
set_option maxRecDepth 100000 in
theorem c_X9_count (l : Launch) (dC : Nat → ClassId) (dI : Nat → Nat → Nat) (dA : Nat → ClassId) (L : List Nat) (h : hx_h) (sz : Nat) (x : Nat) (a : Int32) (gx : hx_g L h x 9) (f_x_2 : h.2.1 x 2 = 0) (f_x_6 : h.2.1 x 6 = 0) (f_x_8 : h.2.1 x 8 = 0) (qb : Nat) (gqb : hx_g L h qb 1) (f_x_9 : h.2.2 x 9 = some qb) (f_qb_0 : h.2.1 qb 0 = 0) (f_x_11 : h.2.1 x 11 = 0) (qp : Nat) (gqp : hx_g L h qp 3) (f_x_14 : h.2.2 x 14 = some qp) (f_qp_0 : h.2.1 qp 0 = 0) (f_x_1 : h.2.1 x 1 = 0) (qw : Nat) (gqw : hx_g L h qw 8) (f_x_19 : h.2.2 x 19 = some qw) (f_qw_0 : h.2.1 qw 0 = 0) (f_qw_1 : h.2.1 qw 1 = 0) : Met l yX9_count (Cond.code yX9_count cX9_count 2 (some .int) :: hx_all) ({ frames := 1, cells := 0, slots := 0, locals := 22 }) (va_Pc [.ref x, .int a] (hx_B P_tb (P_ty dA) (dC, dI) vwCl L h sz)) (va_Qi (fun (r : Int32) (u : List Nat × hx_h) => ((0 ≤ a.toInt ∧ a.toInt ≤ 8) ∧ r = 0 ∨ ¬ (0 ≤ a.toInt ∧ a.toInt ≤ 8) ∧ r = -1) ∧ hx_S P_tb [] L h u.1 u.2) (hx_E P_tb (P_ty dA) (dC, dI) vwCl (hx_A L sz)) (hx_A L sz)) 0 0 (hx_A L sz) := by
  refine hx_met (lv := [(0, .ref x), (1, .int a)]) (by decide +kernel) rfl (Nat.le_of_ble_eq_true rfl) rfl ?_
  intro p e s m below meth c hx hb hml hr hlk hts0 hown hin hsz hW ls hl
  have hts : ∀ w ∈ hx_all, w.before _ s = true := fun w hw => hts0 w (List.mem_cons_of_mem _ hw)
  have hown : s.vm.findClass "SmallCourt" = some m.cls := hown
  have hM : hx_S P_tb [] L h L h := hx_S.rf
  refine lv_iload_n hx hb dX9_count_0 rfl (lv_at hl 1 rfl) ?_
  rcases (show (a.toInt < 0 ∨ 8 < a.toInt) ∨ a.toInt = 0 ∨ a.toInt = 1 ∨ a.toInt = 2 ∨ a.toInt = 3 ∨ a.toInt = 4 ∨ a.toInt = 5 ∨ a.toInt = 6 ∨ a.toInt = 7 ∨ a.toInt = 8 from by omega) with c_1 | c_1 | c_1 | c_1 | c_1 | c_1 | c_1 | c_1 | c_1 | c_1
  · refine lv_tableOut (tgt := 106) hx hb dX9_count_1 c_1 (by decide) ?_
    refine lv_iconst (v := -1) hx hb dX9_count_106 (by decide) ?_
    exact hx_reti hx hb hr hlk hW ⟨Or.inr ⟨by first | omega | decide, rfl⟩, hM⟩ dX9_count_107
  · obtain rfl : a = (0 : Int32) := Int32.toInt_inj.mp (c_1.trans (by decide))
    refine lv_tableIn (off := 51) (tgt := 52) hx hb dX9_count_1 (by decide) (by decide) rfl (by decide) ?_
    refine lv_aload_n hx hb dX9_count_52 rfl (lv_at hl 0 rfl) ?_
    refine hk_geti hx hb hts hC_9 hown hW gx td_9 2 (by decide) rfl kw_366 ⟨rfl, rfl, rfl⟩ f_x_2 dX9_count_53 ?_
    exact hx_reti hx hb hr hlk hW ⟨Or.inl ⟨by first | omega | decide, rfl⟩, hM⟩ dX9_count_56
  · obtain rfl : a = (1 : Int32) := Int32.toInt_inj.mp (c_1.trans (by decide))
    refine lv_tableIn (off := 56) (tgt := 57) hx hb dX9_count_1 (by decide) (by decide) rfl (by decide) ?_
    refine lv_aload_n hx hb dX9_count_57 rfl (lv_at hl 0 rfl) ?_
    refine hk_geti hx hb hts hC_9 hown hW gx td_9 6 (by decide) rfl kw_370 ⟨rfl, rfl, rfl⟩ f_x_6 dX9_count_58 ?_
    exact hx_reti hx hb hr hlk hW ⟨Or.inl ⟨by first | omega | decide, rfl⟩, hM⟩ dX9_count_61
  · obtain rfl : a = (2 : Int32) := Int32.toInt_inj.mp (c_1.trans (by decide))
    refine lv_tableIn (off := 61) (tgt := 62) hx hb dX9_count_1 (by decide) (by decide) rfl (by decide) ?_
    refine lv_aload_n hx hb dX9_count_62 rfl (lv_at hl 0 rfl) ?_
    refine hk_geti hx hb hts hC_9 hown hW gx td_9 8 (by decide) rfl kw_372 ⟨rfl, rfl, rfl⟩ f_x_8 dX9_count_63 ?_
    exact hx_reti hx hb hr hlk hW ⟨Or.inl ⟨by first | omega | decide, rfl⟩, hM⟩ dX9_count_66
  · obtain rfl : a = (3 : Int32) := Int32.toInt_inj.mp (c_1.trans (by decide))
    refine lv_tableIn (off := 66) (tgt := 67) hx hb dX9_count_1 (by decide) (by decide) rfl (by decide) ?_
    refine lv_aload_n hx hb dX9_count_67 rfl (lv_at hl 0 rfl) ?_
    refine hx_goi (hx_runV (As := []) (rest := []) ⟨hx, hb, hml, hown, hts⟩ hW gx td_9 (T := TX9) (N := 20) rfl (c_X9_livingJudges l dC dI dA L h s.heap.size x gx f_x_8) (cwV 0 hts (hx_gV kw_1112 kw_1109 kw_1111 kw_47 kw_94) rfl rfl rfl (by decide +kernel) ⟨Nat.le_of_ble_eq_true rfl, Nat.le_of_ble_eq_true rfl⟩) rfl hl.1 rfl (Nat.le_of_ble_eq_true rfl) dX9_count_68 ⟨Nat.le_of_ble_eq_true rfl, Nat.le_of_ble_eq_true rfl⟩) hW (fun r_4 L_2 h_3 H locs p_5 hW => ?_)
    obtain ⟨rfl, eu⟩ := p_5
    cases eu
    exact hx_reti hx hb hr hlk hW ⟨Or.inl ⟨by first | omega | decide, rfl⟩, hM⟩ dX9_count_71
  · obtain rfl : a = (4 : Int32) := Int32.toInt_inj.mp (c_1.trans (by decide))
    refine lv_tableIn (off := 71) (tgt := 72) hx hb dX9_count_1 (by decide) (by decide) rfl (by decide) ?_
    refine lv_aload_n hx hb dX9_count_72 rfl (lv_at hl 0 rfl) ?_
    refine hk_getr hx hb hts hC_9 hown hW gx td_9 9 (by decide) rfl kw_373 ⟨rfl, rfl, rfl⟩ f_x_9 dX9_count_73 ?_
    refine hk_geti hx hb hts hC_1 hown hW gqb td_1 0 (by decide) rfl kw_197 ⟨rfl, rfl, rfl⟩ f_qb_0 dX9_count_76 ?_
    exact hx_reti hx hb hr hlk hW ⟨Or.inl ⟨by first | omega | decide, rfl⟩, hM⟩ dX9_count_79
  · obtain rfl : a = (5 : Int32) := Int32.toInt_inj.mp (c_1.trans (by decide))
    refine lv_tableIn (off := 79) (tgt := 80) hx hb dX9_count_1 (by decide) (by decide) rfl (by decide) ?_
    refine lv_aload_n hx hb dX9_count_80 rfl (lv_at hl 0 rfl) ?_
    refine hk_geti hx hb hts hC_9 hown hW gx td_9 11 (by decide) rfl kw_375 ⟨rfl, rfl, rfl⟩ f_x_11 dX9_count_81 ?_
    exact hx_reti hx hb hr hlk hW ⟨Or.inl ⟨by first | omega | decide, rfl⟩, hM⟩ dX9_count_84
  · obtain rfl : a = (6 : Int32) := Int32.toInt_inj.mp (c_1.trans (by decide))
    refine lv_tableIn (off := 84) (tgt := 85) hx hb dX9_count_1 (by decide) (by decide) rfl (by decide) ?_
    refine lv_aload_n hx hb dX9_count_85 rfl (lv_at hl 0 rfl) ?_
    refine hk_getr hx hb hts hC_9 hown hW gx td_9 14 (by decide) rfl kw_378 ⟨rfl, rfl, rfl⟩ f_x_14 dX9_count_86 ?_
    refine hk_geti hx hb hts hC_3 hown hW gqp td_3 0 (by decide) rfl kw_232 ⟨rfl, rfl, rfl⟩ f_qp_0 dX9_count_89 ?_
    exact hx_reti hx hb hr hlk hW ⟨Or.inl ⟨by first | omega | decide, rfl⟩, hM⟩ dX9_count_92
  · obtain rfl : a = (7 : Int32) := Int32.toInt_inj.mp (c_1.trans (by decide))
    refine lv_tableIn (off := 92) (tgt := 93) hx hb dX9_count_1 (by decide) (by decide) rfl (by decide) ?_
    refine lv_aload_n hx hb dX9_count_93 rfl (lv_at hl 0 rfl) ?_
    refine hk_geti hx hb hts hC_9 hown hW gx td_9 1 (by decide) rfl kw_365 ⟨rfl, rfl, rfl⟩ f_x_1 dX9_count_94 ?_
    exact hx_reti hx hb hr hlk hW ⟨Or.inl ⟨by first | omega | decide, rfl⟩, hM⟩ dX9_count_97
  · obtain rfl : a = (8 : Int32) := Int32.toInt_inj.mp (c_1.trans (by decide))
    refine lv_tableIn (off := 97) (tgt := 98) hx hb dX9_count_1 (by decide) (by decide) rfl (by decide) ?_
    refine lv_aload_n hx hb dX9_count_98 rfl (lv_at hl 0 rfl) ?_
    refine hk_getr hx hb hts hC_9 hown hW gx td_9 19 (by decide) rfl kw_383 ⟨rfl, rfl, rfl⟩ f_x_19 dX9_count_99 ?_
    refine hk_geti hx hb hts hC_8 hown hW gqw td_8 0 (by decide) rfl kw_346 ⟨rfl, rfl, rfl⟩ f_qw_0 dX9_count_102 ?_
    exact hx_reti hx hb hr hlk hW ⟨Or.inl ⟨by first | omega | decide, rfl⟩, hM⟩ dX9_count_105

theorem dX9_other_0 : decode cX9_other 0 = .ok (.iload_n 1, 1) := by decide +kernel
theorem dX9_other_1 : decode cX9_other 1 = .ok (.iconst (-1), 1) := by decide +kernel
theorem dX9_other_2 : decode cX9_other 2 = .ok (.if_icmp .lt 22, 3) := by decide +kernel
theorem dX9_other_5 : decode cX9_other 5 = .ok (.iload_n 1, 1) := by decide +kernel
theorem dX9_other_6 : decode cX9_other 6 = .ok (.aload_n 0, 1) := by decide +kernel
theorem dX9_other_7 : decode cX9_other 7 = .ok (.getfield 105, 3) := by decide +kernel
theorem dX9_other_10 : decode cX9_other 10 = .ok (.if_icmp .ge 14, 3) := by decide +kernel
theorem dX9_other_13 : decode cX9_other 13 = .ok (.iload_n 2, 1) := by decide +kernel
theorem dX9_other_14 : decode cX9_other 14 = .ok (.iconst 1, 1) := by decide +kernel
theorem dX9_other_15 : decode cX9_other 15 = .ok (.if_icmp .lt 9, 3) := by decide +kernel
theorem dX9_other_18 : decode cX9_other 18 = .ok (.iload_n 2, 1) := by decide +kernel
theorem dX9_other_19 : decode cX9_other 19 = .ok (.bipush 6, 2) := by decide +kernel
theorem dX9_other_21 : decode cX9_other 21 = .ok (.if_icmp .le 5, 3) := by decide +kernel
theorem dX9_other_24 : decode cX9_other 24 = .ok (.iconst (-1), 1) := by decide +kernel
theorem dX9_other_25 : decode cX9_other 25 = .ok (.ireturn, 1) := by decide +kernel
theorem dX9_other_26 : decode cX9_other 26 = .ok (.iload_n 1, 1) := by decide +kernel
theorem dX9_other_27 : decode cX9_other 27 = .ok (.iconst (-1), 1) := by decide +kernel
theorem dX9_other_28 : decode cX9_other 28 = .ok (.if_icmp .ne 10, 3) := by decide +kernel
theorem dX9_other_31 : decode cX9_other 31 = .ok (.aload_n 0, 1) := by decide +kernel
theorem dX9_other_32 : decode cX9_other 32 = .ok (.getfield 25, 3) := by decide +kernel
theorem dX9_other_35 : decode cX9_other 35 = .ok (.goto 9, 3) := by decide +kernel
theorem dX9_other_44 : decode cX9_other 44 = .ok (.astore_n 3, 1) := by decide +kernel
theorem dX9_other_45 : decode cX9_other 45 = .ok (.iconst 0, 1) := by decide +kernel
theorem dX9_other_46 : decode cX9_other 46 = .ok (.istore 4, 2) := by decide +kernel
theorem dX9_other_48 : decode cX9_other 48 = .ok (.iconst 0, 1) := by decide +kernel
theorem dX9_other_49 : decode cX9_other 49 = .ok (.istore 5, 2) := by decide +kernel
theorem dX9_other_51 : decode cX9_other 51 = .ok (.iconst 0, 1) := by decide +kernel
theorem dX9_other_52 : decode cX9_other 52 = .ok (.istore 6, 2) := by decide +kernel
theorem dX9_other_54 : decode cX9_other 54 = .ok (.iload 6, 2) := by decide +kernel
theorem dX9_other_56 : decode cX9_other 56 = .ok (.aload_n 0, 1) := by decide +kernel
theorem dX9_other_57 : decode cX9_other 57 = .ok (.getfield 216, 3) := by decide +kernel
theorem dX9_other_60 : decode cX9_other 60 = .ok (.if_icmp .ge 66, 3) := by decide +kernel
theorem dX9_other_126 : decode cX9_other 126 = .ok (.iload_n 2, 1) := by decide +kernel
theorem dX9_other_127 : decode cX9_other 127 = .ok (.iconst 5, 1) := by decide +kernel
theorem dX9_other_128 : decode cX9_other 128 = .ok (.if_icmp .le 8, 3) := by decide +kernel
theorem dX9_other_131 : decode cX9_other 131 = .ok (.iload 5, 2) := by decide +kernel
theorem dX9_other_133 : decode cX9_other 133 = .ok (.goto 5, 3) := by decide +kernel
theorem dX9_other_136 : decode cX9_other 136 = .ok (.iload 4, 2) := by decide +kernel
theorem dX9_other_138 : decode cX9_other 138 = .ok (.ireturn, 1) := by decide +kernel
set_option maxHeartbeats 4000000 in
set_option maxRecDepth 100000 in
theorem c_X9_other (l : Launch) (dC : Nat → ClassId) (dI : Nat → Nat → Nat) (dA : Nat → ClassId) (L : List Nat) (h : hx_h) (sz : Nat) (x : Nat) (a : Int32) (b : Int32) (gx : hx_g L h x 9) (f_x_6 : h.2.1 x 6 = 0) (qa : Nat) (gqa : hx_g L h qa 0) (f_x_4 : h.2.2 x 4 = some qa) (f_x_13 : h.2.1 x 13 = 0) : Met l yX9_other (Cond.code yX9_other cX9_other 8 (some .int) :: hx_all) ({ frames := 0, cells := 0, slots := 0, locals := 0 }) (va_Pc [.ref x, .int a, .int b] (hx_B P_tb (P_ty dA) (dC, dI) vwCl L h sz)) (va_Qi (fun (r : Int32) (u : List Nat × hx_h) => ((a.toInt = -1 ∧ 1 ≤ b.toInt ∧ b.toInt ≤ 6) ∧ r = 0 ∨ ¬ (a.toInt = -1 ∧ 1 ≤ b.toInt ∧ b.toInt ≤ 6) ∧ r = -1) ∧ hx_S P_tb [] L h u.1 u.2) (hx_E P_tb (P_ty dA) (dC, dI) vwCl (hx_A L sz)) (hx_A L sz)) 0 0 (hx_A L sz) := by
  refine hx_met (lv := [(0, .ref x), (1, .int a), (2, .int b)]) (by decide +kernel) rfl (Nat.le_of_ble_eq_true rfl) rfl ?_
  intro p e s m below meth c hx hb hml hr hlk hts0 hown hin hsz hW ls hl
  have hts : ∀ w ∈ hx_all, w.before _ s = true := fun w hw => hts0 w (List.mem_cons_of_mem _ hw)
  have hown : s.vm.findClass "SmallCourt" = some m.cls := hown
  have hM : hx_S P_tb [] L h L h := hx_S.rf
  refine lv_iload_n hx hb dX9_other_0 rfl (lv_at hl 1 rfl) ?_
  refine lv_iconst (v := -1) hx hb dX9_other_1 (by decide) ?_
  refine hb_icmp_lt (zx := a.toInt) (zy := (-1)) (tgt := 24) hx hb rfl (by decide) dX9_other_2 (by decide) (fun c_1 => ?_) (fun c_1 => ?_)
  · skip
    refine lv_iconst (v := -1) hx hb dX9_other_24 (by decide) ?_
    exact hx_reti hx hb hr hlk hW ⟨Or.inr ⟨by first | omega | decide, rfl⟩, hM⟩ dX9_other_25
  · skip
    refine lv_iload_n hx hb dX9_other_5 rfl (lv_at hl 1 rfl) ?_
    refine lv_aload_n hx hb dX9_other_6 rfl (lv_at hl 0 rfl) ?_
    refine hk_geti hx hb hts hC_9 hown hW gx td_9 6 (by decide) rfl kw_370 ⟨rfl, rfl, rfl⟩ f_x_6 dX9_other_7 ?_
    refine hb_icmp_ge (zx := a.toInt) (zy := 0) (tgt := 24) hx hb rfl (by decide) dX9_other_10 (by decide) (fun c_2 => ?_) (fun c_2 => ?_)
    · skip
      refine lv_iconst (v := -1) hx hb dX9_other_24 (by decide) ?_
      exact hx_reti hx hb hr hlk hW ⟨Or.inr ⟨by first | omega | decide, rfl⟩, hM⟩ dX9_other_25
    · skip
      refine lv_iload_n hx hb dX9_other_13 rfl (lv_at hl 2 rfl) ?_
      refine lv_iconst (v := 1) hx hb dX9_other_14 (by decide) ?_
      refine hb_icmp_lt (zx := b.toInt) (zy := 1) (tgt := 24) hx hb rfl (by decide) dX9_other_15 (by decide) (fun c_3 => ?_) (fun c_3 => ?_)
      · skip
        refine lv_iconst (v := -1) hx hb dX9_other_24 (by decide) ?_
        exact hx_reti hx hb hr hlk hW ⟨Or.inr ⟨by first | omega | decide, rfl⟩, hM⟩ dX9_other_25
      · skip
        refine lv_iload_n hx hb dX9_other_18 rfl (lv_at hl 2 rfl) ?_
        refine lv_bipush (v := 6) hx hb dX9_other_19 (by decide) ?_
        refine hb_icmp_le (zx := b.toInt) (zy := 6) (tgt := 26) hx hb rfl (by decide) dX9_other_21 (by decide) (fun c_4 => ?_) (fun c_4 => ?_)
        · skip
          refine lv_iload_n hx hb dX9_other_26 rfl (lv_at hl 1 rfl) ?_
          refine lv_iconst (v := -1) hx hb dX9_other_27 (by decide) ?_
          refine hb_icmp_ne (zx := a.toInt) (zy := (-1)) (tgt := 38) hx hb rfl (by decide) dX9_other_28 (by decide) (fun c_5 => by exfalso; omega) (fun c_5 => ?_)
          refine lv_aload_n hx hb dX9_other_31 rfl (lv_at hl 0 rfl) ?_
          refine hk_getr hx hb hts hC_9 hown hW gx td_9 4 (by decide) rfl kw_368 ⟨rfl, rfl, rfl⟩ f_x_4 dX9_other_32 ?_
          refine lv_goto (tgt := 44) hx hb dX9_other_35 (by decide) ?_
          refine lv_astore_n (lv' := [(3, .ref qa), (0, .ref x), (1, .int a), (2, .int b)]) hx hb dX9_other_44 rfl hl (by decide) rfl (fun ls hl => ?_)
          refine lv_iconst (v := 0) hx hb dX9_other_45 (by decide) ?_
          refine lv_istore (lv' := [(4, .int (0 : Int32)), (3, .ref qa), (0, .ref x), (1, .int a), (2, .int b)]) hx hb dX9_other_46 hl (by decide) rfl (fun ls hl => ?_)
          refine lv_iconst (v := 0) hx hb dX9_other_48 (by decide) ?_
          refine lv_istore (lv' := [(5, .int (0 : Int32)), (4, .int (0 : Int32)), (3, .ref qa), (0, .ref x), (1, .int a), (2, .int b)]) hx hb dX9_other_49 hl (by decide) rfl (fun ls hl => ?_)
          refine lv_iconst (v := 0) hx hb dX9_other_51 (by decide) ?_
          refine lv_istore (lv' := [(6, .int (0 : Int32)), (5, .int (0 : Int32)), (4, .int (0 : Int32)), (3, .ref qa), (0, .ref x), (1, .int a), (2, .int b)]) hx hb dX9_other_52 hl (by decide) rfl (fun ls hl => ?_)
          refine lv_iload hx hb dX9_other_54 (lv_at hl 0 rfl) ?_
          refine lv_aload_n hx hb dX9_other_56 rfl (lv_at hl 4 rfl) ?_
          refine hk_geti hx hb hts hC_9 hown hW gx td_9 13 (by decide) rfl kw_377 ⟨rfl, rfl, rfl⟩ f_x_13 dX9_other_57 ?_
          refine hb_icmp_ge (zx := 0) (zy := 0) (tgt := 126) hx hb (by decide) (by decide) dX9_other_60 (by decide) (fun c_6 => ?_) (fun c_6 => absurd c_6 (by decide))
          refine lv_iload_n hx hb dX9_other_126 rfl (lv_at hl 6 rfl) ?_
          refine lv_iconst (v := 5) hx hb dX9_other_127 (by decide) ?_
          refine hb_icmp_le (zx := b.toInt) (zy := 5) (tgt := 136) hx hb rfl (by decide) dX9_other_128 (by decide) (fun c_7 => ?_) (fun c_7 => ?_)
          · skip
            refine lv_iload hx hb dX9_other_136 (lv_at hl 2 rfl) ?_
            exact hx_reti hx hb hr hlk hW ⟨Or.inl ⟨by first | omega | decide, rfl⟩, hM⟩ dX9_other_138
          · skip
            refine lv_iload hx hb dX9_other_131 (lv_at hl 1 rfl) ?_
            refine lv_goto (tgt := 138) hx hb dX9_other_133 (by decide) ?_
            exact hx_reti hx hb hr hlk hW ⟨Or.inl ⟨by first | omega | decide, rfl⟩, hM⟩ dX9_other_138
        · skip
          refine lv_iconst (v := -1) hx hb dX9_other_24 (by decide) ?_
          exact hx_reti hx hb hr hlk hW ⟨Or.inr ⟨by first | omega | decide, rfl⟩, hM⟩ dX9_other_25
end
section
theorem dX10_isPerson_0 : decode cX10_isPerson 0 = .ok (.iload_n 1, 1) := by decide +kernel
theorem dX10_isPerson_1 : decode cX10_isPerson 1 = .ok (.iconst 0, 1) := by decide +kernel
theorem dX10_isPerson_2 : decode cX10_isPerson 2 = .ok (.aload_n 0, 1) := by decide +kernel
theorem dX10_isPerson_3 : decode cX10_isPerson 3 = .ok (.getfield 337, 3) := by decide +kernel
theorem dX10_isPerson_6 : decode cX10_isPerson 6 = .ok (.iconst 1, 1) := by decide +kernel
theorem dX10_isPerson_7 : decode cX10_isPerson 7 = .ok (.isub, 1) := by decide +kernel
theorem dX10_isPerson_8 : decode cX10_isPerson 8 = .ok (.invokestatic 228, 3) := by decide +kernel
theorem dX10_isPerson_11 : decode cX10_isPerson 11 = .ok (.ireturn, 1) := by decide +kernel
set_option maxHeartbeats 4000000 in
set_option maxRecDepth 100000 in
theorem c_X10_isPerson (l : Launch) (dC : Nat → ClassId) (dI : Nat → Nat → Nat) (dA : Nat → ClassId) (L : List Nat) (h : hx_h) (sz : Nat) (y : Nat) (i1 : Int32) (gy : hx_g L h y 10) (f_y_20 : h.2.1 y 20 = 0) : Met l yX10_isPerson (Cond.code yX10_isPerson cX10_isPerson 2 (some .boolean) :: hx_all) ({ frames := 1, cells := 0, slots := 0, locals := 22 }) (va_Pc [.ref y, .int i1] (hx_B P_tb (P_ty dA) (dC, dI) vwCl L h sz)) (va_Qi (fun (r : Int32) (u : List Nat × hx_h) => ((False) ∧ r = 1 ∨ ¬ (False) ∧ r = 0) ∧ u = (L, h)) (hx_E P_tb (P_ty dA) (dC, dI) vwCl (hx_A L sz)) (hx_A L sz)) 0 0 (hx_A L sz) := by
  refine hx_met (lv := [(0, .ref y), (1, .int i1)]) (by decide +kernel) rfl (Nat.le_of_ble_eq_true rfl) rfl ?_
  intro p e s m below meth c hx hb hml hr hlk hts0 hown hin hsz hW ls hl
  have hts : ∀ w ∈ hx_all, w.before _ s = true := fun w hw => hts0 w (List.mem_cons_of_mem _ hw)
  have hown : s.vm.findClass "SmallCourtModel" = some m.cls := hown
  refine lv_iload_n hx hb dX10_isPerson_0 rfl (lv_at hl 1 rfl) ?_
  refine lv_iconst (v := 0) hx hb dX10_isPerson_1 (by decide) ?_
  refine lv_aload_n hx hb dX10_isPerson_2 rfl (lv_at hl 0 rfl) ?_
  refine hk_geti hx hb hts hC_10 hown hW gy td_10 20 (by decide) rfl kw_1163 ⟨rfl, rfl, rfl⟩ f_y_20 dX10_isPerson_3 ?_
  refine lv_iconst (v := 1) hx hb dX10_isPerson_6 (by decide) ?_
  refine lv_isub hx hb dX10_isPerson_7 ?_
  refine lv_topi (fun x_1 ex_1 => ?_)
  obtain rfl : x_1 = (-1 : Int32) := ex_1.trans (by decide)
  refine hx_goi (hx_runS (As := [.int i1, .int (0 : Int32), .int (-1 : Int32)]) (rest := []) ⟨hx, hb, hml, hown, hts⟩ hW (c_X10_in l dC dI dA L h s.heap.size i1 (0 : Int32) (-1 : Int32)) (va_cwS 3 hts (hx_gS kw_1445 kw_1443 kw_1444 kw_103) rfl rfl rfl (by decide +kernel) ⟨Nat.le_of_ble_eq_true rfl, Nat.le_of_ble_eq_true rfl⟩) rfl hl.1 rfl (Nat.le_of_ble_eq_true rfl) dX10_isPerson_8 ⟨Nat.le_of_ble_eq_true rfl, Nat.le_of_ble_eq_true rfl⟩) hW (fun r_4 L_2 h_3 H locs p_5 hW => ?_)
  obtain ⟨p_5, eu⟩ := p_5
  cases eu
  rcases p_5 with ⟨kp_5, rfl⟩ | ⟨kp_5, rfl⟩
  · exfalso
    have zc1 : (0 : Int32).toInt = 0 := by decide
    have zc2 : (-1 : Int32).toInt = -1 := by decide
    omega
  · skip
    have zc1 : (0 : Int32).toInt = 0 := by decide
    have zc2 : (-1 : Int32).toInt = -1 := by decide
    exact hx_retz hx hb hr rfl hlk hW ⟨Or.inr ⟨by first | omega | exact id, rfl⟩, rfl⟩ dX10_isPerson_11

theorem dX10_isClaim_0 : decode cX10_isClaim 0 = .ok (.iload_n 1, 1) := by decide +kernel
theorem dX10_isClaim_1 : decode cX10_isClaim 1 = .ok (.iconst 0, 1) := by decide +kernel
theorem dX10_isClaim_2 : decode cX10_isClaim 2 = .ok (.aload_n 0, 1) := by decide +kernel
theorem dX10_isClaim_3 : decode cX10_isClaim 3 = .ok (.getfield 367, 3) := by decide +kernel
theorem dX10_isClaim_6 : decode cX10_isClaim 6 = .ok (.iconst 1, 1) := by decide +kernel
theorem dX10_isClaim_7 : decode cX10_isClaim 7 = .ok (.isub, 1) := by decide +kernel
theorem dX10_isClaim_8 : decode cX10_isClaim 8 = .ok (.invokestatic 228, 3) := by decide +kernel
theorem dX10_isClaim_11 : decode cX10_isClaim 11 = .ok (.ireturn, 1) := by decide +kernel
set_option maxHeartbeats 4000000 in
set_option maxRecDepth 100000 in
theorem c_X10_isClaim (l : Launch) (dC : Nat → ClassId) (dI : Nat → Nat → Nat) (dA : Nat → ClassId) (L : List Nat) (h : hx_h) (sz : Nat) (y : Nat) (i1 : Int32) (gy : hx_g L h y 10) (f_y_36 : h.2.1 y 36 = 0) : Met l yX10_isClaim (Cond.code yX10_isClaim cX10_isClaim 2 (some .boolean) :: hx_all) ({ frames := 1, cells := 0, slots := 0, locals := 22 }) (va_Pc [.ref y, .int i1] (hx_B P_tb (P_ty dA) (dC, dI) vwCl L h sz)) (va_Qi (fun (r : Int32) (u : List Nat × hx_h) => ((False) ∧ r = 1 ∨ ¬ (False) ∧ r = 0) ∧ u = (L, h)) (hx_E P_tb (P_ty dA) (dC, dI) vwCl (hx_A L sz)) (hx_A L sz)) 0 0 (hx_A L sz) := by
  refine hx_met (lv := [(0, .ref y), (1, .int i1)]) (by decide +kernel) rfl (Nat.le_of_ble_eq_true rfl) rfl ?_
  intro p e s m below meth c hx hb hml hr hlk hts0 hown hin hsz hW ls hl
  have hts : ∀ w ∈ hx_all, w.before _ s = true := fun w hw => hts0 w (List.mem_cons_of_mem _ hw)
  have hown : s.vm.findClass "SmallCourtModel" = some m.cls := hown
  refine lv_iload_n hx hb dX10_isClaim_0 rfl (lv_at hl 1 rfl) ?_
  refine lv_iconst (v := 0) hx hb dX10_isClaim_1 (by decide) ?_
  refine lv_aload_n hx hb dX10_isClaim_2 rfl (lv_at hl 0 rfl) ?_
  refine hk_geti hx hb hts hC_10 hown hW gy td_10 36 (by decide) rfl kw_1179 ⟨rfl, rfl, rfl⟩ f_y_36 dX10_isClaim_3 ?_
  refine lv_iconst (v := 1) hx hb dX10_isClaim_6 (by decide) ?_
  refine lv_isub hx hb dX10_isClaim_7 ?_
  refine lv_topi (fun x_1 ex_1 => ?_)
  obtain rfl : x_1 = (-1 : Int32) := ex_1.trans (by decide)
  refine hx_goi (hx_runS (As := [.int i1, .int (0 : Int32), .int (-1 : Int32)]) (rest := []) ⟨hx, hb, hml, hown, hts⟩ hW (c_X10_in l dC dI dA L h s.heap.size i1 (0 : Int32) (-1 : Int32)) (va_cwS 3 hts (hx_gS kw_1445 kw_1443 kw_1444 kw_103) rfl rfl rfl (by decide +kernel) ⟨Nat.le_of_ble_eq_true rfl, Nat.le_of_ble_eq_true rfl⟩) rfl hl.1 rfl (Nat.le_of_ble_eq_true rfl) dX10_isClaim_8 ⟨Nat.le_of_ble_eq_true rfl, Nat.le_of_ble_eq_true rfl⟩) hW (fun r_4 L_2 h_3 H locs p_5 hW => ?_)
  obtain ⟨p_5, eu⟩ := p_5
  cases eu
  rcases p_5 with ⟨kp_5, rfl⟩ | ⟨kp_5, rfl⟩
  · exfalso
    have zc1 : (0 : Int32).toInt = 0 := by decide
    have zc2 : (-1 : Int32).toInt = -1 := by decide
    omega
  · skip
    have zc1 : (0 : Int32).toInt = 0 := by decide
    have zc2 : (-1 : Int32).toInt = -1 := by decide
    exact hx_retz hx hb hr rfl hlk hW ⟨Or.inr ⟨by first | omega | exact id, rfl⟩, rfl⟩ dX10_isClaim_11
end
section
theorem dX10_clock_0 : decode cX10_clock 0 = .ok (.iload_n 1, 1) := by decide +kernel
theorem dX10_clock_1 : decode cX10_clock 1 = .ok (.aload_n 0, 1) := by decide +kernel
theorem dX10_clock_2 : decode cX10_clock 2 = .ok (.getfield 232, 3) := by decide +kernel
theorem dX10_clock_5 : decode cX10_clock 5 = .ok (.sipush 7999, 3) := by decide +kernel
theorem dX10_clock_8 : decode cX10_clock 8 = .ok (.invokestatic 228, 3) := by decide +kernel
theorem dX10_clock_11 : decode cX10_clock 11 = .ok (.ifCond .ne 5, 3) := by decide +kernel
theorem dX10_clock_14 : decode cX10_clock 14 = .ok (.iconst 0, 1) := by decide +kernel
theorem dX10_clock_15 : decode cX10_clock 15 = .ok (.ireturn, 1) := by decide +kernel
theorem dX10_clock_16 : decode cX10_clock 16 = .ok (.aload_n 0, 1) := by decide +kernel
theorem dX10_clock_17 : decode cX10_clock 17 = .ok (.iload_n 1, 1) := by decide +kernel
theorem dX10_clock_18 : decode cX10_clock 18 = .ok (.putfield 232, 3) := by decide +kernel
theorem dX10_clock_21 : decode cX10_clock 21 = .ok (.iconst 1, 1) := by decide +kernel
theorem dX10_clock_22 : decode cX10_clock 22 = .ok (.ireturn, 1) := by decide +kernel
set_option maxHeartbeats 4000000 in
set_option maxRecDepth 100000 in
theorem c_X10_clock (l : Launch) (dC : Nat → ClassId) (dI : Nat → Nat → Nat) (dA : Nat → ClassId) (L : List Nat) (h : hx_h) (sz : Nat) (y : Nat) (d : Int32) (gy : hx_g L h y 10) (f_y_0 : h.2.1 y 0 = 0) : Met l yX10_clock (Cond.code yX10_clock cX10_clock 2 (some .boolean) :: hx_all) ({ frames := 1, cells := 0, slots := 0, locals := 22 }) (va_Pc [.ref y, .int d] (hx_B P_tb (P_ty dA) (dC, dI) vwCl L h sz)) (va_Qi (fun (r : Int32) (u : List Nat × hx_h) => ((0 ≤ d.toInt ∧ d.toInt ≤ 7999) ∧ r = 1 ∨ ¬ (0 ≤ d.toInt ∧ d.toInt ≤ 7999) ∧ r = 0) ∧ hx_S P_tb [(10, 0)] L h u.1 u.2) (hx_E P_tb (P_ty dA) (dC, dI) vwCl (hx_A L sz)) (hx_A L sz)) 0 0 (hx_A L sz) := by
  refine hx_met (lv := [(0, .ref y), (1, .int d)]) (by decide +kernel) rfl (Nat.le_of_ble_eq_true rfl) rfl ?_
  intro p e s m below meth c hx hb hml hr hlk hts0 hown hin hsz hW ls hl
  have hts : ∀ w ∈ hx_all, w.before _ s = true := fun w hw => hts0 w (List.mem_cons_of_mem _ hw)
  have hown : s.vm.findClass "SmallCourtModel" = some m.cls := hown
  have hM : hx_S P_tb [(10, 0)] L h L h := hx_S.rf
  refine lv_iload_n hx hb dX10_clock_0 rfl (lv_at hl 1 rfl) ?_
  refine lv_aload_n hx hb dX10_clock_1 rfl (lv_at hl 0 rfl) ?_
  refine hk_geti hx hb hts hC_10 hown hW gy td_10 0 (by decide) rfl kw_1143 ⟨rfl, rfl, rfl⟩ f_y_0 dX10_clock_2 ?_
  refine lv_sipush (v := 7999) hx hb dX10_clock_5 (by decide) ?_
  refine hx_goi (hx_runS (As := [.int d, .int (0 : Int32), .int (7999 : Int32)]) (rest := []) ⟨hx, hb, hml, hown, hts⟩ hW (c_X10_in l dC dI dA L h s.heap.size d (0 : Int32) (7999 : Int32)) (va_cwS 3 hts (hx_gS kw_1445 kw_1443 kw_1444 kw_103) rfl rfl rfl (by decide +kernel) ⟨Nat.le_of_ble_eq_true rfl, Nat.le_of_ble_eq_true rfl⟩) rfl hl.1 rfl (Nat.le_of_ble_eq_true rfl) dX10_clock_8 ⟨Nat.le_of_ble_eq_true rfl, Nat.le_of_ble_eq_true rfl⟩) hW (fun r_3 L_1 h_2 H locs p_4 hW => ?_)
  obtain ⟨p_4, eu⟩ := p_4
  cases eu
  rcases p_4 with ⟨kp_4, rfl⟩ | ⟨kp_4, rfl⟩
  · skip
    have zc1 : (0 : Int32).toInt = 0 := by decide
    have zc2 : (7999 : Int32).toInt = 7999 := by decide
    refine hb_if_ne (zx := 1) (tgt := 16) hx hb (by decide) dX10_clock_11 (by decide) (fun c_5 => ?_) (fun c_5 => absurd c_5 (by decide))
    refine lv_aload_n hx hb dX10_clock_16 rfl (lv_at hl 0 rfl) ?_
    refine lv_iload_n hx hb dX10_clock_17 rfl (lv_at hl 1 rfl) ?_
    refine hk_puti hx hb hts hC_10 hown hW gy td_10 0 (by decide) rfl kw_1143 ⟨rfl, rfl, rfl⟩ rfl (x := d) rfl rfl rfl dX10_clock_18 (fun H locs h_6 eh_6 hW hs => ?_)
    have hM := hM.tr (hs.mono (by decide))
    have gy := gy.S hs
    have f_7 : h_6.2.1 y 0 = d := by rw [eh_6]; exact hx_pi_at _ _ _ _
    refine lv_iconst (v := 1) hx hb dX10_clock_21 (by decide) ?_
    exact hx_retz hx hb hr rfl hlk hW ⟨Or.inl ⟨by first | omega | decide, rfl⟩, hM⟩ dX10_clock_22
  · skip
    have zc1 : (0 : Int32).toInt = 0 := by decide
    have zc2 : (7999 : Int32).toInt = 7999 := by decide
    refine hb_if_ne (zx := 0) (tgt := 16) hx hb (by decide) dX10_clock_11 (by decide) (fun c_8 => absurd c_8 (by decide)) (fun c_8 => ?_)
    refine lv_iconst (v := 0) hx hb dX10_clock_14 (by decide) ?_
    exact hx_retz hx hb hr rfl hlk hW ⟨Or.inr ⟨by first | omega | decide, rfl⟩, hM⟩ dX10_clock_15

theorem dX10_anew_0 : decode cX10_anew 0 = .ok (.aload_n 0, 1) := by decide +kernel
theorem dX10_anew_1 : decode cX10_anew 1 = .ok (.iload_n 1, 1) := by decide +kernel
theorem dX10_anew_2 : decode cX10_anew 2 = .ok (.invokevirtual 348, 3) := by decide +kernel
theorem dX10_anew_5 : decode cX10_anew 5 = .ok (.ifCond .eq 24, 3) := by decide +kernel
theorem dX10_anew_29 : decode cX10_anew 29 = .ok (.iconst 0, 1) := by decide +kernel
theorem dX10_anew_30 : decode cX10_anew 30 = .ok (.ireturn, 1) := by decide +kernel
set_option maxHeartbeats 4000000 in
set_option maxRecDepth 100000 in
theorem c_X10_anew (l : Launch) (dC : Nat → ClassId) (dI : Nat → Nat → Nat) (dA : Nat → ClassId) (L : List Nat) (h : hx_h) (sz : Nat) (y : Nat) (i1 : Int32) (i2 : Int32) (i3 : Int32) (i4 : Int32) (i5 : Int32) (gy : hx_g L h y 10) (f_y_20 : h.2.1 y 20 = 0) : Met l yX10_anew (Cond.code yX10_anew cX10_anew 6 (some .boolean) :: hx_all) ({ frames := 2, cells := 0, slots := 0, locals := 43 }) (va_Pc [.ref y, .int i1, .int i2, .int i3, .int i4, .int i5] (hx_B P_tb (P_ty dA) (dC, dI) vwCl L h sz)) (va_Qi (fun (r : Int32) (u : List Nat × hx_h) => (r = 0) ∧ hx_S P_tb [] L h u.1 u.2) (hx_E P_tb (P_ty dA) (dC, dI) vwCl (hx_A L sz)) (hx_A L sz)) 0 0 (hx_A L sz) := by
  refine hx_met (lv := [(0, .ref y), (1, .int i1), (2, .int i2), (3, .int i3), (4, .int i4), (5, .int i5)]) (by decide +kernel) rfl (Nat.le_of_ble_eq_true rfl) rfl ?_
  intro p e s m below meth c hx hb hml hr hlk hts0 hown hin hsz hW ls hl
  have hts : ∀ w ∈ hx_all, w.before _ s = true := fun w hw => hts0 w (List.mem_cons_of_mem _ hw)
  have hown : s.vm.findClass "SmallCourtModel" = some m.cls := hown
  have hM : hx_S P_tb [] L h L h := hx_S.rf
  refine lv_aload_n hx hb dX10_anew_0 rfl (lv_at hl 0 rfl) ?_
  refine lv_iload_n hx hb dX10_anew_1 rfl (lv_at hl 1 rfl) ?_
  refine hx_goi (hx_runV (As := [.int i1]) (rest := []) ⟨hx, hb, hml, hown, hts⟩ hW gy td_10 (T := TX10) (N := 98) rfl (c_X10_isPerson l dC dI dA L h s.heap.size y i1 gy f_y_20) (cwV 1 hts (hx_gV kw_1552 kw_1549 kw_1551 kw_68 kw_103) rfl rfl rfl (by decide +kernel) ⟨Nat.le_of_ble_eq_true rfl, Nat.le_of_ble_eq_true rfl⟩) rfl hl.1 rfl (Nat.le_of_ble_eq_true rfl) dX10_anew_2 ⟨Nat.le_of_ble_eq_true rfl, Nat.le_of_ble_eq_true rfl⟩) hW (fun r_3 L_1 h_2 H locs p_4 hW => ?_)
  obtain ⟨p_4, eu⟩ := p_4
  cases eu
  rcases p_4 with ⟨kp_4, rfl⟩ | ⟨kp_4, rfl⟩
  · exfalso
    omega
  · skip
    refine hb_if_eq (zx := 0) (tgt := 29) hx hb (by decide) dX10_anew_5 (by decide) (fun c_5 => ?_) (fun c_5 => absurd c_5 (by decide))
    refine lv_iconst (v := 0) hx hb dX10_anew_29 (by decide) ?_
    exact hx_retz hx hb hr rfl hlk hW ⟨rfl, hM⟩ dX10_anew_30

theorem dX10_dies_0 : decode cX10_dies 0 = .ok (.aload_n 0, 1) := by decide +kernel
theorem dX10_dies_1 : decode cX10_dies 1 = .ok (.iload_n 1, 1) := by decide +kernel
theorem dX10_dies_2 : decode cX10_dies 2 = .ok (.invokevirtual 348, 3) := by decide +kernel
theorem dX10_dies_5 : decode cX10_dies 5 = .ok (.ifCond .eq 12, 3) := by decide +kernel
theorem dX10_dies_17 : decode cX10_dies 17 = .ok (.iconst 0, 1) := by decide +kernel
theorem dX10_dies_18 : decode cX10_dies 18 = .ok (.ireturn, 1) := by decide +kernel
set_option maxHeartbeats 4000000 in
set_option maxRecDepth 100000 in
theorem c_X10_dies (l : Launch) (dC : Nat → ClassId) (dI : Nat → Nat → Nat) (dA : Nat → ClassId) (L : List Nat) (h : hx_h) (sz : Nat) (y : Nat) (a : Int32) (gy : hx_g L h y 10) (f_y_20 : h.2.1 y 20 = 0) : Met l yX10_dies (Cond.code yX10_dies cX10_dies 2 (some .boolean) :: hx_all) ({ frames := 2, cells := 0, slots := 0, locals := 43 }) (va_Pc [.ref y, .int a] (hx_B P_tb (P_ty dA) (dC, dI) vwCl L h sz)) (va_Qi (fun (r : Int32) (u : List Nat × hx_h) => (r = 0) ∧ hx_S P_tb [] L h u.1 u.2) (hx_E P_tb (P_ty dA) (dC, dI) vwCl (hx_A L sz)) (hx_A L sz)) 0 0 (hx_A L sz) := by
  refine hx_met (lv := [(0, .ref y), (1, .int a)]) (by decide +kernel) rfl (Nat.le_of_ble_eq_true rfl) rfl ?_
  intro p e s m below meth c hx hb hml hr hlk hts0 hown hin hsz hW ls hl
  have hts : ∀ w ∈ hx_all, w.before _ s = true := fun w hw => hts0 w (List.mem_cons_of_mem _ hw)
  have hown : s.vm.findClass "SmallCourtModel" = some m.cls := hown
  have hM : hx_S P_tb [] L h L h := hx_S.rf
  refine lv_aload_n hx hb dX10_dies_0 rfl (lv_at hl 0 rfl) ?_
  refine lv_iload_n hx hb dX10_dies_1 rfl (lv_at hl 1 rfl) ?_
  refine hx_goi (hx_runV (As := [.int a]) (rest := []) ⟨hx, hb, hml, hown, hts⟩ hW gy td_10 (T := TX10) (N := 98) rfl (c_X10_isPerson l dC dI dA L h s.heap.size y a gy f_y_20) (cwV 1 hts (hx_gV kw_1552 kw_1549 kw_1551 kw_68 kw_103) rfl rfl rfl (by decide +kernel) ⟨Nat.le_of_ble_eq_true rfl, Nat.le_of_ble_eq_true rfl⟩) rfl hl.1 rfl (Nat.le_of_ble_eq_true rfl) dX10_dies_2 ⟨Nat.le_of_ble_eq_true rfl, Nat.le_of_ble_eq_true rfl⟩) hW (fun r_3 L_1 h_2 H locs p_4 hW => ?_)
  obtain ⟨p_4, eu⟩ := p_4
  cases eu
  rcases p_4 with ⟨kp_4, rfl⟩ | ⟨kp_4, rfl⟩
  · exfalso
    omega
  · skip
    refine hb_if_eq (zx := 0) (tgt := 17) hx hb (by decide) dX10_dies_5 (by decide) (fun c_5 => ?_) (fun c_5 => absurd c_5 (by decide))
    refine lv_iconst (v := 0) hx hb dX10_dies_17 (by decide) ?_
    exact hx_retz hx hb hr rfl hlk hW ⟨rfl, hM⟩ dX10_dies_18

theorem dX10_judge_0 : decode cX10_judge 0 = .ok (.aload_n 0, 1) := by decide +kernel
theorem dX10_judge_1 : decode cX10_judge 1 = .ok (.iload_n 1, 1) := by decide +kernel
theorem dX10_judge_2 : decode cX10_judge 2 = .ok (.invokevirtual 348, 3) := by decide +kernel
theorem dX10_judge_5 : decode cX10_judge 5 = .ok (.ifCond .eq 13, 3) := by decide +kernel
theorem dX10_judge_18 : decode cX10_judge 18 = .ok (.iconst 0, 1) := by decide +kernel
theorem dX10_judge_19 : decode cX10_judge 19 = .ok (.ireturn, 1) := by decide +kernel
set_option maxHeartbeats 4000000 in
set_option maxRecDepth 100000 in
theorem c_X10_judge (l : Launch) (dC : Nat → ClassId) (dI : Nat → Nat → Nat) (dA : Nat → ClassId) (L : List Nat) (h : hx_h) (sz : Nat) (y : Nat) (a : Int32) (b : Int32) (gy : hx_g L h y 10) (f_y_20 : h.2.1 y 20 = 0) : Met l yX10_judge (Cond.code yX10_judge cX10_judge 3 (some .boolean) :: hx_all) ({ frames := 2, cells := 0, slots := 0, locals := 43 }) (va_Pc [.ref y, .int a, .int b] (hx_B P_tb (P_ty dA) (dC, dI) vwCl L h sz)) (va_Qi (fun (r : Int32) (u : List Nat × hx_h) => (r = 0) ∧ hx_S P_tb [] L h u.1 u.2) (hx_E P_tb (P_ty dA) (dC, dI) vwCl (hx_A L sz)) (hx_A L sz)) 0 0 (hx_A L sz) := by
  refine hx_met (lv := [(0, .ref y), (1, .int a), (2, .int b)]) (by decide +kernel) rfl (Nat.le_of_ble_eq_true rfl) rfl ?_
  intro p e s m below meth c hx hb hml hr hlk hts0 hown hin hsz hW ls hl
  have hts : ∀ w ∈ hx_all, w.before _ s = true := fun w hw => hts0 w (List.mem_cons_of_mem _ hw)
  have hown : s.vm.findClass "SmallCourtModel" = some m.cls := hown
  have hM : hx_S P_tb [] L h L h := hx_S.rf
  refine lv_aload_n hx hb dX10_judge_0 rfl (lv_at hl 0 rfl) ?_
  refine lv_iload_n hx hb dX10_judge_1 rfl (lv_at hl 1 rfl) ?_
  refine hx_goi (hx_runV (As := [.int a]) (rest := []) ⟨hx, hb, hml, hown, hts⟩ hW gy td_10 (T := TX10) (N := 98) rfl (c_X10_isPerson l dC dI dA L h s.heap.size y a gy f_y_20) (cwV 1 hts (hx_gV kw_1552 kw_1549 kw_1551 kw_68 kw_103) rfl rfl rfl (by decide +kernel) ⟨Nat.le_of_ble_eq_true rfl, Nat.le_of_ble_eq_true rfl⟩) rfl hl.1 rfl (Nat.le_of_ble_eq_true rfl) dX10_judge_2 ⟨Nat.le_of_ble_eq_true rfl, Nat.le_of_ble_eq_true rfl⟩) hW (fun r_3 L_1 h_2 H locs p_4 hW => ?_)
  obtain ⟨p_4, eu⟩ := p_4
  cases eu
  rcases p_4 with ⟨kp_4, rfl⟩ | ⟨kp_4, rfl⟩
  · exfalso
    omega
  · skip
    refine hb_if_eq (zx := 0) (tgt := 18) hx hb (by decide) dX10_judge_5 (by decide) (fun c_5 => ?_) (fun c_5 => absurd c_5 (by decide))
    refine lv_iconst (v := 0) hx hb dX10_judge_18 (by decide) ?_
    exact hx_retz hx hb hr rfl hlk hW ⟨rfl, hM⟩ dX10_judge_19

theorem dX10_book_0 : decode cX10_book 0 = .ok (.aload_n 0, 1) := by decide +kernel
theorem dX10_book_1 : decode cX10_book 1 = .ok (.iload_n 1, 1) := by decide +kernel
theorem dX10_book_2 : decode cX10_book 2 = .ok (.invokevirtual 348, 3) := by decide +kernel
theorem dX10_book_5 : decode cX10_book 5 = .ok (.ifCond .eq 23, 3) := by decide +kernel
theorem dX10_book_28 : decode cX10_book 28 = .ok (.ldc_w 357, 3) := by decide +kernel
theorem dX10_book_31 : decode cX10_book 31 = .ok (.ireturn, 1) := by decide +kernel
set_option maxHeartbeats 4000000 in
set_option maxRecDepth 100000 in
theorem c_X10_book (l : Launch) (dC : Nat → ClassId) (dI : Nat → Nat → Nat) (dA : Nat → ClassId) (L : List Nat) (h : hx_h) (sz : Nat) (y : Nat) (i1 : Int32) (i2 : Int32) (i3 : Int32) (i4 : Int32) (gy : hx_g L h y 10) (f_y_20 : h.2.1 y 20 = 0) : Met l yX10_book (Cond.code yX10_book cX10_book 5 (some .int) :: hx_all) ({ frames := 2, cells := 0, slots := 0, locals := 43 }) (va_Pc [.ref y, .int i1, .int i2, .int i3, .int i4] (hx_B P_tb (P_ty dA) (dC, dI) vwCl L h sz)) (va_Qi (fun (r : Int32) (u : List Nat × hx_h) => (r = -1000000) ∧ hx_S P_tb [] L h u.1 u.2) (hx_E P_tb (P_ty dA) (dC, dI) vwCl (hx_A L sz)) (hx_A L sz)) 0 0 (hx_A L sz) := by
  refine hx_met (lv := [(0, .ref y), (1, .int i1), (2, .int i2), (3, .int i3), (4, .int i4)]) (by decide +kernel) rfl (Nat.le_of_ble_eq_true rfl) rfl ?_
  intro p e s m below meth c hx hb hml hr hlk hts0 hown hin hsz hW ls hl
  have hts : ∀ w ∈ hx_all, w.before _ s = true := fun w hw => hts0 w (List.mem_cons_of_mem _ hw)
  have hown : s.vm.findClass "SmallCourtModel" = some m.cls := hown
  have hM : hx_S P_tb [] L h L h := hx_S.rf
  refine lv_aload_n hx hb dX10_book_0 rfl (lv_at hl 0 rfl) ?_
  refine lv_iload_n hx hb dX10_book_1 rfl (lv_at hl 1 rfl) ?_
  refine hx_goi (hx_runV (As := [.int i1]) (rest := []) ⟨hx, hb, hml, hown, hts⟩ hW gy td_10 (T := TX10) (N := 98) rfl (c_X10_isPerson l dC dI dA L h s.heap.size y i1 gy f_y_20) (cwV 1 hts (hx_gV kw_1552 kw_1549 kw_1551 kw_68 kw_103) rfl rfl rfl (by decide +kernel) ⟨Nat.le_of_ble_eq_true rfl, Nat.le_of_ble_eq_true rfl⟩) rfl hl.1 rfl (Nat.le_of_ble_eq_true rfl) dX10_book_2 ⟨Nat.le_of_ble_eq_true rfl, Nat.le_of_ble_eq_true rfl⟩) hW (fun r_3 L_1 h_2 H locs p_4 hW => ?_)
  obtain ⟨p_4, eu⟩ := p_4
  cases eu
  rcases p_4 with ⟨kp_4, rfl⟩ | ⟨kp_4, rfl⟩
  · exfalso
    omega
  · skip
    refine hb_if_eq (zx := 0) (tgt := 28) hx hb (by decide) dX10_book_5 (by decide) (fun c_5 => ?_) (fun c_5 => absurd c_5 (by decide))
    refine lv_ldcw (v := -1000000) hx hb hown (hts _ kw_1569) dX10_book_28 ?_
    exact hx_reti hx hb hr hlk hW ⟨rfl, hM⟩ dX10_book_31

theorem dX10_summons_0 : decode cX10_summons 0 = .ok (.aload_n 0, 1) := by decide +kernel
theorem dX10_summons_1 : decode cX10_summons 1 = .ok (.iload_n 1, 1) := by decide +kernel
theorem dX10_summons_2 : decode cX10_summons 2 = .ok (.invokevirtual 370, 3) := by decide +kernel
theorem dX10_summons_5 : decode cX10_summons 5 = .ok (.ifCond .eq 23, 3) := by decide +kernel
theorem dX10_summons_28 : decode cX10_summons 28 = .ok (.iconst (-1), 1) := by decide +kernel
theorem dX10_summons_29 : decode cX10_summons 29 = .ok (.ireturn, 1) := by decide +kernel
set_option maxHeartbeats 4000000 in
set_option maxRecDepth 100000 in
theorem c_X10_summons (l : Launch) (dC : Nat → ClassId) (dI : Nat → Nat → Nat) (dA : Nat → ClassId) (L : List Nat) (h : hx_h) (sz : Nat) (y : Nat) (a : Int32) (b : Int32) (gy : hx_g L h y 10) (f_y_36 : h.2.1 y 36 = 0) : Met l yX10_summons (Cond.code yX10_summons cX10_summons 3 (some .int) :: hx_all) ({ frames := 2, cells := 0, slots := 0, locals := 43 }) (va_Pc [.ref y, .int a, .int b] (hx_B P_tb (P_ty dA) (dC, dI) vwCl L h sz)) (va_Qi (fun (r : Int32) (u : List Nat × hx_h) => (r = -1) ∧ hx_S P_tb [] L h u.1 u.2) (hx_E P_tb (P_ty dA) (dC, dI) vwCl (hx_A L sz)) (hx_A L sz)) 0 0 (hx_A L sz) := by
  refine hx_met (lv := [(0, .ref y), (1, .int a), (2, .int b)]) (by decide +kernel) rfl (Nat.le_of_ble_eq_true rfl) rfl ?_
  intro p e s m below meth c hx hb hml hr hlk hts0 hown hin hsz hW ls hl
  have hts : ∀ w ∈ hx_all, w.before _ s = true := fun w hw => hts0 w (List.mem_cons_of_mem _ hw)
  have hown : s.vm.findClass "SmallCourtModel" = some m.cls := hown
  have hM : hx_S P_tb [] L h L h := hx_S.rf
  refine lv_aload_n hx hb dX10_summons_0 rfl (lv_at hl 0 rfl) ?_
  refine lv_iload_n hx hb dX10_summons_1 rfl (lv_at hl 1 rfl) ?_
  refine hx_goi (hx_runV (As := [.int a]) (rest := []) ⟨hx, hb, hml, hown, hts⟩ hW gy td_10 (T := TX10) (N := 98) rfl (c_X10_isClaim l dC dI dA L h s.heap.size y a gy f_y_36) (cwV 1 hts (hx_gV kw_1597 kw_1594 kw_1596 kw_73 kw_103) rfl rfl rfl (by decide +kernel) ⟨Nat.le_of_ble_eq_true rfl, Nat.le_of_ble_eq_true rfl⟩) rfl hl.1 rfl (Nat.le_of_ble_eq_true rfl) dX10_summons_2 ⟨Nat.le_of_ble_eq_true rfl, Nat.le_of_ble_eq_true rfl⟩) hW (fun r_3 L_1 h_2 H locs p_4 hW => ?_)
  obtain ⟨p_4, eu⟩ := p_4
  cases eu
  rcases p_4 with ⟨kp_4, rfl⟩ | ⟨kp_4, rfl⟩
  · exfalso
    omega
  · skip
    refine hb_if_eq (zx := 0) (tgt := 28) hx hb (by decide) dX10_summons_5 (by decide) (fun c_5 => ?_) (fun c_5 => absurd c_5 (by decide))
    refine lv_iconst (v := -1) hx hb dX10_summons_28 (by decide) ?_
    exact hx_reti hx hb hr hlk hW ⟨rfl, hM⟩ dX10_summons_29

theorem dX10_hear_0 : decode cX10_hear 0 = .ok (.aload_n 0, 1) := by decide +kernel
theorem dX10_hear_1 : decode cX10_hear 1 = .ok (.iload_n 1, 1) := by decide +kernel
theorem dX10_hear_2 : decode cX10_hear 2 = .ok (.invokevirtual 370, 3) := by decide +kernel
theorem dX10_hear_5 : decode cX10_hear 5 = .ok (.ifCond .eq 42, 3) := by decide +kernel
theorem dX10_hear_47 : decode cX10_hear 47 = .ok (.iconst (-1), 1) := by decide +kernel
theorem dX10_hear_48 : decode cX10_hear 48 = .ok (.ireturn, 1) := by decide +kernel
set_option maxHeartbeats 4000000 in
set_option maxRecDepth 100000 in
theorem c_X10_hear (l : Launch) (dC : Nat → ClassId) (dI : Nat → Nat → Nat) (dA : Nat → ClassId) (L : List Nat) (h : hx_h) (sz : Nat) (y : Nat) (i1 : Int32) (i2 : Int32) (i3 : Int32) (i4 : Int32) (gy : hx_g L h y 10) (f_y_36 : h.2.1 y 36 = 0) : Met l yX10_hear (Cond.code yX10_hear cX10_hear 6 (some .int) :: hx_all) ({ frames := 2, cells := 0, slots := 0, locals := 43 }) (va_Pc [.ref y, .int i1, .int i2, .int i3, .int i4] (hx_B P_tb (P_ty dA) (dC, dI) vwCl L h sz)) (va_Qi (fun (r : Int32) (u : List Nat × hx_h) => (r = -1) ∧ hx_S P_tb [] L h u.1 u.2) (hx_E P_tb (P_ty dA) (dC, dI) vwCl (hx_A L sz)) (hx_A L sz)) 0 0 (hx_A L sz) := by
  refine hx_met (lv := [(0, .ref y), (1, .int i1), (2, .int i2), (3, .int i3), (4, .int i4)]) (by decide +kernel) rfl (Nat.le_of_ble_eq_true rfl) rfl ?_
  intro p e s m below meth c hx hb hml hr hlk hts0 hown hin hsz hW ls hl
  have hts : ∀ w ∈ hx_all, w.before _ s = true := fun w hw => hts0 w (List.mem_cons_of_mem _ hw)
  have hown : s.vm.findClass "SmallCourtModel" = some m.cls := hown
  have hM : hx_S P_tb [] L h L h := hx_S.rf
  refine lv_aload_n hx hb dX10_hear_0 rfl (lv_at hl 0 rfl) ?_
  refine lv_iload_n hx hb dX10_hear_1 rfl (lv_at hl 1 rfl) ?_
  refine hx_goi (hx_runV (As := [.int i1]) (rest := []) ⟨hx, hb, hml, hown, hts⟩ hW gy td_10 (T := TX10) (N := 98) rfl (c_X10_isClaim l dC dI dA L h s.heap.size y i1 gy f_y_36) (cwV 1 hts (hx_gV kw_1597 kw_1594 kw_1596 kw_73 kw_103) rfl rfl rfl (by decide +kernel) ⟨Nat.le_of_ble_eq_true rfl, Nat.le_of_ble_eq_true rfl⟩) rfl hl.1 rfl (Nat.le_of_ble_eq_true rfl) dX10_hear_2 ⟨Nat.le_of_ble_eq_true rfl, Nat.le_of_ble_eq_true rfl⟩) hW (fun r_3 L_1 h_2 H locs p_4 hW => ?_)
  obtain ⟨p_4, eu⟩ := p_4
  cases eu
  rcases p_4 with ⟨kp_4, rfl⟩ | ⟨kp_4, rfl⟩
  · exfalso
    omega
  · skip
    refine hb_if_eq (zx := 0) (tgt := 47) hx hb (by decide) dX10_hear_5 (by decide) (fun c_5 => ?_) (fun c_5 => absurd c_5 (by decide))
    refine lv_iconst (v := -1) hx hb dX10_hear_47 (by decide) ?_
    exact hx_reti hx hb hr hlk hW ⟨rfl, hM⟩ dX10_hear_48

theorem dX10_order_0 : decode cX10_order 0 = .ok (.aload_n 0, 1) := by decide +kernel
theorem dX10_order_1 : decode cX10_order 1 = .ok (.iload_n 1, 1) := by decide +kernel
theorem dX10_order_2 : decode cX10_order 2 = .ok (.invokevirtual 370, 3) := by decide +kernel
theorem dX10_order_5 : decode cX10_order 5 = .ok (.ifCond .eq 48, 3) := by decide +kernel
theorem dX10_order_53 : decode cX10_order 53 = .ok (.iconst (-1), 1) := by decide +kernel
theorem dX10_order_54 : decode cX10_order 54 = .ok (.ireturn, 1) := by decide +kernel
set_option maxHeartbeats 4000000 in
set_option maxRecDepth 100000 in
theorem c_X10_order (l : Launch) (dC : Nat → ClassId) (dI : Nat → Nat → Nat) (dA : Nat → ClassId) (L : List Nat) (h : hx_h) (sz : Nat) (y : Nat) (a : Int32) (b : Int32) (gy : hx_g L h y 10) (f_y_36 : h.2.1 y 36 = 0) : Met l yX10_order (Cond.code yX10_order cX10_order 7 (some .int) :: hx_all) ({ frames := 2, cells := 0, slots := 0, locals := 43 }) (va_Pc [.ref y, .int a, .int b] (hx_B P_tb (P_ty dA) (dC, dI) vwCl L h sz)) (va_Qi (fun (r : Int32) (u : List Nat × hx_h) => (r = -1) ∧ hx_S P_tb [] L h u.1 u.2) (hx_E P_tb (P_ty dA) (dC, dI) vwCl (hx_A L sz)) (hx_A L sz)) 0 0 (hx_A L sz) := by
  refine hx_met (lv := [(0, .ref y), (1, .int a), (2, .int b)]) (by decide +kernel) rfl (Nat.le_of_ble_eq_true rfl) rfl ?_
  intro p e s m below meth c hx hb hml hr hlk hts0 hown hin hsz hW ls hl
  have hts : ∀ w ∈ hx_all, w.before _ s = true := fun w hw => hts0 w (List.mem_cons_of_mem _ hw)
  have hown : s.vm.findClass "SmallCourtModel" = some m.cls := hown
  have hM : hx_S P_tb [] L h L h := hx_S.rf
  refine lv_aload_n hx hb dX10_order_0 rfl (lv_at hl 0 rfl) ?_
  refine lv_iload_n hx hb dX10_order_1 rfl (lv_at hl 1 rfl) ?_
  refine hx_goi (hx_runV (As := [.int a]) (rest := []) ⟨hx, hb, hml, hown, hts⟩ hW gy td_10 (T := TX10) (N := 98) rfl (c_X10_isClaim l dC dI dA L h s.heap.size y a gy f_y_36) (cwV 1 hts (hx_gV kw_1597 kw_1594 kw_1596 kw_73 kw_103) rfl rfl rfl (by decide +kernel) ⟨Nat.le_of_ble_eq_true rfl, Nat.le_of_ble_eq_true rfl⟩) rfl hl.1 rfl (Nat.le_of_ble_eq_true rfl) dX10_order_2 ⟨Nat.le_of_ble_eq_true rfl, Nat.le_of_ble_eq_true rfl⟩) hW (fun r_3 L_1 h_2 H locs p_4 hW => ?_)
  obtain ⟨p_4, eu⟩ := p_4
  cases eu
  rcases p_4 with ⟨kp_4, rfl⟩ | ⟨kp_4, rfl⟩
  · exfalso
    omega
  · skip
    refine hb_if_eq (zx := 0) (tgt := 53) hx hb (by decide) dX10_order_5 (by decide) (fun c_5 => ?_) (fun c_5 => absurd c_5 (by decide))
    refine lv_iconst (v := -1) hx hb dX10_order_53 (by decide) ?_
    exact hx_reti hx hb hr hlk hW ⟨rfl, hM⟩ dX10_order_54

theorem dX10_seize_0 : decode cX10_seize 0 = .ok (.aload_n 0, 1) := by decide +kernel
theorem dX10_seize_1 : decode cX10_seize 1 = .ok (.iload_n 1, 1) := by decide +kernel
theorem dX10_seize_2 : decode cX10_seize 2 = .ok (.invokevirtual 370, 3) := by decide +kernel
theorem dX10_seize_5 : decode cX10_seize 5 = .ok (.ifCond .eq 24, 3) := by decide +kernel
theorem dX10_seize_29 : decode cX10_seize 29 = .ok (.ldc_w 357, 3) := by decide +kernel
theorem dX10_seize_32 : decode cX10_seize 32 = .ok (.ireturn, 1) := by decide +kernel
set_option maxHeartbeats 4000000 in
set_option maxRecDepth 100000 in
theorem c_X10_seize (l : Launch) (dC : Nat → ClassId) (dI : Nat → Nat → Nat) (dA : Nat → ClassId) (L : List Nat) (h : hx_h) (sz : Nat) (y : Nat) (a : Int32) (b : Int32) (gy : hx_g L h y 10) (f_y_36 : h.2.1 y 36 = 0) : Met l yX10_seize (Cond.code yX10_seize cX10_seize 3 (some .int) :: hx_all) ({ frames := 2, cells := 0, slots := 0, locals := 43 }) (va_Pc [.ref y, .int a, .int b] (hx_B P_tb (P_ty dA) (dC, dI) vwCl L h sz)) (va_Qi (fun (r : Int32) (u : List Nat × hx_h) => (r = -1000000) ∧ hx_S P_tb [] L h u.1 u.2) (hx_E P_tb (P_ty dA) (dC, dI) vwCl (hx_A L sz)) (hx_A L sz)) 0 0 (hx_A L sz) := by
  refine hx_met (lv := [(0, .ref y), (1, .int a), (2, .int b)]) (by decide +kernel) rfl (Nat.le_of_ble_eq_true rfl) rfl ?_
  intro p e s m below meth c hx hb hml hr hlk hts0 hown hin hsz hW ls hl
  have hts : ∀ w ∈ hx_all, w.before _ s = true := fun w hw => hts0 w (List.mem_cons_of_mem _ hw)
  have hown : s.vm.findClass "SmallCourtModel" = some m.cls := hown
  have hM : hx_S P_tb [] L h L h := hx_S.rf
  refine lv_aload_n hx hb dX10_seize_0 rfl (lv_at hl 0 rfl) ?_
  refine lv_iload_n hx hb dX10_seize_1 rfl (lv_at hl 1 rfl) ?_
  refine hx_goi (hx_runV (As := [.int a]) (rest := []) ⟨hx, hb, hml, hown, hts⟩ hW gy td_10 (T := TX10) (N := 98) rfl (c_X10_isClaim l dC dI dA L h s.heap.size y a gy f_y_36) (cwV 1 hts (hx_gV kw_1597 kw_1594 kw_1596 kw_73 kw_103) rfl rfl rfl (by decide +kernel) ⟨Nat.le_of_ble_eq_true rfl, Nat.le_of_ble_eq_true rfl⟩) rfl hl.1 rfl (Nat.le_of_ble_eq_true rfl) dX10_seize_2 ⟨Nat.le_of_ble_eq_true rfl, Nat.le_of_ble_eq_true rfl⟩) hW (fun r_3 L_1 h_2 H locs p_4 hW => ?_)
  obtain ⟨p_4, eu⟩ := p_4
  cases eu
  rcases p_4 with ⟨kp_4, rfl⟩ | ⟨kp_4, rfl⟩
  · exfalso
    omega
  · skip
    refine hb_if_eq (zx := 0) (tgt := 29) hx hb (by decide) dX10_seize_5 (by decide) (fun c_5 => ?_) (fun c_5 => absurd c_5 (by decide))
    refine lv_ldcw (v := -1000000) hx hb hown (hts _ kw_1569) dX10_seize_29 ?_
    exact hx_reti hx hb hr hlk hW ⟨rfl, hM⟩ dX10_seize_32

theorem dX10_gaol_0 : decode cX10_gaol 0 = .ok (.aload_n 0, 1) := by decide +kernel
theorem dX10_gaol_1 : decode cX10_gaol 1 = .ok (.iload_n 1, 1) := by decide +kernel
theorem dX10_gaol_2 : decode cX10_gaol 2 = .ok (.invokevirtual 370, 3) := by decide +kernel
theorem dX10_gaol_5 : decode cX10_gaol 5 = .ok (.ifCond .eq 27, 3) := by decide +kernel
theorem dX10_gaol_32 : decode cX10_gaol 32 = .ok (.iconst (-1), 1) := by decide +kernel
theorem dX10_gaol_33 : decode cX10_gaol 33 = .ok (.ireturn, 1) := by decide +kernel
set_option maxHeartbeats 4000000 in
set_option maxRecDepth 100000 in
theorem c_X10_gaol (l : Launch) (dC : Nat → ClassId) (dI : Nat → Nat → Nat) (dA : Nat → ClassId) (L : List Nat) (h : hx_h) (sz : Nat) (y : Nat) (a : Int32) (gy : hx_g L h y 10) (f_y_36 : h.2.1 y 36 = 0) : Met l yX10_gaol (Cond.code yX10_gaol cX10_gaol 3 (some .int) :: hx_all) ({ frames := 2, cells := 0, slots := 0, locals := 43 }) (va_Pc [.ref y, .int a] (hx_B P_tb (P_ty dA) (dC, dI) vwCl L h sz)) (va_Qi (fun (r : Int32) (u : List Nat × hx_h) => (r = -1) ∧ hx_S P_tb [] L h u.1 u.2) (hx_E P_tb (P_ty dA) (dC, dI) vwCl (hx_A L sz)) (hx_A L sz)) 0 0 (hx_A L sz) := by
  refine hx_met (lv := [(0, .ref y), (1, .int a)]) (by decide +kernel) rfl (Nat.le_of_ble_eq_true rfl) rfl ?_
  intro p e s m below meth c hx hb hml hr hlk hts0 hown hin hsz hW ls hl
  have hts : ∀ w ∈ hx_all, w.before _ s = true := fun w hw => hts0 w (List.mem_cons_of_mem _ hw)
  have hown : s.vm.findClass "SmallCourtModel" = some m.cls := hown
  have hM : hx_S P_tb [] L h L h := hx_S.rf
  refine lv_aload_n hx hb dX10_gaol_0 rfl (lv_at hl 0 rfl) ?_
  refine lv_iload_n hx hb dX10_gaol_1 rfl (lv_at hl 1 rfl) ?_
  refine hx_goi (hx_runV (As := [.int a]) (rest := []) ⟨hx, hb, hml, hown, hts⟩ hW gy td_10 (T := TX10) (N := 98) rfl (c_X10_isClaim l dC dI dA L h s.heap.size y a gy f_y_36) (cwV 1 hts (hx_gV kw_1597 kw_1594 kw_1596 kw_73 kw_103) rfl rfl rfl (by decide +kernel) ⟨Nat.le_of_ble_eq_true rfl, Nat.le_of_ble_eq_true rfl⟩) rfl hl.1 rfl (Nat.le_of_ble_eq_true rfl) dX10_gaol_2 ⟨Nat.le_of_ble_eq_true rfl, Nat.le_of_ble_eq_true rfl⟩) hW (fun r_3 L_1 h_2 H locs p_4 hW => ?_)
  obtain ⟨p_4, eu⟩ := p_4
  cases eu
  rcases p_4 with ⟨kp_4, rfl⟩ | ⟨kp_4, rfl⟩
  · exfalso
    omega
  · skip
    refine hb_if_eq (zx := 0) (tgt := 32) hx hb (by decide) dX10_gaol_5 (by decide) (fun c_5 => ?_) (fun c_5 => absurd c_5 (by decide))
    refine lv_iconst (v := -1) hx hb dX10_gaol_32 (by decide) ?_
    exact hx_reti hx hb hr hlk hW ⟨rfl, hM⟩ dX10_gaol_33

theorem dX10_claim_0 : decode cX10_claim 0 = .ok (.aload_n 0, 1) := by decide +kernel
theorem dX10_claim_1 : decode cX10_claim 1 = .ok (.iload_n 1, 1) := by decide +kernel
theorem dX10_claim_2 : decode cX10_claim 2 = .ok (.invokevirtual 370, 3) := by decide +kernel
theorem dX10_claim_5 : decode cX10_claim 5 = .ok (.ifCond .ne 5, 3) := by decide +kernel
theorem dX10_claim_8 : decode cX10_claim 8 = .ok (.iconst (-1), 1) := by decide +kernel
theorem dX10_claim_9 : decode cX10_claim 9 = .ok (.ireturn, 1) := by decide +kernel
set_option maxHeartbeats 4000000 in
set_option maxRecDepth 100000 in
theorem c_X10_claim (l : Launch) (dC : Nat → ClassId) (dI : Nat → Nat → Nat) (dA : Nat → ClassId) (L : List Nat) (h : hx_h) (sz : Nat) (y : Nat) (a : Int32) (b : Int32) (gy : hx_g L h y 10) (f_y_36 : h.2.1 y 36 = 0) : Met l yX10_claim (Cond.code yX10_claim cX10_claim 3 (some .int) :: hx_all) ({ frames := 2, cells := 0, slots := 0, locals := 43 }) (va_Pc [.ref y, .int a, .int b] (hx_B P_tb (P_ty dA) (dC, dI) vwCl L h sz)) (va_Qi (fun (r : Int32) (u : List Nat × hx_h) => (r = -1) ∧ hx_S P_tb [] L h u.1 u.2) (hx_E P_tb (P_ty dA) (dC, dI) vwCl (hx_A L sz)) (hx_A L sz)) 0 0 (hx_A L sz) := by
  refine hx_met (lv := [(0, .ref y), (1, .int a), (2, .int b)]) (by decide +kernel) rfl (Nat.le_of_ble_eq_true rfl) rfl ?_
  intro p e s m below meth c hx hb hml hr hlk hts0 hown hin hsz hW ls hl
  have hts : ∀ w ∈ hx_all, w.before _ s = true := fun w hw => hts0 w (List.mem_cons_of_mem _ hw)
  have hown : s.vm.findClass "SmallCourtModel" = some m.cls := hown
  have hM : hx_S P_tb [] L h L h := hx_S.rf
  refine lv_aload_n hx hb dX10_claim_0 rfl (lv_at hl 0 rfl) ?_
  refine lv_iload_n hx hb dX10_claim_1 rfl (lv_at hl 1 rfl) ?_
  refine hx_goi (hx_runV (As := [.int a]) (rest := []) ⟨hx, hb, hml, hown, hts⟩ hW gy td_10 (T := TX10) (N := 98) rfl (c_X10_isClaim l dC dI dA L h s.heap.size y a gy f_y_36) (cwV 1 hts (hx_gV kw_1597 kw_1594 kw_1596 kw_73 kw_103) rfl rfl rfl (by decide +kernel) ⟨Nat.le_of_ble_eq_true rfl, Nat.le_of_ble_eq_true rfl⟩) rfl hl.1 rfl (Nat.le_of_ble_eq_true rfl) dX10_claim_2 ⟨Nat.le_of_ble_eq_true rfl, Nat.le_of_ble_eq_true rfl⟩) hW (fun r_3 L_1 h_2 H locs p_4 hW => ?_)
  obtain ⟨p_4, eu⟩ := p_4
  cases eu
  rcases p_4 with ⟨kp_4, rfl⟩ | ⟨kp_4, rfl⟩
  · exfalso
    omega
  · skip
    refine hb_if_ne (zx := 0) (tgt := 10) hx hb (by decide) dX10_claim_5 (by decide) (fun c_5 => absurd c_5 (by decide)) (fun c_5 => ?_)
    refine lv_iconst (v := -1) hx hb dX10_claim_8 (by decide) ?_
    exact hx_reti hx hb hr hlk hW ⟨rfl, hM⟩ dX10_claim_9

theorem dX10_state_0 : decode cX10_state 0 = .ok (.aload_n 0, 1) := by decide +kernel
theorem dX10_state_1 : decode cX10_state 1 = .ok (.iload_n 1, 1) := by decide +kernel
theorem dX10_state_2 : decode cX10_state 2 = .ok (.invokevirtual 370, 3) := by decide +kernel
theorem dX10_state_5 : decode cX10_state 5 = .ok (.ifCond .eq 35, 3) := by decide +kernel
theorem dX10_state_40 : decode cX10_state 40 = .ok (.iconst (-1), 1) := by decide +kernel
theorem dX10_state_41 : decode cX10_state 41 = .ok (.ireturn, 1) := by decide +kernel
set_option maxHeartbeats 4000000 in
set_option maxRecDepth 100000 in
theorem c_X10_state (l : Launch) (dC : Nat → ClassId) (dI : Nat → Nat → Nat) (dA : Nat → ClassId) (L : List Nat) (h : hx_h) (sz : Nat) (y : Nat) (i1 : Int32) (i2 : Int32) (i3 : Int32) (i4 : Int32) (gy : hx_g L h y 10) (f_y_36 : h.2.1 y 36 = 0) : Met l yX10_state (Cond.code yX10_state cX10_state 5 (some .int) :: hx_all) ({ frames := 2, cells := 0, slots := 0, locals := 43 }) (va_Pc [.ref y, .int i1, .int i2, .int i3, .int i4] (hx_B P_tb (P_ty dA) (dC, dI) vwCl L h sz)) (va_Qi (fun (r : Int32) (u : List Nat × hx_h) => (r = -1) ∧ hx_S P_tb [] L h u.1 u.2) (hx_E P_tb (P_ty dA) (dC, dI) vwCl (hx_A L sz)) (hx_A L sz)) 0 0 (hx_A L sz) := by
  refine hx_met (lv := [(0, .ref y), (1, .int i1), (2, .int i2), (3, .int i3), (4, .int i4)]) (by decide +kernel) rfl (Nat.le_of_ble_eq_true rfl) rfl ?_
  intro p e s m below meth c hx hb hml hr hlk hts0 hown hin hsz hW ls hl
  have hts : ∀ w ∈ hx_all, w.before _ s = true := fun w hw => hts0 w (List.mem_cons_of_mem _ hw)
  have hown : s.vm.findClass "SmallCourtModel" = some m.cls := hown
  have hM : hx_S P_tb [] L h L h := hx_S.rf
  refine lv_aload_n hx hb dX10_state_0 rfl (lv_at hl 0 rfl) ?_
  refine lv_iload_n hx hb dX10_state_1 rfl (lv_at hl 1 rfl) ?_
  refine hx_goi (hx_runV (As := [.int i1]) (rest := []) ⟨hx, hb, hml, hown, hts⟩ hW gy td_10 (T := TX10) (N := 98) rfl (c_X10_isClaim l dC dI dA L h s.heap.size y i1 gy f_y_36) (cwV 1 hts (hx_gV kw_1597 kw_1594 kw_1596 kw_73 kw_103) rfl rfl rfl (by decide +kernel) ⟨Nat.le_of_ble_eq_true rfl, Nat.le_of_ble_eq_true rfl⟩) rfl hl.1 rfl (Nat.le_of_ble_eq_true rfl) dX10_state_2 ⟨Nat.le_of_ble_eq_true rfl, Nat.le_of_ble_eq_true rfl⟩) hW (fun r_3 L_1 h_2 H locs p_4 hW => ?_)
  obtain ⟨p_4, eu⟩ := p_4
  cases eu
  rcases p_4 with ⟨kp_4, rfl⟩ | ⟨kp_4, rfl⟩
  · exfalso
    omega
  · skip
    refine hb_if_eq (zx := 0) (tgt := 40) hx hb (by decide) dX10_state_5 (by decide) (fun c_5 => ?_) (fun c_5 => absurd c_5 (by decide))
    refine lv_iconst (v := -1) hx hb dX10_state_40 (by decide) ?_
    exact hx_reti hx hb hr hlk hW ⟨rfl, hM⟩ dX10_state_41

theorem dX10_plan_0 : decode cX10_plan 0 = .ok (.aload_n 0, 1) := by decide +kernel
theorem dX10_plan_1 : decode cX10_plan 1 = .ok (.iload_n 1, 1) := by decide +kernel
theorem dX10_plan_2 : decode cX10_plan 2 = .ok (.invokevirtual 348, 3) := by decide +kernel
theorem dX10_plan_5 : decode cX10_plan 5 = .ok (.ifCond .eq 13, 3) := by decide +kernel
theorem dX10_plan_18 : decode cX10_plan 18 = .ok (.iconst (-1), 1) := by decide +kernel
theorem dX10_plan_19 : decode cX10_plan 19 = .ok (.ireturn, 1) := by decide +kernel
set_option maxHeartbeats 4000000 in
set_option maxRecDepth 100000 in
theorem c_X10_plan (l : Launch) (dC : Nat → ClassId) (dI : Nat → Nat → Nat) (dA : Nat → ClassId) (L : List Nat) (h : hx_h) (sz : Nat) (y : Nat) (a : Int32) (b : Int32) (gy : hx_g L h y 10) (f_y_20 : h.2.1 y 20 = 0) : Met l yX10_plan (Cond.code yX10_plan cX10_plan 12 (some .int) :: hx_all) ({ frames := 2, cells := 0, slots := 0, locals := 43 }) (va_Pc [.ref y, .int a, .int b] (hx_B P_tb (P_ty dA) (dC, dI) vwCl L h sz)) (va_Qi (fun (r : Int32) (u : List Nat × hx_h) => (r = -1) ∧ hx_S P_tb [] L h u.1 u.2) (hx_E P_tb (P_ty dA) (dC, dI) vwCl (hx_A L sz)) (hx_A L sz)) 0 0 (hx_A L sz) := by
  refine hx_met (lv := [(0, .ref y), (1, .int a), (2, .int b)]) (by decide +kernel) rfl (Nat.le_of_ble_eq_true rfl) rfl ?_
  intro p e s m below meth c hx hb hml hr hlk hts0 hown hin hsz hW ls hl
  have hts : ∀ w ∈ hx_all, w.before _ s = true := fun w hw => hts0 w (List.mem_cons_of_mem _ hw)
  have hown : s.vm.findClass "SmallCourtModel" = some m.cls := hown
  have hM : hx_S P_tb [] L h L h := hx_S.rf
  refine lv_aload_n hx hb dX10_plan_0 rfl (lv_at hl 0 rfl) ?_
  refine lv_iload_n hx hb dX10_plan_1 rfl (lv_at hl 1 rfl) ?_
  refine hx_goi (hx_runV (As := [.int a]) (rest := []) ⟨hx, hb, hml, hown, hts⟩ hW gy td_10 (T := TX10) (N := 98) rfl (c_X10_isPerson l dC dI dA L h s.heap.size y a gy f_y_20) (cwV 1 hts (hx_gV kw_1552 kw_1549 kw_1551 kw_68 kw_103) rfl rfl rfl (by decide +kernel) ⟨Nat.le_of_ble_eq_true rfl, Nat.le_of_ble_eq_true rfl⟩) rfl hl.1 rfl (Nat.le_of_ble_eq_true rfl) dX10_plan_2 ⟨Nat.le_of_ble_eq_true rfl, Nat.le_of_ble_eq_true rfl⟩) hW (fun r_3 L_1 h_2 H locs p_4 hW => ?_)
  obtain ⟨p_4, eu⟩ := p_4
  cases eu
  rcases p_4 with ⟨kp_4, rfl⟩ | ⟨kp_4, rfl⟩
  · exfalso
    omega
  · skip
    refine hb_if_eq (zx := 0) (tgt := 18) hx hb (by decide) dX10_plan_5 (by decide) (fun c_5 => ?_) (fun c_5 => absurd c_5 (by decide))
    refine lv_iconst (v := -1) hx hb dX10_plan_18 (by decide) ?_
    exact hx_reti hx hb hr hlk hW ⟨rfl, hM⟩ dX10_plan_19

theorem dX10_list_0 : decode cX10_list 0 = .ok (.aload_n 0, 1) := by decide +kernel
theorem dX10_list_1 : decode cX10_list 1 = .ok (.iload_n 1, 1) := by decide +kernel
theorem dX10_list_2 : decode cX10_list 2 = .ok (.invokevirtual 370, 3) := by decide +kernel
theorem dX10_list_5 : decode cX10_list 5 = .ok (.ifCond .eq 32, 3) := by decide +kernel
theorem dX10_list_37 : decode cX10_list 37 = .ok (.iconst (-1), 1) := by decide +kernel
theorem dX10_list_38 : decode cX10_list 38 = .ok (.ireturn, 1) := by decide +kernel
set_option maxHeartbeats 4000000 in
set_option maxRecDepth 100000 in
theorem c_X10_list (l : Launch) (dC : Nat → ClassId) (dI : Nat → Nat → Nat) (dA : Nat → ClassId) (L : List Nat) (h : hx_h) (sz : Nat) (y : Nat) (a : Int32) (gy : hx_g L h y 10) (f_y_36 : h.2.1 y 36 = 0) : Met l yX10_list (Cond.code yX10_list cX10_list 3 (some .int) :: hx_all) ({ frames := 2, cells := 0, slots := 0, locals := 43 }) (va_Pc [.ref y, .int a] (hx_B P_tb (P_ty dA) (dC, dI) vwCl L h sz)) (va_Qi (fun (r : Int32) (u : List Nat × hx_h) => (r = -1) ∧ hx_S P_tb [] L h u.1 u.2) (hx_E P_tb (P_ty dA) (dC, dI) vwCl (hx_A L sz)) (hx_A L sz)) 0 0 (hx_A L sz) := by
  refine hx_met (lv := [(0, .ref y), (1, .int a)]) (by decide +kernel) rfl (Nat.le_of_ble_eq_true rfl) rfl ?_
  intro p e s m below meth c hx hb hml hr hlk hts0 hown hin hsz hW ls hl
  have hts : ∀ w ∈ hx_all, w.before _ s = true := fun w hw => hts0 w (List.mem_cons_of_mem _ hw)
  have hown : s.vm.findClass "SmallCourtModel" = some m.cls := hown
  have hM : hx_S P_tb [] L h L h := hx_S.rf
  refine lv_aload_n hx hb dX10_list_0 rfl (lv_at hl 0 rfl) ?_
  refine lv_iload_n hx hb dX10_list_1 rfl (lv_at hl 1 rfl) ?_
  refine hx_goi (hx_runV (As := [.int a]) (rest := []) ⟨hx, hb, hml, hown, hts⟩ hW gy td_10 (T := TX10) (N := 98) rfl (c_X10_isClaim l dC dI dA L h s.heap.size y a gy f_y_36) (cwV 1 hts (hx_gV kw_1597 kw_1594 kw_1596 kw_73 kw_103) rfl rfl rfl (by decide +kernel) ⟨Nat.le_of_ble_eq_true rfl, Nat.le_of_ble_eq_true rfl⟩) rfl hl.1 rfl (Nat.le_of_ble_eq_true rfl) dX10_list_2 ⟨Nat.le_of_ble_eq_true rfl, Nat.le_of_ble_eq_true rfl⟩) hW (fun r_3 L_1 h_2 H locs p_4 hW => ?_)
  obtain ⟨p_4, eu⟩ := p_4
  cases eu
  rcases p_4 with ⟨kp_4, rfl⟩ | ⟨kp_4, rfl⟩
  · exfalso
    omega
  · skip
    refine hb_if_eq (zx := 0) (tgt := 37) hx hb (by decide) dX10_list_5 (by decide) (fun c_5 => ?_) (fun c_5 => absurd c_5 (by decide))
    refine lv_iconst (v := -1) hx hb dX10_list_37 (by decide) ?_
    exact hx_reti hx hb hr hlk hW ⟨rfl, hM⟩ dX10_list_38

theorem dX10_habit_0 : decode cX10_habit 0 = .ok (.aload_n 0, 1) := by decide +kernel
theorem dX10_habit_1 : decode cX10_habit 1 = .ok (.iload_n 1, 1) := by decide +kernel
theorem dX10_habit_2 : decode cX10_habit 2 = .ok (.invokevirtual 348, 3) := by decide +kernel
theorem dX10_habit_5 : decode cX10_habit 5 = .ok (.ifCond .ne 5, 3) := by decide +kernel
theorem dX10_habit_8 : decode cX10_habit 8 = .ok (.iconst (-1), 1) := by decide +kernel
theorem dX10_habit_9 : decode cX10_habit 9 = .ok (.ireturn, 1) := by decide +kernel
set_option maxHeartbeats 4000000 in
set_option maxRecDepth 100000 in
theorem c_X10_habit (l : Launch) (dC : Nat → ClassId) (dI : Nat → Nat → Nat) (dA : Nat → ClassId) (L : List Nat) (h : hx_h) (sz : Nat) (y : Nat) (a : Int32) (b : Int32) (gy : hx_g L h y 10) (f_y_20 : h.2.1 y 20 = 0) : Met l yX10_habit (Cond.code yX10_habit cX10_habit 3 (some .int) :: hx_all) ({ frames := 2, cells := 0, slots := 0, locals := 43 }) (va_Pc [.ref y, .int a, .int b] (hx_B P_tb (P_ty dA) (dC, dI) vwCl L h sz)) (va_Qi (fun (r : Int32) (u : List Nat × hx_h) => (r = -1) ∧ hx_S P_tb [] L h u.1 u.2) (hx_E P_tb (P_ty dA) (dC, dI) vwCl (hx_A L sz)) (hx_A L sz)) 0 0 (hx_A L sz) := by
  refine hx_met (lv := [(0, .ref y), (1, .int a), (2, .int b)]) (by decide +kernel) rfl (Nat.le_of_ble_eq_true rfl) rfl ?_
  intro p e s m below meth c hx hb hml hr hlk hts0 hown hin hsz hW ls hl
  have hts : ∀ w ∈ hx_all, w.before _ s = true := fun w hw => hts0 w (List.mem_cons_of_mem _ hw)
  have hown : s.vm.findClass "SmallCourtModel" = some m.cls := hown
  have hM : hx_S P_tb [] L h L h := hx_S.rf
  refine lv_aload_n hx hb dX10_habit_0 rfl (lv_at hl 0 rfl) ?_
  refine lv_iload_n hx hb dX10_habit_1 rfl (lv_at hl 1 rfl) ?_
  refine hx_goi (hx_runV (As := [.int a]) (rest := []) ⟨hx, hb, hml, hown, hts⟩ hW gy td_10 (T := TX10) (N := 98) rfl (c_X10_isPerson l dC dI dA L h s.heap.size y a gy f_y_20) (cwV 1 hts (hx_gV kw_1552 kw_1549 kw_1551 kw_68 kw_103) rfl rfl rfl (by decide +kernel) ⟨Nat.le_of_ble_eq_true rfl, Nat.le_of_ble_eq_true rfl⟩) rfl hl.1 rfl (Nat.le_of_ble_eq_true rfl) dX10_habit_2 ⟨Nat.le_of_ble_eq_true rfl, Nat.le_of_ble_eq_true rfl⟩) hW (fun r_3 L_1 h_2 H locs p_4 hW => ?_)
  obtain ⟨p_4, eu⟩ := p_4
  cases eu
  rcases p_4 with ⟨kp_4, rfl⟩ | ⟨kp_4, rfl⟩
  · exfalso
    omega
  · skip
    refine hb_if_ne (zx := 0) (tgt := 10) hx hb (by decide) dX10_habit_5 (by decide) (fun c_5 => absurd c_5 (by decide)) (fun c_5 => ?_)
    refine lv_iconst (v := -1) hx hb dX10_habit_8 (by decide) ?_
    exact hx_reti hx hb hr hlk hW ⟨rfl, hM⟩ dX10_habit_9

theorem dX10_end_0 : decode cX10_end 0 = .ok (.iload_n 1, 1) := by decide +kernel
theorem dX10_end_1 : decode cX10_end 1 = .ok (.ifCond .lt 11, 3) := by decide +kernel
theorem dX10_end_4 : decode cX10_end 4 = .ok (.iload_n 1, 1) := by decide +kernel
theorem dX10_end_5 : decode cX10_end 5 = .ok (.aload_n 0, 1) := by decide +kernel
theorem dX10_end_6 : decode cX10_end 6 = .ok (.getfield 236, 3) := by decide +kernel
theorem dX10_end_9 : decode cX10_end 9 = .ok (.if_icmp .le 5, 3) := by decide +kernel
theorem dX10_end_12 : decode cX10_end 12 = .ok (.iconst (-1), 1) := by decide +kernel
theorem dX10_end_13 : decode cX10_end 13 = .ok (.ireturn, 1) := by decide +kernel
theorem dX10_end_14 : decode cX10_end 14 = .ok (.aload_n 0, 1) := by decide +kernel
theorem dX10_end_15 : decode cX10_end 15 = .ok (.iload_n 1, 1) := by decide +kernel
theorem dX10_end_16 : decode cX10_end 16 = .ok (.putfield 236, 3) := by decide +kernel
theorem dX10_end_19 : decode cX10_end 19 = .ok (.iload_n 1, 1) := by decide +kernel
theorem dX10_end_20 : decode cX10_end 20 = .ok (.ireturn, 1) := by decide +kernel
set_option maxHeartbeats 4000000 in
set_option maxRecDepth 100000 in
theorem c_X10_end (l : Launch) (dC : Nat → ClassId) (dI : Nat → Nat → Nat) (dA : Nat → ClassId) (L : List Nat) (h : hx_h) (sz : Nat) (y : Nat) (n : Int32) (gy : hx_g L h y 10) (f_y_7 : h.2.1 y 7 = 0) : Met l yX10_end (Cond.code yX10_end cX10_end 2 (some .int) :: hx_all) ({ frames := 0, cells := 0, slots := 0, locals := 0 }) (va_Pc [.ref y, .int n] (hx_B P_tb (P_ty dA) (dC, dI) vwCl L h sz)) (va_Qi (fun (r : Int32) (u : List Nat × hx_h) => ((n.toInt = 0) ∧ r = 0 ∨ ¬ (n.toInt = 0) ∧ r = -1) ∧ hx_S P_tb [(10, 7)] L h u.1 u.2) (hx_E P_tb (P_ty dA) (dC, dI) vwCl (hx_A L sz)) (hx_A L sz)) 0 0 (hx_A L sz) := by
  refine hx_met (lv := [(0, .ref y), (1, .int n)]) (by decide +kernel) rfl (Nat.le_of_ble_eq_true rfl) rfl ?_
  intro p e s m below meth c hx hb hml hr hlk hts0 hown hin hsz hW ls hl
  have hts : ∀ w ∈ hx_all, w.before _ s = true := fun w hw => hts0 w (List.mem_cons_of_mem _ hw)
  have hown : s.vm.findClass "SmallCourtModel" = some m.cls := hown
  have hM : hx_S P_tb [(10, 7)] L h L h := hx_S.rf
  refine lv_iload_n hx hb dX10_end_0 rfl (lv_at hl 1 rfl) ?_
  refine hb_if_lt (zx := n.toInt) (tgt := 12) hx hb rfl dX10_end_1 (by decide) (fun c_1 => ?_) (fun c_1 => ?_)
  · skip
    refine lv_iconst (v := -1) hx hb dX10_end_12 (by decide) ?_
    exact hx_reti hx hb hr hlk hW ⟨Or.inr ⟨by first | omega | decide, rfl⟩, hM⟩ dX10_end_13
  · skip
    refine lv_iload_n hx hb dX10_end_4 rfl (lv_at hl 1 rfl) ?_
    refine lv_aload_n hx hb dX10_end_5 rfl (lv_at hl 0 rfl) ?_
    refine hk_geti hx hb hts hC_10 hown hW gy td_10 7 (by decide) rfl kw_1150 ⟨rfl, rfl, rfl⟩ f_y_7 dX10_end_6 ?_
    refine hb_icmp_le (zx := n.toInt) (zy := 0) (tgt := 14) hx hb rfl (by decide) dX10_end_9 (by decide) (fun c_2 => ?_) (fun c_2 => ?_)
    · skip
      refine lv_aload_n hx hb dX10_end_14 rfl (lv_at hl 0 rfl) ?_
      refine lv_iload_n hx hb dX10_end_15 rfl (lv_at hl 1 rfl) ?_
      refine hk_puti hx hb hts hC_10 hown hW gy td_10 7 (by decide) rfl kw_1150 ⟨rfl, rfl, rfl⟩ rfl (x := n) rfl rfl rfl dX10_end_16 (fun H locs h_3 eh_3 hW hs => ?_)
      have hM := hM.tr (hs.mono (by decide))
      have gy := gy.S hs
      have f_4 : h_3.2.1 y 7 = n := by rw [eh_3]; exact hx_pi_at _ _ _ _
      refine lv_iload_n hx hb dX10_end_19 rfl (lv_at hl 1 rfl) ?_
      exact hx_reti hx hb hr hlk hW ⟨Or.inl ⟨by omega, Int32.toInt_inj.mp (by rw [show (0 : Int32).toInt = 0 from by decide]; omega)⟩, hM⟩ dX10_end_20
    · skip
      refine lv_iconst (v := -1) hx hb dX10_end_12 (by decide) ?_
      exact hx_reti hx hb hr hlk hW ⟨Or.inr ⟨by first | omega | decide, rfl⟩, hM⟩ dX10_end_13

theorem dX10_line_0 : decode cX10_line 0 = .ok (.aload_n 0, 1) := by decide +kernel
theorem dX10_line_1 : decode cX10_line 1 = .ok (.getfield 351, 3) := by decide +kernel
theorem dX10_line_4 : decode cX10_line 4 = .ok (.sipush 400, 3) := by decide +kernel
theorem dX10_line_7 : decode cX10_line 7 = .ok (.if_icmp .eq 58, 3) := by decide +kernel
theorem dX10_line_10 : decode cX10_line 10 = .ok (.aload_n 0, 1) := by decide +kernel
theorem dX10_line_11 : decode cX10_line 11 = .ok (.iload_n 1, 1) := by decide +kernel
theorem dX10_line_12 : decode cX10_line 12 = .ok (.invokevirtual 348, 3) := by decide +kernel
theorem dX10_line_15 : decode cX10_line 15 = .ok (.ifCond .eq 50, 3) := by decide +kernel
theorem dX10_line_65 : decode cX10_line 65 = .ok (.iconst (-1), 1) := by decide +kernel
theorem dX10_line_66 : decode cX10_line 66 = .ok (.ireturn, 1) := by decide +kernel
set_option maxHeartbeats 4000000 in
set_option maxRecDepth 100000 in
theorem c_X10_line (l : Launch) (dC : Nat → ClassId) (dI : Nat → Nat → Nat) (dA : Nat → ClassId) (L : List Nat) (h : hx_h) (sz : Nat) (y : Nat) (i1 : Int32) (i2 : Int32) (i3 : Int32) (i4 : Int32) (i5 : Int32) (gy : hx_g L h y 10) (f_y_29 : h.2.1 y 29 = 0) (f_y_20 : h.2.1 y 20 = 0) (f_y_0 : h.2.1 y 0 = 0) : Met l yX10_line (Cond.code yX10_line cX10_line 6 (some .int) :: hx_all) ({ frames := 2, cells := 0, slots := 0, locals := 43 }) (va_Pc [.ref y, .int i1, .int i2, .int i3, .int i4, .int i5] (hx_B P_tb (P_ty dA) (dC, dI) vwCl L h sz)) (va_Qi (fun (r : Int32) (u : List Nat × hx_h) => (r = -1) ∧ hx_S P_tb [] L h u.1 u.2) (hx_E P_tb (P_ty dA) (dC, dI) vwCl (hx_A L sz)) (hx_A L sz)) 0 0 (hx_A L sz) := by
  refine hx_met (lv := [(0, .ref y), (1, .int i1), (2, .int i2), (3, .int i3), (4, .int i4), (5, .int i5)]) (by decide +kernel) rfl (Nat.le_of_ble_eq_true rfl) rfl ?_
  intro p e s m below meth c hx hb hml hr hlk hts0 hown hin hsz hW ls hl
  have hts : ∀ w ∈ hx_all, w.before _ s = true := fun w hw => hts0 w (List.mem_cons_of_mem _ hw)
  have hown : s.vm.findClass "SmallCourtModel" = some m.cls := hown
  have hM : hx_S P_tb [] L h L h := hx_S.rf
  refine lv_aload_n hx hb dX10_line_0 rfl (lv_at hl 0 rfl) ?_
  refine hk_geti hx hb hts hC_10 hown hW gy td_10 29 (by decide) rfl kw_1172 ⟨rfl, rfl, rfl⟩ f_y_29 dX10_line_1 ?_
  refine lv_sipush (v := 400) hx hb dX10_line_4 (by decide) ?_
  refine hb_icmp_eq (zx := 0) (zy := 400) (tgt := 65) hx hb (by decide) (by decide) dX10_line_7 (by decide) (fun c_1 => absurd c_1 (by decide)) (fun c_1 => ?_)
  refine lv_aload_n hx hb dX10_line_10 rfl (lv_at hl 0 rfl) ?_
  refine lv_iload_n hx hb dX10_line_11 rfl (lv_at hl 1 rfl) ?_
  refine hx_goi (hx_runV (As := [.int i1]) (rest := []) ⟨hx, hb, hml, hown, hts⟩ hW gy td_10 (T := TX10) (N := 98) rfl (c_X10_isPerson l dC dI dA L h s.heap.size y i1 gy f_y_20) (cwV 1 hts (hx_gV kw_1552 kw_1549 kw_1551 kw_68 kw_103) rfl rfl rfl (by decide +kernel) ⟨Nat.le_of_ble_eq_true rfl, Nat.le_of_ble_eq_true rfl⟩) rfl hl.1 rfl (Nat.le_of_ble_eq_true rfl) dX10_line_12 ⟨Nat.le_of_ble_eq_true rfl, Nat.le_of_ble_eq_true rfl⟩) hW (fun r_4 L_2 h_3 H locs p_5 hW => ?_)
  obtain ⟨p_5, eu⟩ := p_5
  cases eu
  rcases p_5 with ⟨kp_5, rfl⟩ | ⟨kp_5, rfl⟩
  · exfalso
    omega
  · skip
    refine hb_if_eq (zx := 0) (tgt := 65) hx hb (by decide) dX10_line_15 (by decide) (fun c_6 => ?_) (fun c_6 => absurd c_6 (by decide))
    refine lv_iconst (v := -1) hx hb dX10_line_65 (by decide) ?_
    exact hx_reti hx hb hr hlk hW ⟨rfl, hM⟩ dX10_line_66

theorem dX10_file_0 : decode cX10_file 0 = .ok (.aload_n 0, 1) := by decide +kernel
theorem dX10_file_1 : decode cX10_file 1 = .ok (.getfield 367, 3) := by decide +kernel
theorem dX10_file_4 : decode cX10_file 4 = .ok (.bipush 100, 2) := by decide +kernel
theorem dX10_file_6 : decode cX10_file 6 = .ok (.if_icmp .eq 68, 3) := by decide +kernel
theorem dX10_file_9 : decode cX10_file 9 = .ok (.aload_n 0, 1) := by decide +kernel
theorem dX10_file_10 : decode cX10_file 10 = .ok (.iload_n 1, 1) := by decide +kernel
theorem dX10_file_11 : decode cX10_file 11 = .ok (.invokevirtual 348, 3) := by decide +kernel
theorem dX10_file_14 : decode cX10_file 14 = .ok (.ifCond .eq 60, 3) := by decide +kernel
theorem dX10_file_74 : decode cX10_file 74 = .ok (.iconst (-1), 1) := by decide +kernel
theorem dX10_file_75 : decode cX10_file 75 = .ok (.ireturn, 1) := by decide +kernel
set_option maxHeartbeats 4000000 in
set_option maxRecDepth 100000 in
theorem c_X10_file (l : Launch) (dC : Nat → ClassId) (dI : Nat → Nat → Nat) (dA : Nat → ClassId) (L : List Nat) (h : hx_h) (sz : Nat) (y : Nat) (i1 : Int32) (i2 : Int32) (i3 : Int32) (i4 : Int32) (i5 : Int32) (i6 : Int32) (gy : hx_g L h y 10) (f_y_36 : h.2.1 y 36 = 0) (f_y_20 : h.2.1 y 20 = 0) (f_y_0 : h.2.1 y 0 = 0) : Met l yX10_file (Cond.code yX10_file cX10_file 9 (some .int) :: hx_all) ({ frames := 2, cells := 0, slots := 0, locals := 43 }) (va_Pc [.ref y, .int i1, .int i2, .int i3, .int i4, .int i5, .int i6] (hx_B P_tb (P_ty dA) (dC, dI) vwCl L h sz)) (va_Qi (fun (r : Int32) (u : List Nat × hx_h) => (r = -1) ∧ hx_S P_tb [] L h u.1 u.2) (hx_E P_tb (P_ty dA) (dC, dI) vwCl (hx_A L sz)) (hx_A L sz)) 0 0 (hx_A L sz) := by
  refine hx_met (lv := [(0, .ref y), (1, .int i1), (2, .int i2), (3, .int i3), (4, .int i4), (5, .int i5), (6, .int i6)]) (by decide +kernel) rfl (Nat.le_of_ble_eq_true rfl) rfl ?_
  intro p e s m below meth c hx hb hml hr hlk hts0 hown hin hsz hW ls hl
  have hts : ∀ w ∈ hx_all, w.before _ s = true := fun w hw => hts0 w (List.mem_cons_of_mem _ hw)
  have hown : s.vm.findClass "SmallCourtModel" = some m.cls := hown
  have hM : hx_S P_tb [] L h L h := hx_S.rf
  refine lv_aload_n hx hb dX10_file_0 rfl (lv_at hl 0 rfl) ?_
  refine hk_geti hx hb hts hC_10 hown hW gy td_10 36 (by decide) rfl kw_1179 ⟨rfl, rfl, rfl⟩ f_y_36 dX10_file_1 ?_
  refine lv_bipush (v := 100) hx hb dX10_file_4 (by decide) ?_
  refine hb_icmp_eq (zx := 0) (zy := 100) (tgt := 74) hx hb (by decide) (by decide) dX10_file_6 (by decide) (fun c_1 => absurd c_1 (by decide)) (fun c_1 => ?_)
  refine lv_aload_n hx hb dX10_file_9 rfl (lv_at hl 0 rfl) ?_
  refine lv_iload_n hx hb dX10_file_10 rfl (lv_at hl 1 rfl) ?_
  refine hx_goi (hx_runV (As := [.int i1]) (rest := []) ⟨hx, hb, hml, hown, hts⟩ hW gy td_10 (T := TX10) (N := 98) rfl (c_X10_isPerson l dC dI dA L h s.heap.size y i1 gy f_y_20) (cwV 1 hts (hx_gV kw_1552 kw_1549 kw_1551 kw_68 kw_103) rfl rfl rfl (by decide +kernel) ⟨Nat.le_of_ble_eq_true rfl, Nat.le_of_ble_eq_true rfl⟩) rfl hl.1 rfl (Nat.le_of_ble_eq_true rfl) dX10_file_11 ⟨Nat.le_of_ble_eq_true rfl, Nat.le_of_ble_eq_true rfl⟩) hW (fun r_4 L_2 h_3 H locs p_5 hW => ?_)
  obtain ⟨p_5, eu⟩ := p_5
  cases eu
  rcases p_5 with ⟨kp_5, rfl⟩ | ⟨kp_5, rfl⟩
  · exfalso
    omega
  · skip
    refine hb_if_eq (zx := 0) (tgt := 74) hx hb (by decide) dX10_file_14 (by decide) (fun c_6 => ?_) (fun c_6 => absurd c_6 (by decide))
    refine lv_iconst (v := -1) hx hb dX10_file_74 (by decide) ?_
    exact hx_reti hx hb hr hlk hW ⟨rfl, hM⟩ dX10_file_75

theorem dX10_pay_0 : decode cX10_pay 0 = .ok (.aload_n 0, 1) := by decide +kernel
theorem dX10_pay_1 : decode cX10_pay 1 = .ok (.getfield 413, 3) := by decide +kernel
theorem dX10_pay_4 : decode cX10_pay 4 = .ok (.sipush 600, 3) := by decide +kernel
theorem dX10_pay_7 : decode cX10_pay 7 = .ok (.if_icmp .eq 59, 3) := by decide +kernel
theorem dX10_pay_10 : decode cX10_pay 10 = .ok (.aload_n 0, 1) := by decide +kernel
theorem dX10_pay_11 : decode cX10_pay 11 = .ok (.iload_n 1, 1) := by decide +kernel
theorem dX10_pay_12 : decode cX10_pay 12 = .ok (.invokevirtual 370, 3) := by decide +kernel
theorem dX10_pay_15 : decode cX10_pay 15 = .ok (.ifCond .eq 51, 3) := by decide +kernel
theorem dX10_pay_66 : decode cX10_pay 66 = .ok (.iconst (-1), 1) := by decide +kernel
theorem dX10_pay_67 : decode cX10_pay 67 = .ok (.ireturn, 1) := by decide +kernel
set_option maxHeartbeats 4000000 in
set_option maxRecDepth 100000 in
theorem c_X10_pay (l : Launch) (dC : Nat → ClassId) (dI : Nat → Nat → Nat) (dA : Nat → ClassId) (L : List Nat) (h : hx_h) (sz : Nat) (y : Nat) (i1 : Int32) (i2 : Int32) (i3 : Int32) (gy : hx_g L h y 10) (f_y_59 : h.2.1 y 59 = 0) (f_y_36 : h.2.1 y 36 = 0) : Met l yX10_pay (Cond.code yX10_pay cX10_pay 4 (some .int) :: hx_all) ({ frames := 2, cells := 0, slots := 0, locals := 43 }) (va_Pc [.ref y, .int i1, .int i2, .int i3] (hx_B P_tb (P_ty dA) (dC, dI) vwCl L h sz)) (va_Qi (fun (r : Int32) (u : List Nat × hx_h) => (r = -1) ∧ hx_S P_tb [] L h u.1 u.2) (hx_E P_tb (P_ty dA) (dC, dI) vwCl (hx_A L sz)) (hx_A L sz)) 0 0 (hx_A L sz) := by
  refine hx_met (lv := [(0, .ref y), (1, .int i1), (2, .int i2), (3, .int i3)]) (by decide +kernel) rfl (Nat.le_of_ble_eq_true rfl) rfl ?_
  intro p e s m below meth c hx hb hml hr hlk hts0 hown hin hsz hW ls hl
  have hts : ∀ w ∈ hx_all, w.before _ s = true := fun w hw => hts0 w (List.mem_cons_of_mem _ hw)
  have hown : s.vm.findClass "SmallCourtModel" = some m.cls := hown
  have hM : hx_S P_tb [] L h L h := hx_S.rf
  refine lv_aload_n hx hb dX10_pay_0 rfl (lv_at hl 0 rfl) ?_
  refine hk_geti hx hb hts hC_10 hown hW gy td_10 59 (by decide) rfl kw_1202 ⟨rfl, rfl, rfl⟩ f_y_59 dX10_pay_1 ?_
  refine lv_sipush (v := 600) hx hb dX10_pay_4 (by decide) ?_
  refine hb_icmp_eq (zx := 0) (zy := 600) (tgt := 66) hx hb (by decide) (by decide) dX10_pay_7 (by decide) (fun c_1 => absurd c_1 (by decide)) (fun c_1 => ?_)
  refine lv_aload_n hx hb dX10_pay_10 rfl (lv_at hl 0 rfl) ?_
  refine lv_iload_n hx hb dX10_pay_11 rfl (lv_at hl 1 rfl) ?_
  refine hx_goi (hx_runV (As := [.int i1]) (rest := []) ⟨hx, hb, hml, hown, hts⟩ hW gy td_10 (T := TX10) (N := 98) rfl (c_X10_isClaim l dC dI dA L h s.heap.size y i1 gy f_y_36) (cwV 1 hts (hx_gV kw_1597 kw_1594 kw_1596 kw_73 kw_103) rfl rfl rfl (by decide +kernel) ⟨Nat.le_of_ble_eq_true rfl, Nat.le_of_ble_eq_true rfl⟩) rfl hl.1 rfl (Nat.le_of_ble_eq_true rfl) dX10_pay_12 ⟨Nat.le_of_ble_eq_true rfl, Nat.le_of_ble_eq_true rfl⟩) hW (fun r_4 L_2 h_3 H locs p_5 hW => ?_)
  obtain ⟨p_5, eu⟩ := p_5
  cases eu
  rcases p_5 with ⟨kp_5, rfl⟩ | ⟨kp_5, rfl⟩
  · exfalso
    omega
  · skip
    refine hb_if_eq (zx := 0) (tgt := 66) hx hb (by decide) dX10_pay_15 (by decide) (fun c_6 => ?_) (fun c_6 => absurd c_6 (by decide))
    refine lv_iconst (v := -1) hx hb dX10_pay_66 (by decide) ?_
    exact hx_reti hx hb hr hlk hW ⟨rfl, hM⟩ dX10_pay_67

theorem dX10_strike_0 : decode cX10_strike 0 = .ok (.iload_n 1, 1) := by decide +kernel
theorem dX10_strike_1 : decode cX10_strike 1 = .ok (.iconst 0, 1) := by decide +kernel
theorem dX10_strike_2 : decode cX10_strike 2 = .ok (.aload_n 0, 1) := by decide +kernel
theorem dX10_strike_3 : decode cX10_strike 3 = .ok (.getfield 413, 3) := by decide +kernel
theorem dX10_strike_6 : decode cX10_strike 6 = .ok (.iconst 1, 1) := by decide +kernel
theorem dX10_strike_7 : decode cX10_strike 7 = .ok (.isub, 1) := by decide +kernel
theorem dX10_strike_8 : decode cX10_strike 8 = .ok (.invokestatic 228, 3) := by decide +kernel
theorem dX10_strike_11 : decode cX10_strike 11 = .ok (.ifCond .eq 13, 3) := by decide +kernel
theorem dX10_strike_24 : decode cX10_strike 24 = .ok (.iconst 0, 1) := by decide +kernel
theorem dX10_strike_25 : decode cX10_strike 25 = .ok (.ireturn, 1) := by decide +kernel
set_option maxHeartbeats 4000000 in
set_option maxRecDepth 100000 in
theorem c_X10_strike (l : Launch) (dC : Nat → ClassId) (dI : Nat → Nat → Nat) (dA : Nat → ClassId) (L : List Nat) (h : hx_h) (sz : Nat) (y : Nat) (a : Int32) (gy : hx_g L h y 10) (f_y_59 : h.2.1 y 59 = 0) : Met l yX10_strike (Cond.code yX10_strike cX10_strike 2 (some .boolean) :: hx_all) ({ frames := 1, cells := 0, slots := 0, locals := 22 }) (va_Pc [.ref y, .int a] (hx_B P_tb (P_ty dA) (dC, dI) vwCl L h sz)) (va_Qi (fun (r : Int32) (u : List Nat × hx_h) => (r = 0) ∧ hx_S P_tb [] L h u.1 u.2) (hx_E P_tb (P_ty dA) (dC, dI) vwCl (hx_A L sz)) (hx_A L sz)) 0 0 (hx_A L sz) := by
  refine hx_met (lv := [(0, .ref y), (1, .int a)]) (by decide +kernel) rfl (Nat.le_of_ble_eq_true rfl) rfl ?_
  intro p e s m below meth c hx hb hml hr hlk hts0 hown hin hsz hW ls hl
  have hts : ∀ w ∈ hx_all, w.before _ s = true := fun w hw => hts0 w (List.mem_cons_of_mem _ hw)
  have hown : s.vm.findClass "SmallCourtModel" = some m.cls := hown
  have hM : hx_S P_tb [] L h L h := hx_S.rf
  refine lv_iload_n hx hb dX10_strike_0 rfl (lv_at hl 1 rfl) ?_
  refine lv_iconst (v := 0) hx hb dX10_strike_1 (by decide) ?_
  refine lv_aload_n hx hb dX10_strike_2 rfl (lv_at hl 0 rfl) ?_
  refine hk_geti hx hb hts hC_10 hown hW gy td_10 59 (by decide) rfl kw_1202 ⟨rfl, rfl, rfl⟩ f_y_59 dX10_strike_3 ?_
  refine lv_iconst (v := 1) hx hb dX10_strike_6 (by decide) ?_
  refine lv_isub hx hb dX10_strike_7 ?_
  refine lv_topi (fun x_1 ex_1 => ?_)
  obtain rfl : x_1 = (-1 : Int32) := ex_1.trans (by decide)
  refine hx_goi (hx_runS (As := [.int a, .int (0 : Int32), .int (-1 : Int32)]) (rest := []) ⟨hx, hb, hml, hown, hts⟩ hW (c_X10_in l dC dI dA L h s.heap.size a (0 : Int32) (-1 : Int32)) (va_cwS 3 hts (hx_gS kw_1445 kw_1443 kw_1444 kw_103) rfl rfl rfl (by decide +kernel) ⟨Nat.le_of_ble_eq_true rfl, Nat.le_of_ble_eq_true rfl⟩) rfl hl.1 rfl (Nat.le_of_ble_eq_true rfl) dX10_strike_8 ⟨Nat.le_of_ble_eq_true rfl, Nat.le_of_ble_eq_true rfl⟩) hW (fun r_4 L_2 h_3 H locs p_5 hW => ?_)
  obtain ⟨p_5, eu⟩ := p_5
  cases eu
  rcases p_5 with ⟨kp_5, rfl⟩ | ⟨kp_5, rfl⟩
  · exfalso
    have zc1 : (0 : Int32).toInt = 0 := by decide
    have zc2 : (-1 : Int32).toInt = -1 := by decide
    omega
  · skip
    have zc1 : (0 : Int32).toInt = 0 := by decide
    have zc2 : (-1 : Int32).toInt = -1 := by decide
    refine hb_if_eq (zx := 0) (tgt := 24) hx hb (by decide) dX10_strike_11 (by decide) (fun c_6 => ?_) (fun c_6 => absurd c_6 (by decide))
    refine lv_iconst (v := 0) hx hb dX10_strike_24 (by decide) ?_
    exact hx_retz hx hb hr rfl hlk hW ⟨rfl, hM⟩ dX10_strike_25

theorem dX10_planned_0 : decode cX10_planned 0 = .ok (.iload_n 1, 1) := by decide +kernel
theorem dX10_planned_1 : decode cX10_planned 1 = .ok (.iconst 0, 1) := by decide +kernel
theorem dX10_planned_2 : decode cX10_planned 2 = .ok (.aload_n 0, 1) := by decide +kernel
theorem dX10_planned_3 : decode cX10_planned 3 = .ok (.getfield 435, 3) := by decide +kernel
theorem dX10_planned_6 : decode cX10_planned 6 = .ok (.iconst 1, 1) := by decide +kernel
theorem dX10_planned_7 : decode cX10_planned 7 = .ok (.isub, 1) := by decide +kernel
theorem dX10_planned_8 : decode cX10_planned 8 = .ok (.invokestatic 228, 3) := by decide +kernel
theorem dX10_planned_11 : decode cX10_planned 11 = .ok (.ifCond .ne 5, 3) := by decide +kernel
theorem dX10_planned_14 : decode cX10_planned 14 = .ok (.iconst (-1), 1) := by decide +kernel
theorem dX10_planned_15 : decode cX10_planned 15 = .ok (.ireturn, 1) := by decide +kernel
set_option maxHeartbeats 4000000 in
set_option maxRecDepth 100000 in
theorem c_X10_planned (l : Launch) (dC : Nat → ClassId) (dI : Nat → Nat → Nat) (dA : Nat → ClassId) (L : List Nat) (h : hx_h) (sz : Nat) (y : Nat) (a : Int32) (b : Int32) (gy : hx_g L h y 10) (f_y_72 : h.2.1 y 72 = 0) : Met l yX10_planned (Cond.code yX10_planned cX10_planned 3 (some .int) :: hx_all) ({ frames := 1, cells := 0, slots := 0, locals := 22 }) (va_Pc [.ref y, .int a, .int b] (hx_B P_tb (P_ty dA) (dC, dI) vwCl L h sz)) (va_Qi (fun (r : Int32) (u : List Nat × hx_h) => (r = -1) ∧ hx_S P_tb [] L h u.1 u.2) (hx_E P_tb (P_ty dA) (dC, dI) vwCl (hx_A L sz)) (hx_A L sz)) 0 0 (hx_A L sz) := by
  refine hx_met (lv := [(0, .ref y), (1, .int a), (2, .int b)]) (by decide +kernel) rfl (Nat.le_of_ble_eq_true rfl) rfl ?_
  intro p e s m below meth c hx hb hml hr hlk hts0 hown hin hsz hW ls hl
  have hts : ∀ w ∈ hx_all, w.before _ s = true := fun w hw => hts0 w (List.mem_cons_of_mem _ hw)
  have hown : s.vm.findClass "SmallCourtModel" = some m.cls := hown
  have hM : hx_S P_tb [] L h L h := hx_S.rf
  refine lv_iload_n hx hb dX10_planned_0 rfl (lv_at hl 1 rfl) ?_
  refine lv_iconst (v := 0) hx hb dX10_planned_1 (by decide) ?_
  refine lv_aload_n hx hb dX10_planned_2 rfl (lv_at hl 0 rfl) ?_
  refine hk_geti hx hb hts hC_10 hown hW gy td_10 72 (by decide) rfl kw_1215 ⟨rfl, rfl, rfl⟩ f_y_72 dX10_planned_3 ?_
  refine lv_iconst (v := 1) hx hb dX10_planned_6 (by decide) ?_
  refine lv_isub hx hb dX10_planned_7 ?_
  refine lv_topi (fun x_1 ex_1 => ?_)
  obtain rfl : x_1 = (-1 : Int32) := ex_1.trans (by decide)
  refine hx_goi (hx_runS (As := [.int a, .int (0 : Int32), .int (-1 : Int32)]) (rest := []) ⟨hx, hb, hml, hown, hts⟩ hW (c_X10_in l dC dI dA L h s.heap.size a (0 : Int32) (-1 : Int32)) (va_cwS 3 hts (hx_gS kw_1445 kw_1443 kw_1444 kw_103) rfl rfl rfl (by decide +kernel) ⟨Nat.le_of_ble_eq_true rfl, Nat.le_of_ble_eq_true rfl⟩) rfl hl.1 rfl (Nat.le_of_ble_eq_true rfl) dX10_planned_8 ⟨Nat.le_of_ble_eq_true rfl, Nat.le_of_ble_eq_true rfl⟩) hW (fun r_4 L_2 h_3 H locs p_5 hW => ?_)
  obtain ⟨p_5, eu⟩ := p_5
  cases eu
  rcases p_5 with ⟨kp_5, rfl⟩ | ⟨kp_5, rfl⟩
  · exfalso
    have zc1 : (0 : Int32).toInt = 0 := by decide
    have zc2 : (-1 : Int32).toInt = -1 := by decide
    omega
  · skip
    have zc1 : (0 : Int32).toInt = 0 := by decide
    have zc2 : (-1 : Int32).toInt = -1 := by decide
    refine hb_if_ne (zx := 0) (tgt := 16) hx hb (by decide) dX10_planned_11 (by decide) (fun c_6 => absurd c_6 (by decide)) (fun c_6 => ?_)
    refine lv_iconst (v := -1) hx hb dX10_planned_14 (by decide) ?_
    exact hx_reti hx hb hr hlk hW ⟨rfl, hM⟩ dX10_planned_15

theorem dX10_netted_0 : decode cX10_netted 0 = .ok (.aload_n 0, 1) := by decide +kernel
theorem dX10_netted_1 : decode cX10_netted 1 = .ok (.getfield 451, 3) := by decide +kernel
theorem dX10_netted_4 : decode cX10_netted 4 = .ok (.ifCond .ne 7, 3) := by decide +kernel
theorem dX10_netted_7 : decode cX10_netted 7 = .ok (.iconst (-1), 1) := by decide +kernel
theorem dX10_netted_8 : decode cX10_netted 8 = .ok (.goto 39, 3) := by decide +kernel
theorem dX10_netted_47 : decode cX10_netted 47 = .ok (.ireturn, 1) := by decide +kernel
set_option maxHeartbeats 4000000 in
set_option maxRecDepth 100000 in
theorem c_X10_netted (l : Launch) (dC : Nat → ClassId) (dI : Nat → Nat → Nat) (dA : Nat → ClassId) (L : List Nat) (h : hx_h) (sz : Nat) (y : Nat) (a : Int32) (gy : hx_g L h y 10) (f_y_83 : h.2.1 y 83 = 0) : Met l yX10_netted (Cond.code yX10_netted cX10_netted 2 (some .int) :: hx_all) ({ frames := 0, cells := 0, slots := 0, locals := 0 }) (va_Pc [.ref y, .int a] (hx_B P_tb (P_ty dA) (dC, dI) vwCl L h sz)) (va_Qi (fun (r : Int32) (u : List Nat × hx_h) => (r = -1) ∧ hx_S P_tb [] L h u.1 u.2) (hx_E P_tb (P_ty dA) (dC, dI) vwCl (hx_A L sz)) (hx_A L sz)) 0 0 (hx_A L sz) := by
  refine hx_met (lv := [(0, .ref y), (1, .int a)]) (by decide +kernel) rfl (Nat.le_of_ble_eq_true rfl) rfl ?_
  intro p e s m below meth c hx hb hml hr hlk hts0 hown hin hsz hW ls hl
  have hts : ∀ w ∈ hx_all, w.before _ s = true := fun w hw => hts0 w (List.mem_cons_of_mem _ hw)
  have hown : s.vm.findClass "SmallCourtModel" = some m.cls := hown
  have hM : hx_S P_tb [] L h L h := hx_S.rf
  refine lv_aload_n hx hb dX10_netted_0 rfl (lv_at hl 0 rfl) ?_
  refine hk_geti hx hb hts hC_10 hown hW gy td_10 83 (by decide) rfl kw_1226 ⟨rfl, rfl, rfl⟩ f_y_83 dX10_netted_1 ?_
  refine hb_if_ne (zx := 0) (tgt := 11) hx hb (by decide) dX10_netted_4 (by decide) (fun c_1 => absurd c_1 (by decide)) (fun c_1 => ?_)
  refine lv_iconst (v := -1) hx hb dX10_netted_7 (by decide) ?_
  refine lv_goto (tgt := 47) hx hb dX10_netted_8 (by decide) ?_
  exact hx_reti hx hb hr hlk hW ⟨rfl, hM⟩ dX10_netted_47

theorem dX10_walked_0 : decode cX10_walked 0 = .ok (.iload_n 1, 1) := by decide +kernel
theorem dX10_walked_1 : decode cX10_walked 1 = .ok (.iconst 0, 1) := by decide +kernel
theorem dX10_walked_2 : decode cX10_walked 2 = .ok (.aload_n 0, 1) := by decide +kernel
theorem dX10_walked_3 : decode cX10_walked 3 = .ok (.getfield 478, 3) := by decide +kernel
theorem dX10_walked_6 : decode cX10_walked 6 = .ok (.iconst 1, 1) := by decide +kernel
theorem dX10_walked_7 : decode cX10_walked 7 = .ok (.isub, 1) := by decide +kernel
theorem dX10_walked_8 : decode cX10_walked 8 = .ok (.invokestatic 228, 3) := by decide +kernel
theorem dX10_walked_11 : decode cX10_walked 11 = .ok (.ifCond .eq 12, 3) := by decide +kernel
theorem dX10_walked_23 : decode cX10_walked 23 = .ok (.iconst (-1), 1) := by decide +kernel
theorem dX10_walked_24 : decode cX10_walked 24 = .ok (.ireturn, 1) := by decide +kernel
set_option maxHeartbeats 4000000 in
set_option maxRecDepth 100000 in
theorem c_X10_walked (l : Launch) (dC : Nat → ClassId) (dI : Nat → Nat → Nat) (dA : Nat → ClassId) (L : List Nat) (h : hx_h) (sz : Nat) (y : Nat) (a : Int32) (gy : hx_g L h y 10) (f_y_92 : h.2.1 y 92 = 0) : Met l yX10_walked (Cond.code yX10_walked cX10_walked 2 (some .int) :: hx_all) ({ frames := 1, cells := 0, slots := 0, locals := 22 }) (va_Pc [.ref y, .int a] (hx_B P_tb (P_ty dA) (dC, dI) vwCl L h sz)) (va_Qi (fun (r : Int32) (u : List Nat × hx_h) => (r = -1) ∧ hx_S P_tb [] L h u.1 u.2) (hx_E P_tb (P_ty dA) (dC, dI) vwCl (hx_A L sz)) (hx_A L sz)) 0 0 (hx_A L sz) := by
  refine hx_met (lv := [(0, .ref y), (1, .int a)]) (by decide +kernel) rfl (Nat.le_of_ble_eq_true rfl) rfl ?_
  intro p e s m below meth c hx hb hml hr hlk hts0 hown hin hsz hW ls hl
  have hts : ∀ w ∈ hx_all, w.before _ s = true := fun w hw => hts0 w (List.mem_cons_of_mem _ hw)
  have hown : s.vm.findClass "SmallCourtModel" = some m.cls := hown
  have hM : hx_S P_tb [] L h L h := hx_S.rf
  refine lv_iload_n hx hb dX10_walked_0 rfl (lv_at hl 1 rfl) ?_
  refine lv_iconst (v := 0) hx hb dX10_walked_1 (by decide) ?_
  refine lv_aload_n hx hb dX10_walked_2 rfl (lv_at hl 0 rfl) ?_
  refine hk_geti hx hb hts hC_10 hown hW gy td_10 92 (by decide) rfl kw_1235 ⟨rfl, rfl, rfl⟩ f_y_92 dX10_walked_3 ?_
  refine lv_iconst (v := 1) hx hb dX10_walked_6 (by decide) ?_
  refine lv_isub hx hb dX10_walked_7 ?_
  refine lv_topi (fun x_1 ex_1 => ?_)
  obtain rfl : x_1 = (-1 : Int32) := ex_1.trans (by decide)
  refine hx_goi (hx_runS (As := [.int a, .int (0 : Int32), .int (-1 : Int32)]) (rest := []) ⟨hx, hb, hml, hown, hts⟩ hW (c_X10_in l dC dI dA L h s.heap.size a (0 : Int32) (-1 : Int32)) (va_cwS 3 hts (hx_gS kw_1445 kw_1443 kw_1444 kw_103) rfl rfl rfl (by decide +kernel) ⟨Nat.le_of_ble_eq_true rfl, Nat.le_of_ble_eq_true rfl⟩) rfl hl.1 rfl (Nat.le_of_ble_eq_true rfl) dX10_walked_8 ⟨Nat.le_of_ble_eq_true rfl, Nat.le_of_ble_eq_true rfl⟩) hW (fun r_4 L_2 h_3 H locs p_5 hW => ?_)
  obtain ⟨p_5, eu⟩ := p_5
  cases eu
  rcases p_5 with ⟨kp_5, rfl⟩ | ⟨kp_5, rfl⟩
  · exfalso
    have zc1 : (0 : Int32).toInt = 0 := by decide
    have zc2 : (-1 : Int32).toInt = -1 := by decide
    omega
  · skip
    have zc1 : (0 : Int32).toInt = 0 := by decide
    have zc2 : (-1 : Int32).toInt = -1 := by decide
    refine hb_if_eq (zx := 0) (tgt := 23) hx hb (by decide) dX10_walked_11 (by decide) (fun c_6 => ?_) (fun c_6 => absurd c_6 (by decide))
    refine lv_iconst (v := -1) hx hb dX10_walked_23 (by decide) ?_
    exact hx_reti hx hb hr hlk hW ⟨rfl, hM⟩ dX10_walked_24

theorem dX10_count_0 : decode cX10_count 0 = .ok (.iconst 0, 1) := by decide +kernel
theorem dX10_count_1 : decode cX10_count 1 = .ok (.istore_n 2, 1) := by decide +kernel
theorem dX10_count_2 : decode cX10_count 2 = .ok (.iload_n 1, 1) := by decide +kernel
theorem dX10_count_3 : decode cX10_count 3 = .ok (.tableswitch 133 0 8 #[49, 54, 59, 64, 108, 113, 118, 123, 128], 49) := by decide +kernel
theorem dX10_count_52 : decode cX10_count 52 = .ok (.aload_n 0, 1) := by decide +kernel
theorem dX10_count_53 : decode cX10_count 53 = .ok (.getfield 232, 3) := by decide +kernel
theorem dX10_count_56 : decode cX10_count 56 = .ok (.ireturn, 1) := by decide +kernel
theorem dX10_count_57 : decode cX10_count 57 = .ok (.aload_n 0, 1) := by decide +kernel
theorem dX10_count_58 : decode cX10_count 58 = .ok (.getfield 321, 3) := by decide +kernel
theorem dX10_count_61 : decode cX10_count 61 = .ok (.ireturn, 1) := by decide +kernel
theorem dX10_count_62 : decode cX10_count 62 = .ok (.aload_n 0, 1) := by decide +kernel
theorem dX10_count_63 : decode cX10_count 63 = .ok (.getfield 337, 3) := by decide +kernel
theorem dX10_count_66 : decode cX10_count 66 = .ok (.ireturn, 1) := by decide +kernel
theorem dX10_count_67 : decode cX10_count 67 = .ok (.iconst 0, 1) := by decide +kernel
theorem dX10_count_68 : decode cX10_count 68 = .ok (.istore_n 3, 1) := by decide +kernel
theorem dX10_count_69 : decode cX10_count 69 = .ok (.iload_n 3, 1) := by decide +kernel
theorem dX10_count_70 : decode cX10_count 70 = .ok (.aload_n 0, 1) := by decide +kernel
theorem dX10_count_71 : decode cX10_count 71 = .ok (.getfield 337, 3) := by decide +kernel
theorem dX10_count_74 : decode cX10_count 74 = .ok (.if_icmp .ge 35, 3) := by decide +kernel
theorem dX10_count_109 : decode cX10_count 109 = .ok (.iload_n 2, 1) := by decide +kernel
theorem dX10_count_110 : decode cX10_count 110 = .ok (.ireturn, 1) := by decide +kernel
theorem dX10_count_111 : decode cX10_count 111 = .ok (.aload_n 0, 1) := by decide +kernel
theorem dX10_count_112 : decode cX10_count 112 = .ok (.getfield 351, 3) := by decide +kernel
theorem dX10_count_115 : decode cX10_count 115 = .ok (.ireturn, 1) := by decide +kernel
theorem dX10_count_116 : decode cX10_count 116 = .ok (.aload_n 0, 1) := by decide +kernel
theorem dX10_count_117 : decode cX10_count 117 = .ok (.getfield 367, 3) := by decide +kernel
theorem dX10_count_120 : decode cX10_count 120 = .ok (.ireturn, 1) := by decide +kernel
theorem dX10_count_121 : decode cX10_count 121 = .ok (.aload_n 0, 1) := by decide +kernel
theorem dX10_count_122 : decode cX10_count 122 = .ok (.getfield 413, 3) := by decide +kernel
theorem dX10_count_125 : decode cX10_count 125 = .ok (.ireturn, 1) := by decide +kernel
theorem dX10_count_126 : decode cX10_count 126 = .ok (.aload_n 0, 1) := by decide +kernel
theorem dX10_count_127 : decode cX10_count 127 = .ok (.getfield 236, 3) := by decide +kernel
theorem dX10_count_130 : decode cX10_count 130 = .ok (.ireturn, 1) := by decide +kernel
theorem dX10_count_131 : decode cX10_count 131 = .ok (.aload_n 0, 1) := by decide +kernel
theorem dX10_count_132 : decode cX10_count 132 = .ok (.getfield 468, 3) := by decide +kernel
theorem dX10_count_135 : decode cX10_count 135 = .ok (.ireturn, 1) := by decide +kernel
theorem dX10_count_136 : decode cX10_count 136 = .ok (.iconst (-1), 1) := by decide +kernel
theorem dX10_count_137 : decode cX10_count 137 = .ok (.ireturn, 1) := by decide +kernel
set_option maxHeartbeats 4000000 in
set_option maxRecDepth 100000 in
theorem c_X10_count (l : Launch) (dC : Nat → ClassId) (dI : Nat → Nat → Nat) (dA : Nat → ClassId) (L : List Nat) (h : hx_h) (sz : Nat) (y : Nat) (a : Int32) (gy : hx_g L h y 10) (f_y_0 : h.2.1 y 0 = 0) (f_y_1 : h.2.1 y 1 = 0) (f_y_20 : h.2.1 y 20 = 0) (f_y_29 : h.2.1 y 29 = 0) (f_y_36 : h.2.1 y 36 = 0) (f_y_59 : h.2.1 y 59 = 0) (f_y_7 : h.2.1 y 7 = 0) (f_y_90 : h.2.1 y 90 = 0) : Met l yX10_count (Cond.code yX10_count cX10_count 4 (some .int) :: hx_all) ({ frames := 0, cells := 0, slots := 0, locals := 0 }) (va_Pc [.ref y, .int a] (hx_B P_tb (P_ty dA) (dC, dI) vwCl L h sz)) (va_Qi (fun (r : Int32) (u : List Nat × hx_h) => ((0 ≤ a.toInt ∧ a.toInt ≤ 8) ∧ r = 0 ∨ ¬ (0 ≤ a.toInt ∧ a.toInt ≤ 8) ∧ r = -1) ∧ hx_S P_tb [] L h u.1 u.2) (hx_E P_tb (P_ty dA) (dC, dI) vwCl (hx_A L sz)) (hx_A L sz)) 0 0 (hx_A L sz) := by
  refine hx_met (lv := [(0, .ref y), (1, .int a)]) (by decide +kernel) rfl (Nat.le_of_ble_eq_true rfl) rfl ?_
  intro p e s m below meth c hx hb hml hr hlk hts0 hown hin hsz hW ls hl
  have hts : ∀ w ∈ hx_all, w.before _ s = true := fun w hw => hts0 w (List.mem_cons_of_mem _ hw)
  have hown : s.vm.findClass "SmallCourtModel" = some m.cls := hown
  have hM : hx_S P_tb [] L h L h := hx_S.rf
  refine lv_iconst (v := 0) hx hb dX10_count_0 (by decide) ?_
  refine lv_istore_n (lv' := [(2, .int (0 : Int32)), (0, .ref y), (1, .int a)]) hx hb dX10_count_1 rfl hl (by decide) rfl (fun ls hl => ?_)
  refine lv_iload_n hx hb dX10_count_2 rfl (lv_at hl 2 rfl) ?_
  rcases (show (a.toInt < 0 ∨ 8 < a.toInt) ∨ a.toInt = 0 ∨ a.toInt = 1 ∨ a.toInt = 2 ∨ a.toInt = 3 ∨ a.toInt = 4 ∨ a.toInt = 5 ∨ a.toInt = 6 ∨ a.toInt = 7 ∨ a.toInt = 8 from by omega) with c_1 | c_1 | c_1 | c_1 | c_1 | c_1 | c_1 | c_1 | c_1 | c_1
  · refine lv_tableOut (tgt := 136) hx hb dX10_count_3 c_1 (by decide) ?_
    refine lv_iconst (v := -1) hx hb dX10_count_136 (by decide) ?_
    exact hx_reti hx hb hr hlk hW ⟨Or.inr ⟨by first | omega | decide, rfl⟩, hM⟩ dX10_count_137
  · obtain rfl : a = (0 : Int32) := Int32.toInt_inj.mp (c_1.trans (by decide))
    refine lv_tableIn (off := 49) (tgt := 52) hx hb dX10_count_3 (by decide) (by decide) rfl (by decide) ?_
    refine lv_aload_n hx hb dX10_count_52 rfl (lv_at hl 1 rfl) ?_
    refine hk_geti hx hb hts hC_10 hown hW gy td_10 0 (by decide) rfl kw_1143 ⟨rfl, rfl, rfl⟩ f_y_0 dX10_count_53 ?_
    exact hx_reti hx hb hr hlk hW ⟨Or.inl ⟨by first | omega | decide, rfl⟩, hM⟩ dX10_count_56
  · obtain rfl : a = (1 : Int32) := Int32.toInt_inj.mp (c_1.trans (by decide))
    refine lv_tableIn (off := 54) (tgt := 57) hx hb dX10_count_3 (by decide) (by decide) rfl (by decide) ?_
    refine lv_aload_n hx hb dX10_count_57 rfl (lv_at hl 1 rfl) ?_
    refine hk_geti hx hb hts hC_10 hown hW gy td_10 1 (by decide) rfl kw_1144 ⟨rfl, rfl, rfl⟩ f_y_1 dX10_count_58 ?_
    exact hx_reti hx hb hr hlk hW ⟨Or.inl ⟨by first | omega | decide, rfl⟩, hM⟩ dX10_count_61
  · obtain rfl : a = (2 : Int32) := Int32.toInt_inj.mp (c_1.trans (by decide))
    refine lv_tableIn (off := 59) (tgt := 62) hx hb dX10_count_3 (by decide) (by decide) rfl (by decide) ?_
    refine lv_aload_n hx hb dX10_count_62 rfl (lv_at hl 1 rfl) ?_
    refine hk_geti hx hb hts hC_10 hown hW gy td_10 20 (by decide) rfl kw_1163 ⟨rfl, rfl, rfl⟩ f_y_20 dX10_count_63 ?_
    exact hx_reti hx hb hr hlk hW ⟨Or.inl ⟨by first | omega | decide, rfl⟩, hM⟩ dX10_count_66
  · obtain rfl : a = (3 : Int32) := Int32.toInt_inj.mp (c_1.trans (by decide))
    refine lv_tableIn (off := 64) (tgt := 67) hx hb dX10_count_3 (by decide) (by decide) rfl (by decide) ?_
    refine lv_iconst (v := 0) hx hb dX10_count_67 (by decide) ?_
    refine lv_istore_n (lv' := [(3, .int (0 : Int32)), (2, .int (0 : Int32)), (0, .ref y), (1, .int (3 : Int32))]) hx hb dX10_count_68 rfl hl (by decide) rfl (fun ls hl => ?_)
    refine lv_iload_n hx hb dX10_count_69 rfl (lv_at hl 0 rfl) ?_
    refine lv_aload_n hx hb dX10_count_70 rfl (lv_at hl 2 rfl) ?_
    refine hk_geti hx hb hts hC_10 hown hW gy td_10 20 (by decide) rfl kw_1163 ⟨rfl, rfl, rfl⟩ f_y_20 dX10_count_71 ?_
    refine hb_icmp_ge (zx := 0) (zy := 0) (tgt := 109) hx hb (by decide) (by decide) dX10_count_74 (by decide) (fun c_2 => ?_) (fun c_2 => absurd c_2 (by decide))
    refine lv_iload_n hx hb dX10_count_109 rfl (lv_at hl 1 rfl) ?_
    exact hx_reti hx hb hr hlk hW ⟨Or.inl ⟨by first | omega | decide, rfl⟩, hM⟩ dX10_count_110
  · obtain rfl : a = (4 : Int32) := Int32.toInt_inj.mp (c_1.trans (by decide))
    refine lv_tableIn (off := 108) (tgt := 111) hx hb dX10_count_3 (by decide) (by decide) rfl (by decide) ?_
    refine lv_aload_n hx hb dX10_count_111 rfl (lv_at hl 1 rfl) ?_
    refine hk_geti hx hb hts hC_10 hown hW gy td_10 29 (by decide) rfl kw_1172 ⟨rfl, rfl, rfl⟩ f_y_29 dX10_count_112 ?_
    exact hx_reti hx hb hr hlk hW ⟨Or.inl ⟨by first | omega | decide, rfl⟩, hM⟩ dX10_count_115
  · obtain rfl : a = (5 : Int32) := Int32.toInt_inj.mp (c_1.trans (by decide))
    refine lv_tableIn (off := 113) (tgt := 116) hx hb dX10_count_3 (by decide) (by decide) rfl (by decide) ?_
    refine lv_aload_n hx hb dX10_count_116 rfl (lv_at hl 1 rfl) ?_
    refine hk_geti hx hb hts hC_10 hown hW gy td_10 36 (by decide) rfl kw_1179 ⟨rfl, rfl, rfl⟩ f_y_36 dX10_count_117 ?_
    exact hx_reti hx hb hr hlk hW ⟨Or.inl ⟨by first | omega | decide, rfl⟩, hM⟩ dX10_count_120
  · obtain rfl : a = (6 : Int32) := Int32.toInt_inj.mp (c_1.trans (by decide))
    refine lv_tableIn (off := 118) (tgt := 121) hx hb dX10_count_3 (by decide) (by decide) rfl (by decide) ?_
    refine lv_aload_n hx hb dX10_count_121 rfl (lv_at hl 1 rfl) ?_
    refine hk_geti hx hb hts hC_10 hown hW gy td_10 59 (by decide) rfl kw_1202 ⟨rfl, rfl, rfl⟩ f_y_59 dX10_count_122 ?_
    exact hx_reti hx hb hr hlk hW ⟨Or.inl ⟨by first | omega | decide, rfl⟩, hM⟩ dX10_count_125
  · obtain rfl : a = (7 : Int32) := Int32.toInt_inj.mp (c_1.trans (by decide))
    refine lv_tableIn (off := 123) (tgt := 126) hx hb dX10_count_3 (by decide) (by decide) rfl (by decide) ?_
    refine lv_aload_n hx hb dX10_count_126 rfl (lv_at hl 1 rfl) ?_
    refine hk_geti hx hb hts hC_10 hown hW gy td_10 7 (by decide) rfl kw_1150 ⟨rfl, rfl, rfl⟩ f_y_7 dX10_count_127 ?_
    exact hx_reti hx hb hr hlk hW ⟨Or.inl ⟨by first | omega | decide, rfl⟩, hM⟩ dX10_count_130
  · obtain rfl : a = (8 : Int32) := Int32.toInt_inj.mp (c_1.trans (by decide))
    refine lv_tableIn (off := 128) (tgt := 131) hx hb dX10_count_3 (by decide) (by decide) rfl (by decide) ?_
    refine lv_aload_n hx hb dX10_count_131 rfl (lv_at hl 1 rfl) ?_
    refine hk_geti hx hb hts hC_10 hown hW gy td_10 90 (by decide) rfl kw_1233 ⟨rfl, rfl, rfl⟩ f_y_90 dX10_count_132 ?_
    exact hx_reti hx hb hr hlk hW ⟨Or.inl ⟨by first | omega | decide, rfl⟩, hM⟩ dX10_count_135

theorem dX10_other_0 : decode cX10_other 0 = .ok (.iload_n 1, 1) := by decide +kernel
theorem dX10_other_1 : decode cX10_other 1 = .ok (.iconst (-1), 1) := by decide +kernel
theorem dX10_other_2 : decode cX10_other 2 = .ok (.aload_n 0, 1) := by decide +kernel
theorem dX10_other_3 : decode cX10_other 3 = .ok (.getfield 321, 3) := by decide +kernel
theorem dX10_other_6 : decode cX10_other 6 = .ok (.iconst 1, 1) := by decide +kernel
theorem dX10_other_7 : decode cX10_other 7 = .ok (.isub, 1) := by decide +kernel
theorem dX10_other_8 : decode cX10_other 8 = .ok (.invokestatic 228, 3) := by decide +kernel
theorem dX10_other_11 : decode cX10_other 11 = .ok (.ifCond .eq 13, 3) := by decide +kernel
theorem dX10_other_14 : decode cX10_other 14 = .ok (.iload_n 2, 1) := by decide +kernel
theorem dX10_other_15 : decode cX10_other 15 = .ok (.iconst 1, 1) := by decide +kernel
theorem dX10_other_16 : decode cX10_other 16 = .ok (.bipush 6, 2) := by decide +kernel
theorem dX10_other_18 : decode cX10_other 18 = .ok (.invokestatic 228, 3) := by decide +kernel
theorem dX10_other_21 : decode cX10_other 21 = .ok (.ifCond .ne 5, 3) := by decide +kernel
theorem dX10_other_24 : decode cX10_other 24 = .ok (.iconst (-1), 1) := by decide +kernel
theorem dX10_other_25 : decode cX10_other 25 = .ok (.ireturn, 1) := by decide +kernel
theorem dX10_other_26 : decode cX10_other 26 = .ok (.iload_n 1, 1) := by decide +kernel
theorem dX10_other_27 : decode cX10_other 27 = .ok (.iconst 1, 1) := by decide +kernel
theorem dX10_other_28 : decode cX10_other 28 = .ok (.iadd, 1) := by decide +kernel
theorem dX10_other_29 : decode cX10_other 29 = .ok (.istore_n 3, 1) := by decide +kernel
theorem dX10_other_30 : decode cX10_other 30 = .ok (.iconst 0, 1) := by decide +kernel
theorem dX10_other_31 : decode cX10_other 31 = .ok (.istore 4, 2) := by decide +kernel
theorem dX10_other_33 : decode cX10_other 33 = .ok (.iconst 0, 1) := by decide +kernel
theorem dX10_other_34 : decode cX10_other 34 = .ok (.istore 5, 2) := by decide +kernel
theorem dX10_other_36 : decode cX10_other 36 = .ok (.iconst 0, 1) := by decide +kernel
theorem dX10_other_37 : decode cX10_other 37 = .ok (.istore 6, 2) := by decide +kernel
theorem dX10_other_39 : decode cX10_other 39 = .ok (.iload 6, 2) := by decide +kernel
theorem dX10_other_41 : decode cX10_other 41 = .ok (.aload_n 0, 1) := by decide +kernel
theorem dX10_other_42 : decode cX10_other 42 = .ok (.getfield 392, 3) := by decide +kernel
theorem dX10_other_45 : decode cX10_other 45 = .ok (.if_icmp .ge 89, 3) := by decide +kernel
theorem dX10_other_134 : decode cX10_other 134 = .ok (.iload_n 2, 1) := by decide +kernel
theorem dX10_other_135 : decode cX10_other 135 = .ok (.bipush 6, 2) := by decide +kernel
theorem dX10_other_137 : decode cX10_other 137 = .ok (.if_icmp .ne 8, 3) := by decide +kernel
theorem dX10_other_140 : decode cX10_other 140 = .ok (.iload 5, 2) := by decide +kernel
theorem dX10_other_142 : decode cX10_other 142 = .ok (.goto 5, 3) := by decide +kernel
theorem dX10_other_145 : decode cX10_other 145 = .ok (.iload 4, 2) := by decide +kernel
theorem dX10_other_147 : decode cX10_other 147 = .ok (.ireturn, 1) := by decide +kernel
set_option maxHeartbeats 4000000 in
set_option maxRecDepth 100000 in
theorem c_X10_other (l : Launch) (dC : Nat → ClassId) (dI : Nat → Nat → Nat) (dA : Nat → ClassId) (L : List Nat) (h : hx_h) (sz : Nat) (y : Nat) (a : Int32) (b : Int32) (gy : hx_g L h y 10) (f_y_1 : h.2.1 y 1 = 0) (f_y_57 : h.2.1 y 57 = 0) : Met l yX10_other (Cond.code yX10_other cX10_other 9 (some .int) :: hx_all) ({ frames := 1, cells := 0, slots := 0, locals := 22 }) (va_Pc [.ref y, .int a, .int b] (hx_B P_tb (P_ty dA) (dC, dI) vwCl L h sz)) (va_Qi (fun (r : Int32) (u : List Nat × hx_h) => ((a.toInt = -1 ∧ 1 ≤ b.toInt ∧ b.toInt ≤ 6) ∧ r = 0 ∨ ¬ (a.toInt = -1 ∧ 1 ≤ b.toInt ∧ b.toInt ≤ 6) ∧ r = -1) ∧ hx_S P_tb [] L h u.1 u.2) (hx_E P_tb (P_ty dA) (dC, dI) vwCl (hx_A L sz)) (hx_A L sz)) 0 0 (hx_A L sz) := by
  refine hx_met (lv := [(0, .ref y), (1, .int a), (2, .int b)]) (by decide +kernel) rfl (Nat.le_of_ble_eq_true rfl) rfl ?_
  intro p e s m below meth c hx hb hml hr hlk hts0 hown hin hsz hW ls hl
  have hts : ∀ w ∈ hx_all, w.before _ s = true := fun w hw => hts0 w (List.mem_cons_of_mem _ hw)
  have hown : s.vm.findClass "SmallCourtModel" = some m.cls := hown
  have hM : hx_S P_tb [] L h L h := hx_S.rf
  refine lv_iload_n hx hb dX10_other_0 rfl (lv_at hl 1 rfl) ?_
  refine lv_iconst (v := -1) hx hb dX10_other_1 (by decide) ?_
  refine lv_aload_n hx hb dX10_other_2 rfl (lv_at hl 0 rfl) ?_
  refine hk_geti hx hb hts hC_10 hown hW gy td_10 1 (by decide) rfl kw_1144 ⟨rfl, rfl, rfl⟩ f_y_1 dX10_other_3 ?_
  refine lv_iconst (v := 1) hx hb dX10_other_6 (by decide) ?_
  refine lv_isub hx hb dX10_other_7 ?_
  refine lv_topi (fun x_1 ex_1 => ?_)
  obtain rfl : x_1 = (-1 : Int32) := ex_1.trans (by decide)
  refine hx_goi (hx_runS (As := [.int a, .int (-1 : Int32), .int (-1 : Int32)]) (rest := []) ⟨hx, hb, hml, hown, hts⟩ hW (c_X10_in l dC dI dA L h s.heap.size a (-1 : Int32) (-1 : Int32)) (va_cwS 3 hts (hx_gS kw_1445 kw_1443 kw_1444 kw_103) rfl rfl rfl (by decide +kernel) ⟨Nat.le_of_ble_eq_true rfl, Nat.le_of_ble_eq_true rfl⟩) rfl hl.1 rfl (Nat.le_of_ble_eq_true rfl) dX10_other_8 ⟨Nat.le_of_ble_eq_true rfl, Nat.le_of_ble_eq_true rfl⟩) hW (fun r_4 L_2 h_3 H locs p_5 hW => ?_)
  obtain ⟨p_5, eu⟩ := p_5
  cases eu
  rcases p_5 with ⟨kp_5, rfl⟩ | ⟨kp_5, rfl⟩
  · skip
    have zc1 : (-1 : Int32).toInt = -1 := by decide
    have zc2 : (-1 : Int32).toInt = -1 := by decide
    refine hb_if_eq (zx := 1) (tgt := 24) hx hb (by decide) dX10_other_11 (by decide) (fun c_6 => absurd c_6 (by decide)) (fun c_6 => ?_)
    refine lv_iload_n hx hb dX10_other_14 rfl (lv_at hl 2 rfl) ?_
    refine lv_iconst (v := 1) hx hb dX10_other_15 (by decide) ?_
    refine lv_bipush (v := 6) hx hb dX10_other_16 (by decide) ?_
    refine hx_goi (hx_runS (As := [.int b, .int (1 : Int32), .int (6 : Int32)]) (rest := []) ⟨hx, hb, hml, hown, hts⟩ hW (c_X10_in l dC dI dA L h H.size b (1 : Int32) (6 : Int32)) (va_cwS 3 hts (hx_gS kw_1445 kw_1443 kw_1444 kw_103) rfl rfl rfl (by decide +kernel) ⟨Nat.le_of_ble_eq_true rfl, Nat.le_of_ble_eq_true rfl⟩) rfl hl.1 rfl (Nat.le_of_ble_eq_true rfl) dX10_other_18 ⟨Nat.le_of_ble_eq_true rfl, Nat.le_of_ble_eq_true rfl⟩) hW (fun r_9 L_7 h_8 H locs p_10 hW => ?_)
    obtain ⟨p_10, eu⟩ := p_10
    cases eu
    rcases p_10 with ⟨kp_10, rfl⟩ | ⟨kp_10, rfl⟩
    · skip
      have zc1 : (1 : Int32).toInt = 1 := by decide
      have zc2 : (6 : Int32).toInt = 6 := by decide
      refine hb_if_ne (zx := 1) (tgt := 26) hx hb (by decide) dX10_other_21 (by decide) (fun c_11 => ?_) (fun c_11 => absurd c_11 (by decide))
      refine lv_iload_n hx hb dX10_other_26 rfl (lv_at hl 1 rfl) ?_
      refine lv_iconst (v := 1) hx hb dX10_other_27 (by decide) ?_
      refine lv_iadd hx hb dX10_other_28 ?_
      refine lv_topi (fun x_12 ex_12 => ?_)
      have zx_12 : x_12.toInt = a.toInt + 1 := by rw [ex_12]; exact i32_add rfl (by decide) (by omega) (by omega)
      refine lv_istore_n (lv' := [(3, .int x_12), (0, .ref y), (1, .int a), (2, .int b)]) hx hb dX10_other_29 rfl hl (by decide) rfl (fun ls hl => ?_)
      refine lv_iconst (v := 0) hx hb dX10_other_30 (by decide) ?_
      refine lv_istore (lv' := [(4, .int (0 : Int32)), (3, .int x_12), (0, .ref y), (1, .int a), (2, .int b)]) hx hb dX10_other_31 hl (by decide) rfl (fun ls hl => ?_)
      refine lv_iconst (v := 0) hx hb dX10_other_33 (by decide) ?_
      refine lv_istore (lv' := [(5, .int (0 : Int32)), (4, .int (0 : Int32)), (3, .int x_12), (0, .ref y), (1, .int a), (2, .int b)]) hx hb dX10_other_34 hl (by decide) rfl (fun ls hl => ?_)
      refine lv_iconst (v := 0) hx hb dX10_other_36 (by decide) ?_
      refine lv_istore (lv' := [(6, .int (0 : Int32)), (5, .int (0 : Int32)), (4, .int (0 : Int32)), (3, .int x_12), (0, .ref y), (1, .int a), (2, .int b)]) hx hb dX10_other_37 hl (by decide) rfl (fun ls hl => ?_)
      refine lv_iload hx hb dX10_other_39 (lv_at hl 0 rfl) ?_
      refine lv_aload_n hx hb dX10_other_41 rfl (lv_at hl 4 rfl) ?_
      refine hk_geti hx hb hts hC_10 hown hW gy td_10 57 (by decide) rfl kw_1200 ⟨rfl, rfl, rfl⟩ f_y_57 dX10_other_42 ?_
      refine hb_icmp_ge (zx := 0) (zy := 0) (tgt := 134) hx hb (by decide) (by decide) dX10_other_45 (by decide) (fun c_13 => ?_) (fun c_13 => absurd c_13 (by decide))
      refine lv_iload_n hx hb dX10_other_134 rfl (lv_at hl 6 rfl) ?_
      refine lv_bipush (v := 6) hx hb dX10_other_135 (by decide) ?_
      refine hb_icmp_ne (zx := b.toInt) (zy := 6) (tgt := 145) hx hb rfl (by decide) dX10_other_137 (by decide) (fun c_14 => ?_) (fun c_14 => ?_)
      · skip
        refine lv_iload hx hb dX10_other_145 (lv_at hl 2 rfl) ?_
        exact hx_reti hx hb hr hlk hW ⟨Or.inl ⟨by first | omega | decide, rfl⟩, hM⟩ dX10_other_147
      · skip
        refine lv_iload hx hb dX10_other_140 (lv_at hl 1 rfl) ?_
        refine lv_goto (tgt := 147) hx hb dX10_other_142 (by decide) ?_
        exact hx_reti hx hb hr hlk hW ⟨Or.inl ⟨by first | omega | decide, rfl⟩, hM⟩ dX10_other_147
    · skip
      have zc1 : (1 : Int32).toInt = 1 := by decide
      have zc2 : (6 : Int32).toInt = 6 := by decide
      refine hb_if_ne (zx := 0) (tgt := 26) hx hb (by decide) dX10_other_21 (by decide) (fun c_15 => absurd c_15 (by decide)) (fun c_15 => ?_)
      refine lv_iconst (v := -1) hx hb dX10_other_24 (by decide) ?_
      exact hx_reti hx hb hr hlk hW ⟨Or.inr ⟨by first | omega | decide, rfl⟩, hM⟩ dX10_other_25
  · skip
    have zc1 : (-1 : Int32).toInt = -1 := by decide
    have zc2 : (-1 : Int32).toInt = -1 := by decide
    refine hb_if_eq (zx := 0) (tgt := 24) hx hb (by decide) dX10_other_11 (by decide) (fun c_16 => ?_) (fun c_16 => absurd c_16 (by decide))
    refine lv_iconst (v := -1) hx hb dX10_other_24 (by decide) ?_
    exact hx_reti hx hb hr hlk hW ⟨Or.inr ⟨by first | omega | decide, rfl⟩, hM⟩ dX10_other_25
end
section
theorem dX10_areLives_0 : decode cX10_areLives 0 = .ok (.iload_n 0, 1) := by decide +kernel
theorem dX10_areLives_1 : decode cX10_areLives 1 = .ok (.iconst 0, 1) := by decide +kernel
theorem dX10_areLives_2 : decode cX10_areLives 2 = .ok (.sipush 9999, 3) := by decide +kernel
theorem dX10_areLives_5 : decode cX10_areLives 5 = .ok (.invokestatic 228, 3) := by decide +kernel
theorem dX10_areLives_8 : decode cX10_areLives 8 = .ok (.ifCond .eq 37, 3) := by decide +kernel
theorem dX10_areLives_11 : decode cX10_areLives 11 = .ok (.iload_n 1, 1) := by decide +kernel
theorem dX10_areLives_12 : decode cX10_areLives 12 = .ok (.iconst 1, 1) := by decide +kernel
theorem dX10_areLives_13 : decode cX10_areLives 13 = .ok (.bipush 20, 2) := by decide +kernel
theorem dX10_areLives_15 : decode cX10_areLives 15 = .ok (.invokestatic 228, 3) := by decide +kernel
theorem dX10_areLives_18 : decode cX10_areLives 18 = .ok (.ifCond .eq 27, 3) := by decide +kernel
theorem dX10_areLives_21 : decode cX10_areLives 21 = .ok (.iload_n 2, 1) := by decide +kernel
theorem dX10_areLives_22 : decode cX10_areLives 22 = .ok (.iconst 0, 1) := by decide +kernel
theorem dX10_areLives_23 : decode cX10_areLives 23 = .ok (.bipush 99, 2) := by decide +kernel
theorem dX10_areLives_25 : decode cX10_areLives 25 = .ok (.invokestatic 228, 3) := by decide +kernel
theorem dX10_areLives_28 : decode cX10_areLives 28 = .ok (.ifCond .eq 17, 3) := by decide +kernel
theorem dX10_areLives_31 : decode cX10_areLives 31 = .ok (.iload_n 3, 1) := by decide +kernel
theorem dX10_areLives_32 : decode cX10_areLives 32 = .ok (.iconst 0, 1) := by decide +kernel
theorem dX10_areLives_33 : decode cX10_areLives 33 = .ok (.bipush 99, 2) := by decide +kernel
theorem dX10_areLives_35 : decode cX10_areLives 35 = .ok (.invokestatic 228, 3) := by decide +kernel
theorem dX10_areLives_38 : decode cX10_areLives 38 = .ok (.ifCond .eq 7, 3) := by decide +kernel
theorem dX10_areLives_41 : decode cX10_areLives 41 = .ok (.iconst 1, 1) := by decide +kernel
theorem dX10_areLives_42 : decode cX10_areLives 42 = .ok (.goto 4, 3) := by decide +kernel
theorem dX10_areLives_45 : decode cX10_areLives 45 = .ok (.iconst 0, 1) := by decide +kernel
theorem dX10_areLives_46 : decode cX10_areLives 46 = .ok (.ireturn, 1) := by decide +kernel
set_option maxHeartbeats 4000000 in
set_option maxRecDepth 100000 in
theorem c_X10_areLives (l : Launch) (dC : Nat → ClassId) (dI : Nat → Nat → Nat) (dA : Nat → ClassId) (L : List Nat) (h : hx_h) (sz : Nat) (i1 : Int32) (i2 : Int32) (i3 : Int32) (i4 : Int32)   : Met l yX10_areLives (Cond.code yX10_areLives cX10_areLives 4 (some .boolean) :: hx_all) ({ frames := 1, cells := 0, slots := 0, locals := 22 }) (va_Pc [.int i1, .int i2, .int i3, .int i4] (hx_B P_tb (P_ty dA) (dC, dI) vwCl L h sz)) (va_Qi (fun (r : Int32) (u : List Nat × hx_h) => (((0 ≤ i1.toInt ∧ i1.toInt ≤ 9999) ∧ (1 ≤ i2.toInt ∧ i2.toInt ≤ 20) ∧ (0 ≤ i3.toInt ∧ i3.toInt ≤ 99) ∧ (0 ≤ i4.toInt ∧ i4.toInt ≤ 99)) ∧ r = 1 ∨ ¬ ((0 ≤ i1.toInt ∧ i1.toInt ≤ 9999) ∧ (1 ≤ i2.toInt ∧ i2.toInt ≤ 20) ∧ (0 ≤ i3.toInt ∧ i3.toInt ≤ 99) ∧ (0 ≤ i4.toInt ∧ i4.toInt ≤ 99)) ∧ r = 0) ∧ u = (L, h)) (hx_E P_tb (P_ty dA) (dC, dI) vwCl (hx_A L sz)) (hx_A L sz)) 0 0 (hx_A L sz) := by
  refine hx_met (lv := [(0, .int i1), (1, .int i2), (2, .int i3), (3, .int i4)]) (by decide +kernel) rfl (Nat.le_of_ble_eq_true rfl) rfl ?_
  intro p e s m below meth c hx hb hml hr hlk hts0 hown hin hsz hW ls hl
  have hts : ∀ w ∈ hx_all, w.before _ s = true := fun w hw => hts0 w (List.mem_cons_of_mem _ hw)
  have hown : s.vm.findClass "SmallCourtModel" = some m.cls := hown
  refine lv_iload_n hx hb dX10_areLives_0 rfl (lv_at hl 0 rfl) ?_
  refine lv_iconst (v := 0) hx hb dX10_areLives_1 (by decide) ?_
  refine lv_sipush (v := 9999) hx hb dX10_areLives_2 (by decide) ?_
  refine hx_goi (hx_runS (As := [.int i1, .int (0 : Int32), .int (9999 : Int32)]) (rest := []) ⟨hx, hb, hml, hown, hts⟩ hW (c_X10_in l dC dI dA L h s.heap.size i1 (0 : Int32) (9999 : Int32)) (va_cwS 3 hts (hx_gS kw_1445 kw_1443 kw_1444 kw_103) rfl rfl rfl (by decide +kernel) ⟨Nat.le_of_ble_eq_true rfl, Nat.le_of_ble_eq_true rfl⟩) rfl hl.1 rfl (Nat.le_of_ble_eq_true rfl) dX10_areLives_5 ⟨Nat.le_of_ble_eq_true rfl, Nat.le_of_ble_eq_true rfl⟩) hW (fun r_3 L_1 h_2 H locs p_4 hW => ?_)
  obtain ⟨p_4, eu⟩ := p_4
  cases eu
  rcases p_4 with ⟨kp_4, rfl⟩ | ⟨kp_4, rfl⟩
  · skip
    have zc1 : (0 : Int32).toInt = 0 := by decide
    have zc2 : (9999 : Int32).toInt = 9999 := by decide
    refine hb_if_eq (zx := 1) (tgt := 45) hx hb (by decide) dX10_areLives_8 (by decide) (fun c_5 => absurd c_5 (by decide)) (fun c_5 => ?_)
    refine lv_iload_n hx hb dX10_areLives_11 rfl (lv_at hl 1 rfl) ?_
    refine lv_iconst (v := 1) hx hb dX10_areLives_12 (by decide) ?_
    refine lv_bipush (v := 20) hx hb dX10_areLives_13 (by decide) ?_
    refine hx_goi (hx_runS (As := [.int i2, .int (1 : Int32), .int (20 : Int32)]) (rest := []) ⟨hx, hb, hml, hown, hts⟩ hW (c_X10_in l dC dI dA L h H.size i2 (1 : Int32) (20 : Int32)) (va_cwS 3 hts (hx_gS kw_1445 kw_1443 kw_1444 kw_103) rfl rfl rfl (by decide +kernel) ⟨Nat.le_of_ble_eq_true rfl, Nat.le_of_ble_eq_true rfl⟩) rfl hl.1 rfl (Nat.le_of_ble_eq_true rfl) dX10_areLives_15 ⟨Nat.le_of_ble_eq_true rfl, Nat.le_of_ble_eq_true rfl⟩) hW (fun r_8 L_6 h_7 H locs p_9 hW => ?_)
    obtain ⟨p_9, eu⟩ := p_9
    cases eu
    rcases p_9 with ⟨kp_9, rfl⟩ | ⟨kp_9, rfl⟩
    · skip
      have zc1 : (1 : Int32).toInt = 1 := by decide
      have zc2 : (20 : Int32).toInt = 20 := by decide
      refine hb_if_eq (zx := 1) (tgt := 45) hx hb (by decide) dX10_areLives_18 (by decide) (fun c_10 => absurd c_10 (by decide)) (fun c_10 => ?_)
      refine lv_iload_n hx hb dX10_areLives_21 rfl (lv_at hl 2 rfl) ?_
      refine lv_iconst (v := 0) hx hb dX10_areLives_22 (by decide) ?_
      refine lv_bipush (v := 99) hx hb dX10_areLives_23 (by decide) ?_
      refine hx_goi (hx_runS (As := [.int i3, .int (0 : Int32), .int (99 : Int32)]) (rest := []) ⟨hx, hb, hml, hown, hts⟩ hW (c_X10_in l dC dI dA L h H.size i3 (0 : Int32) (99 : Int32)) (va_cwS 3 hts (hx_gS kw_1445 kw_1443 kw_1444 kw_103) rfl rfl rfl (by decide +kernel) ⟨Nat.le_of_ble_eq_true rfl, Nat.le_of_ble_eq_true rfl⟩) rfl hl.1 rfl (Nat.le_of_ble_eq_true rfl) dX10_areLives_25 ⟨Nat.le_of_ble_eq_true rfl, Nat.le_of_ble_eq_true rfl⟩) hW (fun r_13 L_11 h_12 H locs p_14 hW => ?_)
      obtain ⟨p_14, eu⟩ := p_14
      cases eu
      rcases p_14 with ⟨kp_14, rfl⟩ | ⟨kp_14, rfl⟩
      · skip
        have zc1 : (0 : Int32).toInt = 0 := by decide
        have zc2 : (99 : Int32).toInt = 99 := by decide
        refine hb_if_eq (zx := 1) (tgt := 45) hx hb (by decide) dX10_areLives_28 (by decide) (fun c_15 => absurd c_15 (by decide)) (fun c_15 => ?_)
        refine lv_iload_n hx hb dX10_areLives_31 rfl (lv_at hl 3 rfl) ?_
        refine lv_iconst (v := 0) hx hb dX10_areLives_32 (by decide) ?_
        refine lv_bipush (v := 99) hx hb dX10_areLives_33 (by decide) ?_
        refine hx_goi (hx_runS (As := [.int i4, .int (0 : Int32), .int (99 : Int32)]) (rest := []) ⟨hx, hb, hml, hown, hts⟩ hW (c_X10_in l dC dI dA L h H.size i4 (0 : Int32) (99 : Int32)) (va_cwS 3 hts (hx_gS kw_1445 kw_1443 kw_1444 kw_103) rfl rfl rfl (by decide +kernel) ⟨Nat.le_of_ble_eq_true rfl, Nat.le_of_ble_eq_true rfl⟩) rfl hl.1 rfl (Nat.le_of_ble_eq_true rfl) dX10_areLives_35 ⟨Nat.le_of_ble_eq_true rfl, Nat.le_of_ble_eq_true rfl⟩) hW (fun r_18 L_16 h_17 H locs p_19 hW => ?_)
        obtain ⟨p_19, eu⟩ := p_19
        cases eu
        rcases p_19 with ⟨kp_19, rfl⟩ | ⟨kp_19, rfl⟩
        · skip
          have zc1 : (0 : Int32).toInt = 0 := by decide
          have zc2 : (99 : Int32).toInt = 99 := by decide
          refine hb_if_eq (zx := 1) (tgt := 45) hx hb (by decide) dX10_areLives_38 (by decide) (fun c_20 => absurd c_20 (by decide)) (fun c_20 => ?_)
          refine lv_iconst (v := 1) hx hb dX10_areLives_41 (by decide) ?_
          refine lv_goto (tgt := 46) hx hb dX10_areLives_42 (by decide) ?_
          exact hx_retz hx hb hr rfl hlk hW ⟨Or.inl ⟨by first | omega | exact id, rfl⟩, rfl⟩ dX10_areLives_46
        · skip
          have zc1 : (0 : Int32).toInt = 0 := by decide
          have zc2 : (99 : Int32).toInt = 99 := by decide
          refine hb_if_eq (zx := 0) (tgt := 45) hx hb (by decide) dX10_areLives_38 (by decide) (fun c_21 => ?_) (fun c_21 => absurd c_21 (by decide))
          refine lv_iconst (v := 0) hx hb dX10_areLives_45 (by decide) ?_
          exact hx_retz hx hb hr rfl hlk hW ⟨Or.inr ⟨by first | omega | exact id, rfl⟩, rfl⟩ dX10_areLives_46
      · skip
        have zc1 : (0 : Int32).toInt = 0 := by decide
        have zc2 : (99 : Int32).toInt = 99 := by decide
        refine hb_if_eq (zx := 0) (tgt := 45) hx hb (by decide) dX10_areLives_28 (by decide) (fun c_22 => ?_) (fun c_22 => absurd c_22 (by decide))
        refine lv_iconst (v := 0) hx hb dX10_areLives_45 (by decide) ?_
        exact hx_retz hx hb hr rfl hlk hW ⟨Or.inr ⟨by first | omega | exact id, rfl⟩, rfl⟩ dX10_areLives_46
    · skip
      have zc1 : (1 : Int32).toInt = 1 := by decide
      have zc2 : (20 : Int32).toInt = 20 := by decide
      refine hb_if_eq (zx := 0) (tgt := 45) hx hb (by decide) dX10_areLives_18 (by decide) (fun c_23 => ?_) (fun c_23 => absurd c_23 (by decide))
      refine lv_iconst (v := 0) hx hb dX10_areLives_45 (by decide) ?_
      exact hx_retz hx hb hr rfl hlk hW ⟨Or.inr ⟨by first | omega | exact id, rfl⟩, rfl⟩ dX10_areLives_46
  · skip
    have zc1 : (0 : Int32).toInt = 0 := by decide
    have zc2 : (9999 : Int32).toInt = 9999 := by decide
    refine hb_if_eq (zx := 0) (tgt := 45) hx hb (by decide) dX10_areLives_8 (by decide) (fun c_24 => ?_) (fun c_24 => absurd c_24 (by decide))
    refine lv_iconst (v := 0) hx hb dX10_areLives_45 (by decide) ?_
    exact hx_retz hx hb hr rfl hlk hW ⟨Or.inr ⟨by first | omega | exact id, rfl⟩, rfl⟩ dX10_areLives_46

theorem dX10_lives_0 : decode cX10_lives 0 = .ok (.aload_n 0, 1) := by decide +kernel
theorem dX10_lives_1 : decode cX10_lives 1 = .ok (.getfield 41, 3) := by decide +kernel
theorem dX10_lives_4 : decode cX10_lives 4 = .ok (.iload_n 1, 1) := by decide +kernel
theorem dX10_lives_5 : decode cX10_lives 5 = .ok (.iload_n 2, 1) := by decide +kernel
theorem dX10_lives_6 : decode cX10_lives 6 = .ok (.iastore, 1) := by decide +kernel
theorem dX10_lives_7 : decode cX10_lives 7 = .ok (.aload_n 0, 1) := by decide +kernel
theorem dX10_lives_8 : decode cX10_lives 8 = .ok (.getfield 44, 3) := by decide +kernel
theorem dX10_lives_11 : decode cX10_lives 11 = .ok (.iload_n 1, 1) := by decide +kernel
theorem dX10_lives_12 : decode cX10_lives 12 = .ok (.iload_n 3, 1) := by decide +kernel
theorem dX10_lives_13 : decode cX10_lives 13 = .ok (.iastore, 1) := by decide +kernel
theorem dX10_lives_14 : decode cX10_lives 14 = .ok (.aload_n 0, 1) := by decide +kernel
theorem dX10_lives_15 : decode cX10_lives 15 = .ok (.getfield 47, 3) := by decide +kernel
theorem dX10_lives_18 : decode cX10_lives 18 = .ok (.iload_n 1, 1) := by decide +kernel
theorem dX10_lives_19 : decode cX10_lives 19 = .ok (.iload 4, 2) := by decide +kernel
theorem dX10_lives_21 : decode cX10_lives 21 = .ok (.iastore, 1) := by decide +kernel
theorem dX10_lives_22 : decode cX10_lives 22 = .ok (.aload_n 0, 1) := by decide +kernel
theorem dX10_lives_23 : decode cX10_lives 23 = .ok (.getfield 50, 3) := by decide +kernel
theorem dX10_lives_26 : decode cX10_lives 26 = .ok (.iload_n 1, 1) := by decide +kernel
theorem dX10_lives_27 : decode cX10_lives 27 = .ok (.iload 5, 2) := by decide +kernel
theorem dX10_lives_29 : decode cX10_lives 29 = .ok (.iastore, 1) := by decide +kernel
theorem dX10_lives_30 : decode cX10_lives 30 = .ok (.return_, 1) := by decide +kernel
set_option maxHeartbeats 4000000 in
set_option maxRecDepth 100000 in
theorem c_X10_lives (l : Launch) (dC : Nat → ClassId) (dI : Nat → Nat → Nat) (dA : Nat → ClassId) (L : List Nat) (h : hx_h) (sz : Nat) (y : Nat) (i0 : Int32) (i1 : Int32) (i2 : Int32) (i3 : Int32) (i4 : Int32) (gy : hx_g L h y 10) (hi0 : i0.toInt = 0) (q1 : Nat) (gq1 : hx_g L h q1 59) (f_y_22 : h.2.2 y 22 = some q1) (q2 : Nat) (gq2 : hx_g L h q2 60) (f_y_23 : h.2.2 y 23 = some q2) (q3 : Nat) (gq3 : hx_g L h q3 61) (f_y_24 : h.2.2 y 24 = some q3) (q4 : Nat) (gq4 : hx_g L h q4 62) (f_y_25 : h.2.2 y 25 = some q4) : Met l yX10_lives (Cond.code yX10_lives cX10_lives 6 none :: hx_all) ({ frames := 0, cells := 0, slots := 0, locals := 0 }) (va_Pc [.ref y, .int i0, .int i1, .int i2, .int i3, .int i4] (hx_B P_tb (P_ty dA) (dC, dI) vwCl L h sz)) (va_Qv (fun (u : List Nat × hx_h) => hx_S P_tb [(59, 0), (60, 0), (61, 0), (62, 0)] L h u.1 u.2) (hx_E P_tb (P_ty dA) (dC, dI) vwCl (hx_A L sz)) (hx_A L sz)) 0 0 (hx_A L sz) := by
  refine hx_met (lv := [(0, .ref y), (1, .int i0), (2, .int i1), (3, .int i2), (4, .int i3), (5, .int i4)]) (by decide +kernel) rfl (Nat.le_of_ble_eq_true rfl) rfl ?_
  intro p e s m below meth c hx hb hml hr hlk hts0 hown hin hsz hW ls hl
  have hts : ∀ w ∈ hx_all, w.before _ s = true := fun w hw => hts0 w (List.mem_cons_of_mem _ hw)
  have hown : s.vm.findClass "SmallCourtModel" = some m.cls := hown
  have hM : hx_S P_tb [(59, 0), (60, 0), (61, 0), (62, 0)] L h L h := hx_S.rf
  refine lv_aload_n hx hb dX10_lives_0 rfl (lv_at hl 0 rfl) ?_
  refine hk_getr hx hb hts hC_10 hown hW gy td_10 22 (by decide) rfl kw_1165 ⟨rfl, rfl, rfl⟩ f_y_22 dX10_lives_1 ?_
  refine lv_iload_n hx hb dX10_lives_4 rfl (lv_at hl 1 rfl) ?_
  refine lv_iload_n hx hb dX10_lives_5 rfl (lv_at hl 2 rfl) ?_
  refine hk_iast hx hb hW gq1 td_59 rfl ⟨by omega, by omega⟩ rfl dX10_lives_6 (fun H locs h_1 eh_1 hW hs => ?_)
  have f_y_22 := (hs.o gy trivial rfl).2.trans f_y_22
  have f_y_23 := (hs.o gy trivial rfl).2.trans f_y_23
  have f_y_24 := (hs.o gy trivial rfl).2.trans f_y_24
  have f_y_25 := (hs.o gy trivial rfl).2.trans f_y_25
  have hM := hM.tr (hs.mono (by decide))
  have gy := gy.S hs
  have gq1 := gq1.S hs
  have gq2 := gq2.S hs
  have gq3 := gq3.S hs
  have gq4 := gq4.S hs
  refine lv_aload_n hx hb dX10_lives_7 rfl (lv_at hl 0 rfl) ?_
  refine hk_getr hx hb hts hC_10 hown hW gy td_10 23 (by decide) rfl kw_1166 ⟨rfl, rfl, rfl⟩ f_y_23 dX10_lives_8 ?_
  refine lv_iload_n hx hb dX10_lives_11 rfl (lv_at hl 1 rfl) ?_
  refine lv_iload_n hx hb dX10_lives_12 rfl (lv_at hl 3 rfl) ?_
  refine hk_iast hx hb hW gq2 td_60 rfl ⟨by omega, by omega⟩ rfl dX10_lives_13 (fun H locs h_2 eh_2 hW hs => ?_)
  have f_y_22 := (hs.o gy trivial rfl).2.trans f_y_22
  have f_y_23 := (hs.o gy trivial rfl).2.trans f_y_23
  have f_y_24 := (hs.o gy trivial rfl).2.trans f_y_24
  have f_y_25 := (hs.o gy trivial rfl).2.trans f_y_25
  have hM := hM.tr (hs.mono (by decide))
  have gy := gy.S hs
  have gq1 := gq1.S hs
  have gq2 := gq2.S hs
  have gq3 := gq3.S hs
  have gq4 := gq4.S hs
  refine lv_aload_n hx hb dX10_lives_14 rfl (lv_at hl 0 rfl) ?_
  refine hk_getr hx hb hts hC_10 hown hW gy td_10 24 (by decide) rfl kw_1167 ⟨rfl, rfl, rfl⟩ f_y_24 dX10_lives_15 ?_
  refine lv_iload_n hx hb dX10_lives_18 rfl (lv_at hl 1 rfl) ?_
  refine lv_iload hx hb dX10_lives_19 (lv_at hl 4 rfl) ?_
  refine hk_iast hx hb hW gq3 td_61 rfl ⟨by omega, by omega⟩ rfl dX10_lives_21 (fun H locs h_3 eh_3 hW hs => ?_)
  have f_y_22 := (hs.o gy trivial rfl).2.trans f_y_22
  have f_y_23 := (hs.o gy trivial rfl).2.trans f_y_23
  have f_y_24 := (hs.o gy trivial rfl).2.trans f_y_24
  have f_y_25 := (hs.o gy trivial rfl).2.trans f_y_25
  have hM := hM.tr (hs.mono (by decide))
  have gy := gy.S hs
  have gq1 := gq1.S hs
  have gq2 := gq2.S hs
  have gq3 := gq3.S hs
  have gq4 := gq4.S hs
  refine lv_aload_n hx hb dX10_lives_22 rfl (lv_at hl 0 rfl) ?_
  refine hk_getr hx hb hts hC_10 hown hW gy td_10 25 (by decide) rfl kw_1168 ⟨rfl, rfl, rfl⟩ f_y_25 dX10_lives_23 ?_
  refine lv_iload_n hx hb dX10_lives_26 rfl (lv_at hl 1 rfl) ?_
  refine lv_iload hx hb dX10_lives_27 (lv_at hl 5 rfl) ?_
  refine hk_iast hx hb hW gq4 td_62 rfl ⟨by omega, by omega⟩ rfl dX10_lives_29 (fun H locs h_4 eh_4 hW hs => ?_)
  have f_y_22 := (hs.o gy trivial rfl).2.trans f_y_22
  have f_y_23 := (hs.o gy trivial rfl).2.trans f_y_23
  have f_y_24 := (hs.o gy trivial rfl).2.trans f_y_24
  have f_y_25 := (hs.o gy trivial rfl).2.trans f_y_25
  have hM := hM.tr (hs.mono (by decide))
  have gy := gy.S hs
  have gq1 := gq1.S hs
  have gq2 := gq2.S hs
  have gq3 := gq3.S hs
  have gq4 := gq4.S hs
  exact hx_retv hx hb hr hlk hW hM dX10_lives_30

theorem dX10_person_0 : decode cX10_person 0 = .ok (.aload_n 0, 1) := by decide +kernel
theorem dX10_person_1 : decode cX10_person 1 = .ok (.getfield 337, 3) := by decide +kernel
theorem dX10_person_4 : decode cX10_person 4 = .ok (.bipush 40, 2) := by decide +kernel
theorem dX10_person_6 : decode cX10_person 6 = .ok (.if_icmp .eq 39, 3) := by decide +kernel
theorem dX10_person_9 : decode cX10_person 9 = .ok (.iload_n 1, 1) := by decide +kernel
theorem dX10_person_10 : decode cX10_person 10 = .ok (.sipush (-30000), 3) := by decide +kernel
theorem dX10_person_13 : decode cX10_person 13 = .ok (.sipush 7999, 3) := by decide +kernel
theorem dX10_person_16 : decode cX10_person 16 = .ok (.invokestatic 228, 3) := by decide +kernel
theorem dX10_person_19 : decode cX10_person 19 = .ok (.ifCond .eq 26, 3) := by decide +kernel
theorem dX10_person_22 : decode cX10_person 22 = .ok (.iload_n 2, 1) := by decide +kernel
theorem dX10_person_23 : decode cX10_person 23 = .ok (.iload_n 3, 1) := by decide +kernel
theorem dX10_person_24 : decode cX10_person 24 = .ok (.iload 4, 2) := by decide +kernel
theorem dX10_person_26 : decode cX10_person 26 = .ok (.iload 5, 2) := by decide +kernel
theorem dX10_person_28 : decode cX10_person 28 = .ok (.invokestatic 340, 3) := by decide +kernel
theorem dX10_person_31 : decode cX10_person 31 = .ok (.ifCond .eq 14, 3) := by decide +kernel
theorem dX10_person_34 : decode cX10_person 34 = .ok (.iload 6, 2) := by decide +kernel
theorem dX10_person_36 : decode cX10_person 36 = .ok (.iconst (-1), 1) := by decide +kernel
theorem dX10_person_37 : decode cX10_person 37 = .ok (.bipush 19, 2) := by decide +kernel
theorem dX10_person_39 : decode cX10_person 39 = .ok (.invokestatic 228, 3) := by decide +kernel
theorem dX10_person_42 : decode cX10_person 42 = .ok (.ifCond .ne 5, 3) := by decide +kernel
theorem dX10_person_45 : decode cX10_person 45 = .ok (.iconst (-1), 1) := by decide +kernel
theorem dX10_person_46 : decode cX10_person 46 = .ok (.ireturn, 1) := by decide +kernel
theorem dX10_person_47 : decode cX10_person 47 = .ok (.aload_n 0, 1) := by decide +kernel
theorem dX10_person_48 : decode cX10_person 48 = .ok (.getfield 38, 3) := by decide +kernel
theorem dX10_person_51 : decode cX10_person 51 = .ok (.aload_n 0, 1) := by decide +kernel
theorem dX10_person_52 : decode cX10_person 52 = .ok (.getfield 337, 3) := by decide +kernel
theorem dX10_person_55 : decode cX10_person 55 = .ok (.iload_n 1, 1) := by decide +kernel
theorem dX10_person_56 : decode cX10_person 56 = .ok (.iastore, 1) := by decide +kernel
theorem dX10_person_57 : decode cX10_person 57 = .ok (.aload_n 0, 1) := by decide +kernel
theorem dX10_person_58 : decode cX10_person 58 = .ok (.getfield 53, 3) := by decide +kernel
theorem dX10_person_61 : decode cX10_person 61 = .ok (.aload_n 0, 1) := by decide +kernel
theorem dX10_person_62 : decode cX10_person 62 = .ok (.getfield 337, 3) := by decide +kernel
theorem dX10_person_65 : decode cX10_person 65 = .ok (.iload 6, 2) := by decide +kernel
theorem dX10_person_67 : decode cX10_person 67 = .ok (.iastore, 1) := by decide +kernel
theorem dX10_person_68 : decode cX10_person 68 = .ok (.aload_n 0, 1) := by decide +kernel
theorem dX10_person_69 : decode cX10_person 69 = .ok (.dup, 1) := by decide +kernel
theorem dX10_person_70 : decode cX10_person 70 = .ok (.getfield 337, 3) := by decide +kernel
theorem dX10_person_73 : decode cX10_person 73 = .ok (.iconst 1, 1) := by decide +kernel
theorem dX10_person_74 : decode cX10_person 74 = .ok (.iadd, 1) := by decide +kernel
theorem dX10_person_75 : decode cX10_person 75 = .ok (.putfield 337, 3) := by decide +kernel
theorem dX10_person_78 : decode cX10_person 78 = .ok (.aload_n 0, 1) := by decide +kernel
theorem dX10_person_79 : decode cX10_person 79 = .ok (.aload_n 0, 1) := by decide +kernel
theorem dX10_person_80 : decode cX10_person 80 = .ok (.getfield 337, 3) := by decide +kernel
theorem dX10_person_83 : decode cX10_person 83 = .ok (.iconst 1, 1) := by decide +kernel
theorem dX10_person_84 : decode cX10_person 84 = .ok (.isub, 1) := by decide +kernel
theorem dX10_person_85 : decode cX10_person 85 = .ok (.iload_n 2, 1) := by decide +kernel
theorem dX10_person_86 : decode cX10_person 86 = .ok (.iload_n 3, 1) := by decide +kernel
theorem dX10_person_87 : decode cX10_person 87 = .ok (.iload 4, 2) := by decide +kernel
theorem dX10_person_89 : decode cX10_person 89 = .ok (.iload 5, 2) := by decide +kernel
theorem dX10_person_91 : decode cX10_person 91 = .ok (.invokevirtual 344, 3) := by decide +kernel
theorem dX10_person_94 : decode cX10_person 94 = .ok (.aload_n 0, 1) := by decide +kernel
theorem dX10_person_95 : decode cX10_person 95 = .ok (.getfield 337, 3) := by decide +kernel
theorem dX10_person_98 : decode cX10_person 98 = .ok (.iconst 1, 1) := by decide +kernel
theorem dX10_person_99 : decode cX10_person 99 = .ok (.isub, 1) := by decide +kernel
theorem dX10_person_100 : decode cX10_person 100 = .ok (.ireturn, 1) := by decide +kernel
set_option maxHeartbeats 4000000 in
set_option maxRecDepth 100000 in
theorem c_X10_person (l : Launch) (dC : Nat → ClassId) (dI : Nat → Nat → Nat) (dA : Nat → ClassId) (L : List Nat) (h : hx_h) (sz : Nat) (y : Nat) (i1 : Int32) (i2 : Int32) (i3 : Int32) (i4 : Int32) (i5 : Int32) (i6 : Int32) (gy : hx_g L h y 10) (f_y_20 : h.2.1 y 20 = 0) (q5 : Nat) (gq5 : hx_g L h q5 58) (f_y_21 : h.2.2 y 21 = some q5) (q6 : Nat) (gq6 : hx_g L h q6 63) (f_y_26 : h.2.2 y 26 = some q6) (q1 : Nat) (gq1 : hx_g L h q1 59) (f_y_22 : h.2.2 y 22 = some q1) (q2 : Nat) (gq2 : hx_g L h q2 60) (f_y_23 : h.2.2 y 23 = some q2) (q3 : Nat) (gq3 : hx_g L h q3 61) (f_y_24 : h.2.2 y 24 = some q3) (q4 : Nat) (gq4 : hx_g L h q4 62) (f_y_25 : h.2.2 y 25 = some q4) : Met l yX10_person (Cond.code yX10_person cX10_person 7 (some .int) :: hx_all) ({ frames := 2, cells := 0, slots := 0, locals := 45 }) (va_Pc [.ref y, .int i1, .int i2, .int i3, .int i4, .int i5, .int i6] (hx_B P_tb (P_ty dA) (dC, dI) vwCl L h sz)) (va_Qi (fun (r : Int32) (u : List Nat × hx_h) => (((-30000 ≤ i1.toInt ∧ i1.toInt ≤ 7999) ∧ ((0 ≤ i2.toInt ∧ i2.toInt ≤ 9999) ∧ (1 ≤ i3.toInt ∧ i3.toInt ≤ 20) ∧ (0 ≤ i4.toInt ∧ i4.toInt ≤ 99) ∧ (0 ≤ i5.toInt ∧ i5.toInt ≤ 99)) ∧ (-1 ≤ i6.toInt ∧ i6.toInt ≤ 19)) ∧ r = 0 ∨ ¬ ((-30000 ≤ i1.toInt ∧ i1.toInt ≤ 7999) ∧ ((0 ≤ i2.toInt ∧ i2.toInt ≤ 9999) ∧ (1 ≤ i3.toInt ∧ i3.toInt ≤ 20) ∧ (0 ≤ i4.toInt ∧ i4.toInt ≤ 99) ∧ (0 ≤ i5.toInt ∧ i5.toInt ≤ 99)) ∧ (-1 ≤ i6.toInt ∧ i6.toInt ≤ 19)) ∧ r = -1) ∧ hx_S P_tb [(10, 20), (58, 0), (59, 0), (60, 0), (61, 0), (62, 0), (63, 0)] L h u.1 u.2) (hx_E P_tb (P_ty dA) (dC, dI) vwCl (hx_A L sz)) (hx_A L sz)) 0 0 (hx_A L sz) := by
  refine hx_met (lv := [(0, .ref y), (1, .int i1), (2, .int i2), (3, .int i3), (4, .int i4), (5, .int i5), (6, .int i6)]) (by decide +kernel) rfl (Nat.le_of_ble_eq_true rfl) rfl ?_
  intro p e s m below meth c hx hb hml hr hlk hts0 hown hin hsz hW ls hl
  have hts : ∀ w ∈ hx_all, w.before _ s = true := fun w hw => hts0 w (List.mem_cons_of_mem _ hw)
  have hown : s.vm.findClass "SmallCourtModel" = some m.cls := hown
  have hM : hx_S P_tb [(10, 20), (58, 0), (59, 0), (60, 0), (61, 0), (62, 0), (63, 0)] L h L h := hx_S.rf
  refine lv_aload_n hx hb dX10_person_0 rfl (lv_at hl 0 rfl) ?_
  refine hk_geti hx hb hts hC_10 hown hW gy td_10 20 (by decide) rfl kw_1163 ⟨rfl, rfl, rfl⟩ f_y_20 dX10_person_1 ?_
  refine lv_bipush (v := 40) hx hb dX10_person_4 (by decide) ?_
  refine hb_icmp_eq (zx := 0) (zy := 40) (tgt := 45) hx hb (by decide) (by decide) dX10_person_6 (by decide) (fun c_1 => absurd c_1 (by decide)) (fun c_1 => ?_)
  refine lv_iload_n hx hb dX10_person_9 rfl (lv_at hl 1 rfl) ?_
  refine lv_sipush (v := -30000) hx hb dX10_person_10 (by decide) ?_
  refine lv_sipush (v := 7999) hx hb dX10_person_13 (by decide) ?_
  refine hx_goi (hx_runS (As := [.int i1, .int (-30000 : Int32), .int (7999 : Int32)]) (rest := []) ⟨hx, hb, hml, hown, hts⟩ hW (c_X10_in l dC dI dA L h s.heap.size i1 (-30000 : Int32) (7999 : Int32)) (va_cwS 3 hts (hx_gS kw_1445 kw_1443 kw_1444 kw_103) rfl rfl rfl (by decide +kernel) ⟨Nat.le_of_ble_eq_true rfl, Nat.le_of_ble_eq_true rfl⟩) rfl hl.1 rfl (Nat.le_of_ble_eq_true rfl) dX10_person_16 ⟨Nat.le_of_ble_eq_true rfl, Nat.le_of_ble_eq_true rfl⟩) hW (fun r_4 L_2 h_3 H locs p_5 hW => ?_)
  obtain ⟨p_5, eu⟩ := p_5
  cases eu
  rcases p_5 with ⟨kp_5, rfl⟩ | ⟨kp_5, rfl⟩
  · skip
    have zc1 : (-30000 : Int32).toInt = -30000 := by decide
    have zc2 : (7999 : Int32).toInt = 7999 := by decide
    refine hb_if_eq (zx := 1) (tgt := 45) hx hb (by decide) dX10_person_19 (by decide) (fun c_6 => absurd c_6 (by decide)) (fun c_6 => ?_)
    refine lv_iload_n hx hb dX10_person_22 rfl (lv_at hl 2 rfl) ?_
    refine lv_iload_n hx hb dX10_person_23 rfl (lv_at hl 3 rfl) ?_
    refine lv_iload hx hb dX10_person_24 (lv_at hl 4 rfl) ?_
    refine lv_iload hx hb dX10_person_26 (lv_at hl 5 rfl) ?_
    refine hx_goi (hx_runS (As := [.int i2, .int i3, .int i4, .int i5]) (rest := []) ⟨hx, hb, hml, hown, hts⟩ hW (c_X10_areLives l dC dI dA L h H.size i2 i3 i4 i5) (va_cwS 4 hts (hx_gS kw_1540 kw_1538 kw_1539 kw_103) rfl rfl rfl (by decide +kernel) ⟨Nat.le_of_ble_eq_true rfl, Nat.le_of_ble_eq_true rfl⟩) rfl hl.1 rfl (Nat.le_of_ble_eq_true rfl) dX10_person_28 ⟨Nat.le_of_ble_eq_true rfl, Nat.le_of_ble_eq_true rfl⟩) hW (fun r_9 L_7 h_8 H locs p_10 hW => ?_)
    obtain ⟨p_10, eu⟩ := p_10
    cases eu
    rcases p_10 with ⟨kp_10, rfl⟩ | ⟨kp_10, rfl⟩
    · skip
      refine hb_if_eq (zx := 1) (tgt := 45) hx hb (by decide) dX10_person_31 (by decide) (fun c_11 => absurd c_11 (by decide)) (fun c_11 => ?_)
      refine lv_iload hx hb dX10_person_34 (lv_at hl 6 rfl) ?_
      refine lv_iconst (v := -1) hx hb dX10_person_36 (by decide) ?_
      refine lv_bipush (v := 19) hx hb dX10_person_37 (by decide) ?_
      refine hx_goi (hx_runS (As := [.int i6, .int (-1 : Int32), .int (19 : Int32)]) (rest := []) ⟨hx, hb, hml, hown, hts⟩ hW (c_X10_in l dC dI dA L h H.size i6 (-1 : Int32) (19 : Int32)) (va_cwS 3 hts (hx_gS kw_1445 kw_1443 kw_1444 kw_103) rfl rfl rfl (by decide +kernel) ⟨Nat.le_of_ble_eq_true rfl, Nat.le_of_ble_eq_true rfl⟩) rfl hl.1 rfl (Nat.le_of_ble_eq_true rfl) dX10_person_39 ⟨Nat.le_of_ble_eq_true rfl, Nat.le_of_ble_eq_true rfl⟩) hW (fun r_14 L_12 h_13 H locs p_15 hW => ?_)
      obtain ⟨p_15, eu⟩ := p_15
      cases eu
      rcases p_15 with ⟨kp_15, rfl⟩ | ⟨kp_15, rfl⟩
      · skip
        have zc1 : (-1 : Int32).toInt = -1 := by decide
        have zc2 : (19 : Int32).toInt = 19 := by decide
        refine hb_if_ne (zx := 1) (tgt := 47) hx hb (by decide) dX10_person_42 (by decide) (fun c_16 => ?_) (fun c_16 => absurd c_16 (by decide))
        refine lv_aload_n hx hb dX10_person_47 rfl (lv_at hl 0 rfl) ?_
        refine hk_getr hx hb hts hC_10 hown hW gy td_10 21 (by decide) rfl kw_1164 ⟨rfl, rfl, rfl⟩ f_y_21 dX10_person_48 ?_
        refine lv_aload_n hx hb dX10_person_51 rfl (lv_at hl 0 rfl) ?_
        refine hk_geti hx hb hts hC_10 hown hW gy td_10 20 (by decide) rfl kw_1163 ⟨rfl, rfl, rfl⟩ f_y_20 dX10_person_52 ?_
        refine lv_iload_n hx hb dX10_person_55 rfl (lv_at hl 1 rfl) ?_
        refine hk_iast hx hb hW gq5 td_58 rfl (by decide) rfl dX10_person_56 (fun H locs h_17 eh_17 hW hs => ?_)
        have f_y_20 := (hs.o gy trivial rfl).1.trans f_y_20
        have f_y_21 := (hs.o gy trivial rfl).2.trans f_y_21
        have f_y_26 := (hs.o gy trivial rfl).2.trans f_y_26
        have f_y_22 := (hs.o gy trivial rfl).2.trans f_y_22
        have f_y_23 := (hs.o gy trivial rfl).2.trans f_y_23
        have f_y_24 := (hs.o gy trivial rfl).2.trans f_y_24
        have f_y_25 := (hs.o gy trivial rfl).2.trans f_y_25
        have hM := hM.tr (hs.mono (by decide))
        have gy := gy.S hs
        have gq5 := gq5.S hs
        have gq6 := gq6.S hs
        have gq1 := gq1.S hs
        have gq2 := gq2.S hs
        have gq3 := gq3.S hs
        have gq4 := gq4.S hs
        refine lv_aload_n hx hb dX10_person_57 rfl (lv_at hl 0 rfl) ?_
        refine hk_getr hx hb hts hC_10 hown hW gy td_10 26 (by decide) rfl kw_1169 ⟨rfl, rfl, rfl⟩ f_y_26 dX10_person_58 ?_
        refine lv_aload_n hx hb dX10_person_61 rfl (lv_at hl 0 rfl) ?_
        refine hk_geti hx hb hts hC_10 hown hW gy td_10 20 (by decide) rfl kw_1163 ⟨rfl, rfl, rfl⟩ f_y_20 dX10_person_62 ?_
        refine lv_iload hx hb dX10_person_65 (lv_at hl 6 rfl) ?_
        refine hk_iast hx hb hW gq6 td_63 rfl (by decide) rfl dX10_person_67 (fun H locs h_18 eh_18 hW hs => ?_)
        have f_y_20 := (hs.o gy trivial rfl).1.trans f_y_20
        have f_y_21 := (hs.o gy trivial rfl).2.trans f_y_21
        have f_y_26 := (hs.o gy trivial rfl).2.trans f_y_26
        have f_y_22 := (hs.o gy trivial rfl).2.trans f_y_22
        have f_y_23 := (hs.o gy trivial rfl).2.trans f_y_23
        have f_y_24 := (hs.o gy trivial rfl).2.trans f_y_24
        have f_y_25 := (hs.o gy trivial rfl).2.trans f_y_25
        have hM := hM.tr (hs.mono (by decide))
        have gy := gy.S hs
        have gq5 := gq5.S hs
        have gq6 := gq6.S hs
        have gq1 := gq1.S hs
        have gq2 := gq2.S hs
        have gq3 := gq3.S hs
        have gq4 := gq4.S hs
        refine lv_aload_n hx hb dX10_person_68 rfl (lv_at hl 0 rfl) ?_
        refine lv_dup hx hb dX10_person_69 rfl ?_
        refine hk_geti hx hb hts hC_10 hown hW gy td_10 20 (by decide) rfl kw_1163 ⟨rfl, rfl, rfl⟩ f_y_20 dX10_person_70 ?_
        refine lv_iconst (v := 1) hx hb dX10_person_73 (by decide) ?_
        refine lv_iadd hx hb dX10_person_74 ?_
        refine lv_topi (fun x_19 ex_19 => ?_)
        obtain rfl : x_19 = (1 : Int32) := ex_19.trans (by decide)
        refine hk_puti hx hb hts hC_10 hown hW gy td_10 20 (by decide) rfl kw_1163 ⟨rfl, rfl, rfl⟩ rfl (x := (1 : Int32)) rfl rfl rfl dX10_person_75 (fun H locs h_20 eh_20 hW hs => ?_)
        have f_y_21 := (hs.o gy trivial rfl).2.trans f_y_21
        have f_y_26 := (hs.o gy trivial rfl).2.trans f_y_26
        have f_y_22 := (hs.o gy trivial rfl).2.trans f_y_22
        have f_y_23 := (hs.o gy trivial rfl).2.trans f_y_23
        have f_y_24 := (hs.o gy trivial rfl).2.trans f_y_24
        have f_y_25 := (hs.o gy trivial rfl).2.trans f_y_25
        have hM := hM.tr (hs.mono (by decide))
        have gy := gy.S hs
        have gq5 := gq5.S hs
        have gq6 := gq6.S hs
        have gq1 := gq1.S hs
        have gq2 := gq2.S hs
        have gq3 := gq3.S hs
        have gq4 := gq4.S hs
        have f_21 : h_20.2.1 y 20 = (1 : Int32) := by rw [eh_20]; exact hx_pi_at _ _ _ _
        refine lv_aload_n hx hb dX10_person_78 rfl (lv_at hl 0 rfl) ?_
        refine lv_aload_n hx hb dX10_person_79 rfl (lv_at hl 0 rfl) ?_
        refine hk_geti hx hb hts hC_10 hown hW gy td_10 20 (by decide) rfl kw_1163 ⟨rfl, rfl, rfl⟩ f_21 dX10_person_80 ?_
        refine lv_iconst (v := 1) hx hb dX10_person_83 (by decide) ?_
        refine lv_isub hx hb dX10_person_84 ?_
        refine lv_topi (fun x_22 ex_22 => ?_)
        obtain rfl : x_22 = (0 : Int32) := ex_22.trans (by decide)
        refine lv_iload_n hx hb dX10_person_85 rfl (lv_at hl 2 rfl) ?_
        refine lv_iload_n hx hb dX10_person_86 rfl (lv_at hl 3 rfl) ?_
        refine lv_iload hx hb dX10_person_87 (lv_at hl 4 rfl) ?_
        refine lv_iload hx hb dX10_person_89 (lv_at hl 5 rfl) ?_
        refine hx_gov (hx_runV (As := [.int (0 : Int32), .int i2, .int i3, .int i4, .int i5]) (rest := []) ⟨hx, hb, hml, hown, hts⟩ hW gy td_10 (T := TX10) (N := 98) rfl (c_X10_lives l dC dI dA L h_20 H.size y (0 : Int32) i2 i3 i4 i5 gy (by decide) q1 gq1 f_y_22 q2 gq2 f_y_23 q3 gq3 f_y_24 q4 gq4 f_y_25) (cwV 5 hts (hx_gV kw_1544 kw_1541 kw_1543 kw_67 kw_103) rfl rfl rfl (by decide +kernel) ⟨Nat.le_of_ble_eq_true rfl, Nat.le_of_ble_eq_true rfl⟩) rfl hl.1 rfl (Nat.le_of_ble_eq_true rfl) dX10_person_91 ⟨Nat.le_of_ble_eq_true rfl, Nat.le_of_ble_eq_true rfl⟩) hW (fun L_23 h_24 H locs p_26 hW => ?_)
        have hs : hx_S P_tb [(59, 0), (60, 0), (61, 0), (62, 0)] L h_20 L_23 h_24 := p_26
        have f_y_21 := (hs.o gy trivial rfl).2.trans f_y_21
        have f_y_26 := (hs.o gy trivial rfl).2.trans f_y_26
        have f_y_22 := (hs.o gy trivial rfl).2.trans f_y_22
        have f_y_23 := (hs.o gy trivial rfl).2.trans f_y_23
        have f_y_24 := (hs.o gy trivial rfl).2.trans f_y_24
        have f_y_25 := (hs.o gy trivial rfl).2.trans f_y_25
        have f_21 := (hs.o gy trivial rfl).1.trans f_21
        have hM := hM.tr (hs.mono (by decide))
        have gy := gy.S hs
        have gq5 := gq5.S hs
        have gq6 := gq6.S hs
        have gq1 := gq1.S hs
        have gq2 := gq2.S hs
        have gq3 := gq3.S hs
        have gq4 := gq4.S hs
        refine lv_aload_n hx hb dX10_person_94 rfl (lv_at hl 0 rfl) ?_
        refine hk_geti hx hb hts hC_10 hown hW gy td_10 20 (by decide) rfl kw_1163 ⟨rfl, rfl, rfl⟩ f_21 dX10_person_95 ?_
        refine lv_iconst (v := 1) hx hb dX10_person_98 (by decide) ?_
        refine lv_isub hx hb dX10_person_99 ?_
        refine lv_topi (fun x_27 ex_27 => ?_)
        obtain rfl : x_27 = (0 : Int32) := ex_27.trans (by decide)
        exact hx_reti hx hb hr hlk hW ⟨Or.inl ⟨by first | omega | decide, rfl⟩, hM⟩ dX10_person_100
      · skip
        have zc1 : (-1 : Int32).toInt = -1 := by decide
        have zc2 : (19 : Int32).toInt = 19 := by decide
        refine hb_if_ne (zx := 0) (tgt := 47) hx hb (by decide) dX10_person_42 (by decide) (fun c_28 => absurd c_28 (by decide)) (fun c_28 => ?_)
        refine lv_iconst (v := -1) hx hb dX10_person_45 (by decide) ?_
        exact hx_reti hx hb hr hlk hW ⟨Or.inr ⟨by first | omega | decide, rfl⟩, hM⟩ dX10_person_46
    · skip
      refine hb_if_eq (zx := 0) (tgt := 45) hx hb (by decide) dX10_person_31 (by decide) (fun c_29 => ?_) (fun c_29 => absurd c_29 (by decide))
      refine lv_iconst (v := -1) hx hb dX10_person_45 (by decide) ?_
      exact hx_reti hx hb hr hlk hW ⟨Or.inr ⟨by first | omega | decide, rfl⟩, hM⟩ dX10_person_46
  · skip
    have zc1 : (-30000 : Int32).toInt = -30000 := by decide
    have zc2 : (7999 : Int32).toInt = 7999 := by decide
    refine hb_if_eq (zx := 0) (tgt := 45) hx hb (by decide) dX10_person_19 (by decide) (fun c_30 => ?_) (fun c_30 => absurd c_30 (by decide))
    refine lv_iconst (v := -1) hx hb dX10_person_45 (by decide) ?_
    exact hx_reti hx hb hr hlk hW ⟨Or.inr ⟨by first | omega | decide, rfl⟩, hM⟩ dX10_person_46

theorem dX4_init_0 : decode cX4_init 0 = .ok (.aload_n 0, 1) := by decide +kernel
theorem dX4_init_1 : decode cX4_init 1 = .ok (.invokespecial 3, 3) := by decide +kernel
theorem dX4_init_4 : decode cX4_init 4 = .ok (.aload_n 0, 1) := by decide +kernel
theorem dX4_init_5 : decode cX4_init 5 = .ok (.iload_n 1, 1) := by decide +kernel
theorem dX4_init_6 : decode cX4_init 6 = .ok (.putfield 9, 3) := by decide +kernel
theorem dX4_init_9 : decode cX4_init 9 = .ok (.aload_n 0, 1) := by decide +kernel
theorem dX4_init_10 : decode cX4_init 10 = .ok (.iload_n 2, 1) := by decide +kernel
theorem dX4_init_11 : decode cX4_init 11 = .ok (.putfield 15, 3) := by decide +kernel
theorem dX4_init_14 : decode cX4_init 14 = .ok (.aload_n 0, 1) := by decide +kernel
theorem dX4_init_15 : decode cX4_init 15 = .ok (.iload_n 3, 1) := by decide +kernel
theorem dX4_init_16 : decode cX4_init 16 = .ok (.putfield 18, 3) := by decide +kernel
theorem dX4_init_19 : decode cX4_init 19 = .ok (.return_, 1) := by decide +kernel
set_option maxHeartbeats 4000000 in
set_option maxRecDepth 100000 in
theorem c_X4_init (l : Launch) (dC : Nat → ClassId) (dI : Nat → Nat → Nat) (dA : Nat → ClassId) (L : List Nat) (h : hx_h) (sz : Nat) (x : Nat) (i1 : Int32) (i2 : Int32) (i3 : Int32) (gx : hx_g L h x 4)  : Met l yX4_init (Cond.code yX4_init cX4_init 4 none :: hx_all) ({ frames := 1, cells := 0, slots := 0, locals := 12 }) (va_Pc [.ref x, .int i1, .int i2, .int i3] (hx_B P_tb (P_ty dA) (dC, dI) vwCl L h sz)) (va_Qv (fun (u : List Nat × hx_h) => hx_S P_tb [(4, 0), (4, 1), (4, 2)] L h u.1 u.2 ∧ u.2.2.1 x 0 = i1) (hx_E P_tb (P_ty dA) (dC, dI) vwCl (hx_A L sz)) (hx_A L sz)) 0 0 (hx_A L sz) := by
  refine hx_met (lv := [(0, .ref x), (1, .int i1), (2, .int i2), (3, .int i3)]) (by decide +kernel) rfl (Nat.le_of_ble_eq_true rfl) rfl ?_
  intro p e s m below meth c hx hb hml hr hlk hts0 hown hin hsz hW ls hl
  have hts : ∀ w ∈ hx_all, w.before _ s = true := fun w hw => hts0 w (List.mem_cons_of_mem _ hw)
  have hown : s.vm.findClass "SmallCourt$Person" = some m.cls := hown
  have hin : meth.name = "<init>" := hin
  have hM : hx_S P_tb [(4, 0), (4, 1), (4, 2)] L h L h := hx_S.rf
  refine lv_aload_n hx hb dX4_init_0 rfl (lv_at hl 0 rfl) ?_
  refine W.objInit hx hb hown (hts _ kw_609) (hts _ kw_117) (hts _ kw_118) rfl (by rw [hml]; exact hl.1) rfl dX4_init_1 (Nat.le_of_ble_eq_true rfl) (Nat.le_of_ble_eq_true rfl) ?_
  refine W.eq (g2 := F0 m 4 ls []) rfl ?_
  refine lv_aload_n hx hb dX4_init_4 rfl (lv_at hl 0 rfl) ?_
  refine lv_iload_n hx hb dX4_init_5 rfl (lv_at hl 1 rfl) ?_
  refine hk_putiF hx hb hts hC_4 hown hW gx td_4 0 (by decide) rfl kw_610 ⟨rfl, rfl, rfl⟩ rfl hin rfl (x := i1) rfl rfl rfl dX4_init_6 (fun H locs h_1 eh_1 hW hs => ?_)
  have hM := hM.tr (hs.mono (by decide))
  have gx := gx.S hs
  have f_2 : h_1.2.1 x 0 = i1 := by rw [eh_1]; exact hx_pi_at _ _ _ _
  refine lv_aload_n hx hb dX4_init_9 rfl (lv_at hl 0 rfl) ?_
  refine lv_iload_n hx hb dX4_init_10 rfl (lv_at hl 2 rfl) ?_
  refine hk_putiF hx hb hts hC_4 hown hW gx td_4 1 (by decide) rfl kw_613 ⟨rfl, rfl, rfl⟩ rfl hin rfl (x := i2) rfl rfl rfl dX4_init_11 (fun H locs h_3 eh_3 hW hs => ?_)
  have f_2 := (hs.o gx trivial rfl).1.trans f_2
  have hM := hM.tr (hs.mono (by decide))
  have gx := gx.S hs
  have f_4 : h_3.2.1 x 1 = i2 := by rw [eh_3]; exact hx_pi_at _ _ _ _
  refine lv_aload_n hx hb dX4_init_14 rfl (lv_at hl 0 rfl) ?_
  refine lv_iload_n hx hb dX4_init_15 rfl (lv_at hl 3 rfl) ?_
  refine hk_putiF hx hb hts hC_4 hown hW gx td_4 2 (by decide) rfl kw_615 ⟨rfl, rfl, rfl⟩ rfl hin rfl (x := i3) rfl rfl rfl dX4_init_16 (fun H locs h_5 eh_5 hW hs => ?_)
  have f_2 := (hs.o gx trivial rfl).1.trans f_2
  have f_4 := (hs.o gx trivial rfl).1.trans f_4
  have hM := hM.tr (hs.mono (by decide))
  have gx := gx.S hs
  have f_6 : h_5.2.1 x 2 = i3 := by rw [eh_5]; exact hx_pi_at _ _ _ _
  exact hx_retv hx hb hr hlk hW ⟨hM, f_2⟩ dX4_init_19

theorem dX4_tell_0 : decode cX4_tell 0 = .ok (.aload_n 0, 1) := by decide +kernel
theorem dX4_tell_1 : decode cX4_tell 1 = .ok (.iload_n 1, 1) := by decide +kernel
theorem dX4_tell_2 : decode cX4_tell 2 = .ok (.putfield 21, 3) := by decide +kernel
theorem dX4_tell_5 : decode cX4_tell 5 = .ok (.aload_n 0, 1) := by decide +kernel
theorem dX4_tell_6 : decode cX4_tell 6 = .ok (.iload_n 2, 1) := by decide +kernel
theorem dX4_tell_7 : decode cX4_tell 7 = .ok (.putfield 24, 3) := by decide +kernel
theorem dX4_tell_10 : decode cX4_tell 10 = .ok (.aload_n 0, 1) := by decide +kernel
theorem dX4_tell_11 : decode cX4_tell 11 = .ok (.iload_n 3, 1) := by decide +kernel
theorem dX4_tell_12 : decode cX4_tell 12 = .ok (.putfield 27, 3) := by decide +kernel
theorem dX4_tell_15 : decode cX4_tell 15 = .ok (.aload_n 0, 1) := by decide +kernel
theorem dX4_tell_16 : decode cX4_tell 16 = .ok (.iload 4, 2) := by decide +kernel
theorem dX4_tell_18 : decode cX4_tell 18 = .ok (.putfield 30, 3) := by decide +kernel
theorem dX4_tell_21 : decode cX4_tell 21 = .ok (.return_, 1) := by decide +kernel
set_option maxHeartbeats 4000000 in
set_option maxRecDepth 100000 in
theorem c_X4_tell (l : Launch) (dC : Nat → ClassId) (dI : Nat → Nat → Nat) (dA : Nat → ClassId) (L : List Nat) (h : hx_h) (sz : Nat) (x : Nat) (i1 : Int32) (i2 : Int32) (i3 : Int32) (i4 : Int32) (gx : hx_g L h x 4)  : Met l yX4_tell (Cond.code yX4_tell cX4_tell 5 none :: hx_all) ({ frames := 0, cells := 0, slots := 0, locals := 0 }) (va_Pc [.ref x, .int i1, .int i2, .int i3, .int i4] (hx_B P_tb (P_ty dA) (dC, dI) vwCl L h sz)) (va_Qv (fun (u : List Nat × hx_h) => hx_S P_tb [(4, 3), (4, 4), (4, 5), (4, 6)] L h u.1 u.2) (hx_E P_tb (P_ty dA) (dC, dI) vwCl (hx_A L sz)) (hx_A L sz)) 0 0 (hx_A L sz) := by
  refine hx_met (lv := [(0, .ref x), (1, .int i1), (2, .int i2), (3, .int i3), (4, .int i4)]) (by decide +kernel) rfl (Nat.le_of_ble_eq_true rfl) rfl ?_
  intro p e s m below meth c hx hb hml hr hlk hts0 hown hin hsz hW ls hl
  have hts : ∀ w ∈ hx_all, w.before _ s = true := fun w hw => hts0 w (List.mem_cons_of_mem _ hw)
  have hown : s.vm.findClass "SmallCourt$Person" = some m.cls := hown
  have hM : hx_S P_tb [(4, 3), (4, 4), (4, 5), (4, 6)] L h L h := hx_S.rf
  refine lv_aload_n hx hb dX4_tell_0 rfl (lv_at hl 0 rfl) ?_
  refine lv_iload_n hx hb dX4_tell_1 rfl (lv_at hl 1 rfl) ?_
  refine hk_puti hx hb hts hC_4 hown hW gx td_4 3 (by decide) rfl kw_616 ⟨rfl, rfl, rfl⟩ rfl (x := i1) rfl rfl rfl dX4_tell_2 (fun H locs h_1 eh_1 hW hs => ?_)
  have hM := hM.tr (hs.mono (by decide))
  have gx := gx.S hs
  have f_2 : h_1.2.1 x 3 = i1 := by rw [eh_1]; exact hx_pi_at _ _ _ _
  refine lv_aload_n hx hb dX4_tell_5 rfl (lv_at hl 0 rfl) ?_
  refine lv_iload_n hx hb dX4_tell_6 rfl (lv_at hl 2 rfl) ?_
  refine hk_puti hx hb hts hC_4 hown hW gx td_4 4 (by decide) rfl kw_617 ⟨rfl, rfl, rfl⟩ rfl (x := i2) rfl rfl rfl dX4_tell_7 (fun H locs h_3 eh_3 hW hs => ?_)
  have f_2 := (hs.o gx trivial rfl).1.trans f_2
  have hM := hM.tr (hs.mono (by decide))
  have gx := gx.S hs
  have f_4 : h_3.2.1 x 4 = i2 := by rw [eh_3]; exact hx_pi_at _ _ _ _
  refine lv_aload_n hx hb dX4_tell_10 rfl (lv_at hl 0 rfl) ?_
  refine lv_iload_n hx hb dX4_tell_11 rfl (lv_at hl 3 rfl) ?_
  refine hk_puti hx hb hts hC_4 hown hW gx td_4 5 (by decide) rfl kw_618 ⟨rfl, rfl, rfl⟩ rfl (x := i3) rfl rfl rfl dX4_tell_12 (fun H locs h_5 eh_5 hW hs => ?_)
  have f_2 := (hs.o gx trivial rfl).1.trans f_2
  have f_4 := (hs.o gx trivial rfl).1.trans f_4
  have hM := hM.tr (hs.mono (by decide))
  have gx := gx.S hs
  have f_6 : h_5.2.1 x 5 = i3 := by rw [eh_5]; exact hx_pi_at _ _ _ _
  refine lv_aload_n hx hb dX4_tell_15 rfl (lv_at hl 0 rfl) ?_
  refine lv_iload hx hb dX4_tell_16 (lv_at hl 4 rfl) ?_
  refine hk_puti hx hb hts hC_4 hown hW gx td_4 6 (by decide) rfl kw_620 ⟨rfl, rfl, rfl⟩ rfl (x := i4) rfl rfl rfl dX4_tell_18 (fun H locs h_7 eh_7 hW hs => ?_)
  have f_2 := (hs.o gx trivial rfl).1.trans f_2
  have f_4 := (hs.o gx trivial rfl).1.trans f_4
  have f_6 := (hs.o gx trivial rfl).1.trans f_6
  have hM := hM.tr (hs.mono (by decide))
  have gx := gx.S hs
  have f_8 : h_7.2.1 x 6 = i4 := by rw [eh_7]; exact hx_pi_at _ _ _ _
  exact hx_retv hx hb hr hlk hW hM dX4_tell_21

theorem dX9_person_0 : decode cX9_person 0 = .ok (.aload_n 0, 1) := by decide +kernel
theorem dX9_person_1 : decode cX9_person 1 = .ok (.getfield 125, 3) := by decide +kernel
theorem dX9_person_4 : decode cX9_person 4 = .ok (.bipush 40, 2) := by decide +kernel
theorem dX9_person_6 : decode cX9_person 6 = .ok (.if_icmp .ge 39, 3) := by decide +kernel
theorem dX9_person_9 : decode cX9_person 9 = .ok (.iload_n 1, 1) := by decide +kernel
theorem dX9_person_10 : decode cX9_person 10 = .ok (.sipush (-30000), 3) := by decide +kernel
theorem dX9_person_13 : decode cX9_person 13 = .ok (.sipush 7999, 3) := by decide +kernel
theorem dX9_person_16 : decode cX9_person 16 = .ok (.invokestatic 128, 3) := by decide +kernel
theorem dX9_person_19 : decode cX9_person 19 = .ok (.ifCond .eq 26, 3) := by decide +kernel
theorem dX9_person_22 : decode cX9_person 22 = .ok (.iload_n 2, 1) := by decide +kernel
theorem dX9_person_23 : decode cX9_person 23 = .ok (.iload_n 3, 1) := by decide +kernel
theorem dX9_person_24 : decode cX9_person 24 = .ok (.iload 4, 2) := by decide +kernel
theorem dX9_person_26 : decode cX9_person 26 = .ok (.iload 5, 2) := by decide +kernel
theorem dX9_person_28 : decode cX9_person 28 = .ok (.invokestatic 132, 3) := by decide +kernel
theorem dX9_person_31 : decode cX9_person 31 = .ok (.ifCond .eq 14, 3) := by decide +kernel
theorem dX9_person_34 : decode cX9_person 34 = .ok (.iload 6, 2) := by decide +kernel
theorem dX9_person_36 : decode cX9_person 36 = .ok (.iconst (-1), 1) := by decide +kernel
theorem dX9_person_37 : decode cX9_person 37 = .ok (.bipush 19, 2) := by decide +kernel
theorem dX9_person_39 : decode cX9_person 39 = .ok (.invokestatic 128, 3) := by decide +kernel
theorem dX9_person_42 : decode cX9_person 42 = .ok (.ifCond .ne 5, 3) := by decide +kernel
theorem dX9_person_45 : decode cX9_person 45 = .ok (.iconst (-1), 1) := by decide +kernel
theorem dX9_person_46 : decode cX9_person 46 = .ok (.ireturn, 1) := by decide +kernel
theorem dX9_person_47 : decode cX9_person 47 = .ok (.new 33, 3) := by decide +kernel
theorem dX9_person_50 : decode cX9_person 50 = .ok (.dup, 1) := by decide +kernel
theorem dX9_person_51 : decode cX9_person 51 = .ok (.aload_n 0, 1) := by decide +kernel
theorem dX9_person_52 : decode cX9_person 52 = .ok (.getfield 125, 3) := by decide +kernel
theorem dX9_person_55 : decode cX9_person 55 = .ok (.iload_n 1, 1) := by decide +kernel
theorem dX9_person_56 : decode cX9_person 56 = .ok (.iload 6, 2) := by decide +kernel
theorem dX9_person_58 : decode cX9_person 58 = .ok (.invokespecial 136, 3) := by decide +kernel
theorem dX9_person_61 : decode cX9_person 61 = .ok (.astore 7, 2) := by decide +kernel
theorem dX9_person_63 : decode cX9_person 63 = .ok (.aload 7, 2) := by decide +kernel
theorem dX9_person_65 : decode cX9_person 65 = .ok (.iload_n 2, 1) := by decide +kernel
theorem dX9_person_66 : decode cX9_person 66 = .ok (.iload_n 3, 1) := by decide +kernel
theorem dX9_person_67 : decode cX9_person 67 = .ok (.iload 4, 2) := by decide +kernel
theorem dX9_person_69 : decode cX9_person 69 = .ok (.iload 5, 2) := by decide +kernel
theorem dX9_person_71 : decode cX9_person 71 = .ok (.invokevirtual 139, 3) := by decide +kernel
theorem dX9_person_74 : decode cX9_person 74 = .ok (.aload_n 0, 1) := by decide +kernel
theorem dX9_person_75 : decode cX9_person 75 = .ok (.getfield 35, 3) := by decide +kernel
theorem dX9_person_78 : decode cX9_person 78 = .ok (.aload_n 0, 1) := by decide +kernel
theorem dX9_person_79 : decode cX9_person 79 = .ok (.getfield 125, 3) := by decide +kernel
theorem dX9_person_82 : decode cX9_person 82 = .ok (.aload 7, 2) := by decide +kernel
theorem dX9_person_84 : decode cX9_person 84 = .ok (.aastore, 1) := by decide +kernel
theorem dX9_person_85 : decode cX9_person 85 = .ok (.aload_n 0, 1) := by decide +kernel
theorem dX9_person_86 : decode cX9_person 86 = .ok (.dup, 1) := by decide +kernel
theorem dX9_person_87 : decode cX9_person 87 = .ok (.getfield 125, 3) := by decide +kernel
theorem dX9_person_90 : decode cX9_person 90 = .ok (.iconst 1, 1) := by decide +kernel
theorem dX9_person_91 : decode cX9_person 91 = .ok (.iadd, 1) := by decide +kernel
theorem dX9_person_92 : decode cX9_person 92 = .ok (.putfield 125, 3) := by decide +kernel
theorem dX9_person_95 : decode cX9_person 95 = .ok (.aload 7, 2) := by decide +kernel
theorem dX9_person_97 : decode cX9_person 97 = .ok (.getfield 143, 3) := by decide +kernel
theorem dX9_person_100 : decode cX9_person 100 = .ok (.ireturn, 1) := by decide +kernel
set_option maxHeartbeats 4000000 in
set_option maxRecDepth 100000 in
theorem c_X9_person (l : Launch) (dC : Nat → ClassId) (dI : Nat → Nat → Nat) (dA : Nat → ClassId) (L : List Nat) (h : hx_h) (sz : Nat) (x : Nat) (i1 : Int32) (i2 : Int32) (i3 : Int32) (i4 : Int32) (i5 : Int32) (i6 : Int32) (gx : hx_g L h x 9) (f_x_8 : h.2.1 x 8 = 0) (q5 : Nat) (gq5 : hx_g L h q5 44) (f_x_7 : h.2.2 x 7 = some q5) : Met l yX9_person (Cond.code yX9_person cX9_person 8 (some .int) :: hx_all) ({ frames := 2, cells := 1, slots := 10, locals := 45 }) (va_Pc [.ref x, .int i1, .int i2, .int i3, .int i4, .int i5, .int i6] (hx_B P_tb (P_ty dA) (dC, dI) vwCl L h sz)) (va_Qi (fun (r : Int32) (u : List Nat × hx_h) => (((-30000 ≤ i1.toInt ∧ i1.toInt ≤ 7999) ∧ ((0 ≤ i2.toInt ∧ i2.toInt ≤ 9999) ∧ (1 ≤ i3.toInt ∧ i3.toInt ≤ 20) ∧ (0 ≤ i4.toInt ∧ i4.toInt ≤ 99) ∧ (0 ≤ i5.toInt ∧ i5.toInt ≤ 99)) ∧ (-1 ≤ i6.toInt ∧ i6.toInt ≤ 19)) ∧ r = 0 ∨ ¬ ((-30000 ≤ i1.toInt ∧ i1.toInt ≤ 7999) ∧ ((0 ≤ i2.toInt ∧ i2.toInt ≤ 9999) ∧ (1 ≤ i3.toInt ∧ i3.toInt ≤ 20) ∧ (0 ≤ i4.toInt ∧ i4.toInt ≤ 99) ∧ (0 ≤ i5.toInt ∧ i5.toInt ≤ 99)) ∧ (-1 ≤ i6.toInt ∧ i6.toInt ≤ 19)) ∧ r = -1) ∧ hx_S P_tb [(4, 0), (4, 1), (4, 2), (4, 3), (4, 4), (4, 5), (4, 6), (9, 8), (44, 0)] L h u.1 u.2) (hx_E P_tb (P_ty dA) (dC, dI) vwCl (hx_A L sz)) (hx_A L sz)) 1 10 (hx_A L sz) := by
  refine hx_met (lv := [(0, .ref x), (1, .int i1), (2, .int i2), (3, .int i3), (4, .int i4), (5, .int i5), (6, .int i6)]) (by decide +kernel) rfl (Nat.le_of_ble_eq_true rfl) rfl ?_
  intro p e s m below meth c hx hb hml hr hlk hts0 hown hin hsz hW ls hl
  have hts : ∀ w ∈ hx_all, w.before _ s = true := fun w hw => hts0 w (List.mem_cons_of_mem _ hw)
  have hown : s.vm.findClass "SmallCourt" = some m.cls := hown
  have hM : hx_S P_tb [(4, 0), (4, 1), (4, 2), (4, 3), (4, 4), (4, 5), (4, 6), (9, 8), (44, 0)] L h L h := hx_S.rf
  refine lv_aload_n hx hb dX9_person_0 rfl (lv_at hl 0 rfl) ?_
  refine hk_geti hx hb hts hC_9 hown hW gx td_9 8 (by decide) rfl kw_372 ⟨rfl, rfl, rfl⟩ f_x_8 dX9_person_1 ?_
  refine lv_bipush (v := 40) hx hb dX9_person_4 (by decide) ?_
  refine hb_icmp_ge (zx := 0) (zy := 40) (tgt := 45) hx hb (by decide) (by decide) dX9_person_6 (by decide) (fun c_1 => absurd c_1 (by decide)) (fun c_1 => ?_)
  refine lv_iload_n hx hb dX9_person_9 rfl (lv_at hl 1 rfl) ?_
  refine lv_sipush (v := -30000) hx hb dX9_person_10 (by decide) ?_
  refine lv_sipush (v := 7999) hx hb dX9_person_13 (by decide) ?_
  refine hx_goi (hx_runS (As := [.int i1, .int (-30000 : Int32), .int (7999 : Int32)]) (rest := []) ⟨hx, hb, hml, hown, hts⟩ hW (c_X9_isWithin l dC dI dA L h s.heap.size i1 (-30000 : Int32) (7999 : Int32)) (va_cwS 3 hts (hx_gS kw_434 kw_432 kw_433 kw_94) rfl rfl rfl (by decide +kernel) ⟨Nat.le_of_ble_eq_true rfl, Nat.le_of_ble_eq_true rfl⟩) rfl hl.1 rfl (Nat.le_of_ble_eq_true rfl) dX9_person_16 ⟨Nat.le_of_ble_eq_true rfl, Nat.le_of_ble_eq_true rfl⟩) hW (fun r_4 L_2 h_3 H locs p_5 hW => ?_)
  obtain ⟨p_5, eu⟩ := p_5
  cases eu
  rcases p_5 with ⟨kp_5, rfl⟩ | ⟨kp_5, rfl⟩
  · skip
    have zc1 : (-30000 : Int32).toInt = -30000 := by decide
    have zc2 : (7999 : Int32).toInt = 7999 := by decide
    refine hb_if_eq (zx := 1) (tgt := 45) hx hb (by decide) dX9_person_19 (by decide) (fun c_6 => absurd c_6 (by decide)) (fun c_6 => ?_)
    refine lv_iload_n hx hb dX9_person_22 rfl (lv_at hl 2 rfl) ?_
    refine lv_iload_n hx hb dX9_person_23 rfl (lv_at hl 3 rfl) ?_
    refine lv_iload hx hb dX9_person_24 (lv_at hl 4 rfl) ?_
    refine lv_iload hx hb dX9_person_26 (lv_at hl 5 rfl) ?_
    refine hx_goi (hx_runS (As := [.int i2, .int i3, .int i4, .int i5]) (rest := []) ⟨hx, hb, hml, hown, hts⟩ hW (c_X9_isHousehold l dC dI dA L h H.size i2 i3 i4 i5) (va_cwS 4 hts (hx_gS kw_604 kw_602 kw_603 kw_94) rfl rfl rfl (by decide +kernel) ⟨Nat.le_of_ble_eq_true rfl, Nat.le_of_ble_eq_true rfl⟩) rfl hl.1 rfl (Nat.le_of_ble_eq_true rfl) dX9_person_28 ⟨Nat.le_of_ble_eq_true rfl, Nat.le_of_ble_eq_true rfl⟩) hW (fun r_9 L_7 h_8 H locs p_10 hW => ?_)
    obtain ⟨p_10, eu⟩ := p_10
    cases eu
    rcases p_10 with ⟨kp_10, rfl⟩ | ⟨kp_10, rfl⟩
    · skip
      refine hb_if_eq (zx := 1) (tgt := 45) hx hb (by decide) dX9_person_31 (by decide) (fun c_11 => absurd c_11 (by decide)) (fun c_11 => ?_)
      refine lv_iload hx hb dX9_person_34 (lv_at hl 6 rfl) ?_
      refine lv_iconst (v := -1) hx hb dX9_person_36 (by decide) ?_
      refine lv_bipush (v := 19) hx hb dX9_person_37 (by decide) ?_
      refine hx_goi (hx_runS (As := [.int i6, .int (-1 : Int32), .int (19 : Int32)]) (rest := []) ⟨hx, hb, hml, hown, hts⟩ hW (c_X9_isWithin l dC dI dA L h H.size i6 (-1 : Int32) (19 : Int32)) (va_cwS 3 hts (hx_gS kw_434 kw_432 kw_433 kw_94) rfl rfl rfl (by decide +kernel) ⟨Nat.le_of_ble_eq_true rfl, Nat.le_of_ble_eq_true rfl⟩) rfl hl.1 rfl (Nat.le_of_ble_eq_true rfl) dX9_person_39 ⟨Nat.le_of_ble_eq_true rfl, Nat.le_of_ble_eq_true rfl⟩) hW (fun r_14 L_12 h_13 H locs p_15 hW => ?_)
      obtain ⟨p_15, eu⟩ := p_15
      cases eu
      rcases p_15 with ⟨kp_15, rfl⟩ | ⟨kp_15, rfl⟩
      · skip
        have zc1 : (-1 : Int32).toInt = -1 := by decide
        have zc2 : (19 : Int32).toInt = 19 := by decide
        refine hb_if_ne (zx := 1) (tgt := 47) hx hb (by decide) dX9_person_42 (by decide) (fun c_16 => ?_) (fun c_16 => absurd c_16 (by decide))
        refine hk_new hx hb hts hC_4 hown hW 4 td_4 rfl (by decide) kw_188 kw_605 kw_108 (Nat.le_of_ble_eq_true rfl) (Nat.le_of_ble_eq_true rfl) dX9_person_47 (fun q_18 H h_17 eh_17 hqq_18 hW hs gq_18 => ?_)
        have f_x_8 := (hs.o gx trivial rfl).1.trans f_x_8
        have f_x_7 := (hs.o gx trivial rfl).2.trans f_x_7
        have hM := hM.tr (hs.mono (by decide))
        have gx := gx.S hs
        have gq5 := gq5.S hs
        have f_19 : h_17.2.1 q_18 0 = 0 := by rw [eh_17]; exact hx_nw_i
        have f_20 : h_17.2.1 q_18 1 = 0 := by rw [eh_17]; exact hx_nw_i
        have f_21 : h_17.2.1 q_18 2 = 0 := by rw [eh_17]; exact hx_nw_i
        have f_22 : h_17.2.1 q_18 3 = 0 := by rw [eh_17]; exact hx_nw_i
        have f_23 : h_17.2.1 q_18 4 = 0 := by rw [eh_17]; exact hx_nw_i
        have f_24 : h_17.2.1 q_18 5 = 0 := by rw [eh_17]; exact hx_nw_i
        have f_25 : h_17.2.1 q_18 6 = 0 := by rw [eh_17]; exact hx_nw_i
        have f_26 : h_17.2.1 q_18 7 = 0 := by rw [eh_17]; exact hx_nw_i
        have f_27 : h_17.2.1 q_18 8 = 0 := by rw [eh_17]; exact hx_nw_i
        have f_28 : h_17.2.1 q_18 9 = 0 := by rw [eh_17]; exact hx_nw_i
        refine lv_dup hx hb dX9_person_50 rfl ?_
        refine lv_aload_n hx hb dX9_person_51 rfl (lv_at hl 0 rfl) ?_
        refine hk_geti hx hb hts hC_9 hown hW gx td_9 8 (by decide) rfl kw_372 ⟨rfl, rfl, rfl⟩ f_x_8 dX9_person_52 ?_
        refine lv_iload_n hx hb dX9_person_55 rfl (lv_at hl 1 rfl) ?_
        refine lv_iload hx hb dX9_person_56 (lv_at hl 6 rfl) ?_
        refine hx_gov (hx_runI (As := [.int (0 : Int32), .int i1, .int i6]) (rest := [.ref q_18]) ⟨hx, hb, hml, hown, hts⟩ hW (c_X4_init l dC dI dA (L ++ [q_18]) h_17 H.size q_18 (0 : Int32) i1 i6 gq_18) (cwI 3 hts (hx_gC kw_608) rfl rfl rfl (hts _ kw_108) (hts _ kw_606) (hts _ kw_607) rfl (by decide +kernel) ⟨Nat.le_of_ble_eq_true rfl, Nat.le_of_ble_eq_true rfl⟩) rfl hl.1 rfl (Nat.le_of_ble_eq_true rfl) dX9_person_58 ⟨Nat.le_of_ble_eq_true rfl, Nat.le_of_ble_eq_true rfl⟩) hW (fun L_29 h_30 H locs p_32 hW => ?_)
        obtain ⟨hs, f_33⟩ := p_32
        have hs : hx_S P_tb [(4, 0), (4, 1), (4, 2)] (L ++ [q_18]) h_17 L_29 h_30 := hs
        have f_33 : h_30.2.1 q_18 0 = _ := f_33
        have f_x_8 := (hs.o gx trivial rfl).1.trans f_x_8
        have f_x_7 := (hs.o gx trivial rfl).2.trans f_x_7
        have f_22 := (hs.o gq_18 trivial rfl).1.trans f_22
        have f_23 := (hs.o gq_18 trivial rfl).1.trans f_23
        have f_24 := (hs.o gq_18 trivial rfl).1.trans f_24
        have f_25 := (hs.o gq_18 trivial rfl).1.trans f_25
        have f_26 := (hs.o gq_18 trivial rfl).1.trans f_26
        have f_27 := (hs.o gq_18 trivial rfl).1.trans f_27
        have f_28 := (hs.o gq_18 trivial rfl).1.trans f_28
        have hM := hM.tr (hs.mono (by decide))
        have gx := gx.S hs
        have gq5 := gq5.S hs
        have gq_18 := gq_18.S hs
        refine lv_astore (lv' := [(7, .ref q_18), (0, .ref x), (1, .int i1), (2, .int i2), (3, .int i3), (4, .int i4), (5, .int i5), (6, .int i6)]) hx hb dX9_person_61 hl (by decide) rfl (fun ls hl => ?_)
        refine lv_aload hx hb dX9_person_63 (lv_at hl 0 rfl) ?_
        refine lv_iload_n hx hb dX9_person_65 rfl (lv_at hl 3 rfl) ?_
        refine lv_iload_n hx hb dX9_person_66 rfl (lv_at hl 4 rfl) ?_
        refine lv_iload hx hb dX9_person_67 (lv_at hl 5 rfl) ?_
        refine lv_iload hx hb dX9_person_69 (lv_at hl 6 rfl) ?_
        refine hx_gov (hx_runV (As := [.int i2, .int i3, .int i4, .int i5]) (rest := []) ⟨hx, hb, hml, hown, hts⟩ hW gq_18 td_4 (T := TX4) (N := 10) rfl (c_X4_tell l dC dI dA L_29 h_30 H.size q_18 i2 i3 i4 i5 gq_18) (cwV 4 hts (hx_gV kw_651 kw_648 kw_649 kw_650 kw_108) rfl rfl rfl (by decide +kernel) ⟨Nat.le_of_ble_eq_true rfl, Nat.le_of_ble_eq_true rfl⟩) rfl hl.1 rfl (Nat.le_of_ble_eq_true rfl) dX9_person_71 ⟨Nat.le_of_ble_eq_true rfl, Nat.le_of_ble_eq_true rfl⟩) hW (fun L_34 h_35 H locs p_37 hW => ?_)
        have hs : hx_S P_tb [(4, 3), (4, 4), (4, 5), (4, 6)] L_29 h_30 L_34 h_35 := p_37
        have f_x_8 := (hs.o gx trivial rfl).1.trans f_x_8
        have f_x_7 := (hs.o gx trivial rfl).2.trans f_x_7
        have f_26 := (hs.o gq_18 trivial rfl).1.trans f_26
        have f_27 := (hs.o gq_18 trivial rfl).1.trans f_27
        have f_28 := (hs.o gq_18 trivial rfl).1.trans f_28
        have f_33 := (hs.o gq_18 trivial rfl).1.trans f_33
        have hM := hM.tr (hs.mono (by decide))
        have gx := gx.S hs
        have gq5 := gq5.S hs
        have gq_18 := gq_18.S hs
        refine lv_aload_n hx hb dX9_person_74 rfl (lv_at hl 1 rfl) ?_
        refine hk_getr hx hb hts hC_9 hown hW gx td_9 7 (by decide) rfl kw_371 ⟨rfl, rfl, rfl⟩ f_x_7 dX9_person_75 ?_
        refine lv_aload_n hx hb dX9_person_78 rfl (lv_at hl 1 rfl) ?_
        refine hk_geti hx hb hts hC_9 hown hW gx td_9 8 (by decide) rfl kw_372 ⟨rfl, rfl, rfl⟩ f_x_8 dX9_person_79 ?_
        refine lv_aload hx hb dX9_person_82 (lv_at hl 0 rfl) ?_
        refine hk_aast hx hb hW gq5 td_44 rfl gq_18 td_4 rfl (by decide) dX9_person_84 (fun H locs h_38 eh_38 hW hs => ?_)
        have f_x_8 := (hs.o gx trivial rfl).1.trans f_x_8
        have f_x_7 := (hs.o gx trivial rfl).2.trans f_x_7
        have f_26 := (hs.o gq_18 trivial rfl).1.trans f_26
        have f_27 := (hs.o gq_18 trivial rfl).1.trans f_27
        have f_28 := (hs.o gq_18 trivial rfl).1.trans f_28
        have f_33 := (hs.o gq_18 trivial rfl).1.trans f_33
        have hM := hM.tr (hs.mono (by decide))
        have gx := gx.S hs
        have gq5 := gq5.S hs
        have gq_18 := gq_18.S hs
        refine lv_aload_n hx hb dX9_person_85 rfl (lv_at hl 1 rfl) ?_
        refine lv_dup hx hb dX9_person_86 rfl ?_
        refine hk_geti hx hb hts hC_9 hown hW gx td_9 8 (by decide) rfl kw_372 ⟨rfl, rfl, rfl⟩ f_x_8 dX9_person_87 ?_
        refine lv_iconst (v := 1) hx hb dX9_person_90 (by decide) ?_
        refine lv_iadd hx hb dX9_person_91 ?_
        refine lv_topi (fun x_39 ex_39 => ?_)
        obtain rfl : x_39 = (1 : Int32) := ex_39.trans (by decide)
        refine hk_puti hx hb hts hC_9 hown hW gx td_9 8 (by decide) rfl kw_372 ⟨rfl, rfl, rfl⟩ rfl (x := (1 : Int32)) rfl rfl rfl dX9_person_92 (fun H locs h_40 eh_40 hW hs => ?_)
        have f_x_7 := (hs.o gx trivial rfl).2.trans f_x_7
        have f_26 := (hs.o gq_18 trivial rfl).1.trans f_26
        have f_27 := (hs.o gq_18 trivial rfl).1.trans f_27
        have f_28 := (hs.o gq_18 trivial rfl).1.trans f_28
        have f_33 := (hs.o gq_18 trivial rfl).1.trans f_33
        have hM := hM.tr (hs.mono (by decide))
        have gx := gx.S hs
        have gq5 := gq5.S hs
        have gq_18 := gq_18.S hs
        have f_41 : h_40.2.1 x 8 = (1 : Int32) := by rw [eh_40]; exact hx_pi_at _ _ _ _
        refine lv_aload hx hb dX9_person_95 (lv_at hl 0 rfl) ?_
        refine hk_geti hx hb hts hC_4 hown hW gq_18 td_4 0 (by decide) rfl kw_612 ⟨rfl, rfl, rfl⟩ f_33 dX9_person_97 ?_
        refine W.widen (k := 1) (n := 10) (Nat.le_of_ble_eq_true rfl) (Nat.le_of_ble_eq_true rfl) ?_
        exact hx_reti hx hb hr hlk hW ⟨Or.inl ⟨by first | omega | decide, rfl⟩, hM⟩ dX9_person_100
      · skip
        have zc1 : (-1 : Int32).toInt = -1 := by decide
        have zc2 : (19 : Int32).toInt = 19 := by decide
        refine hb_if_ne (zx := 0) (tgt := 47) hx hb (by decide) dX9_person_42 (by decide) (fun c_42 => absurd c_42 (by decide)) (fun c_42 => ?_)
        refine lv_iconst (v := -1) hx hb dX9_person_45 (by decide) ?_
        refine W.widen (k := 1) (n := 10) (Nat.le_of_ble_eq_true rfl) (Nat.le_of_ble_eq_true rfl) ?_
        exact hx_reti hx hb hr hlk hW ⟨Or.inr ⟨by first | omega | decide, rfl⟩, hM⟩ dX9_person_46
    · skip
      refine hb_if_eq (zx := 0) (tgt := 45) hx hb (by decide) dX9_person_31 (by decide) (fun c_43 => ?_) (fun c_43 => absurd c_43 (by decide))
      refine lv_iconst (v := -1) hx hb dX9_person_45 (by decide) ?_
      refine W.widen (k := 1) (n := 10) (Nat.le_of_ble_eq_true rfl) (Nat.le_of_ble_eq_true rfl) ?_
      exact hx_reti hx hb hr hlk hW ⟨Or.inr ⟨by first | omega | decide, rfl⟩, hM⟩ dX9_person_46
  · skip
    have zc1 : (-30000 : Int32).toInt = -30000 := by decide
    have zc2 : (7999 : Int32).toInt = 7999 := by decide
    refine hb_if_eq (zx := 0) (tgt := 45) hx hb (by decide) dX9_person_19 (by decide) (fun c_44 => ?_) (fun c_44 => absurd c_44 (by decide))
    refine lv_iconst (v := -1) hx hb dX9_person_45 (by decide) ?_
    refine W.widen (k := 1) (n := 10) (Nat.le_of_ble_eq_true rfl) (Nat.le_of_ble_eq_true rfl) ?_
    exact hx_reti hx hb hr hlk hW ⟨Or.inr ⟨by first | omega | decide, rfl⟩, hM⟩ dX9_person_46
end
section
theorem dX9_feedBytes_0 : decode cX9_feedBytes 0 = .ok (.bipush 24, 2) := by decide +kernel
theorem dX9_feedBytes_2 : decode cX9_feedBytes 2 = .ok (.istore_n 2, 1) := by decide +kernel
theorem dX9_feedBytes_3 : decode cX9_feedBytes 3 = .ok (.iload_n 2, 1) := by decide +kernel
theorem dX9_feedBytes_4 : decode cX9_feedBytes 4 = .ok (.ifCond .lt 42, 3) := by decide +kernel
theorem dX9_feedBytes_7 : decode cX9_feedBytes 7 = .ok (.aload_n 0, 1) := by decide +kernel
theorem dX9_feedBytes_8 : decode cX9_feedBytes 8 = .ok (.getfield 98, 3) := by decide +kernel
theorem dX9_feedBytes_11 : decode cX9_feedBytes 11 = .ok (.sipush 400, 3) := by decide +kernel
theorem dX9_feedBytes_14 : decode cX9_feedBytes 14 = .ok (.if_icmp .ge 32, 3) := by decide +kernel
theorem dX9_feedBytes_17 : decode cX9_feedBytes 17 = .ok (.aload_n 0, 1) := by decide +kernel
theorem dX9_feedBytes_18 : decode cX9_feedBytes 18 = .ok (.getfield 9, 3) := by decide +kernel
theorem dX9_feedBytes_21 : decode cX9_feedBytes 21 = .ok (.aload_n 0, 1) := by decide +kernel
theorem dX9_feedBytes_22 : decode cX9_feedBytes 22 = .ok (.getfield 98, 3) := by decide +kernel
theorem dX9_feedBytes_25 : decode cX9_feedBytes 25 = .ok (.iload_n 1, 1) := by decide +kernel
theorem dX9_feedBytes_26 : decode cX9_feedBytes 26 = .ok (.iload_n 2, 1) := by decide +kernel
theorem dX9_feedBytes_27 : decode cX9_feedBytes 27 = .ok (.ishr, 1) := by decide +kernel
theorem dX9_feedBytes_28 : decode cX9_feedBytes 28 = .ok (.i2b, 1) := by decide +kernel
theorem dX9_feedBytes_29 : decode cX9_feedBytes 29 = .ok (.bastore, 1) := by decide +kernel
theorem dX9_feedBytes_30 : decode cX9_feedBytes 30 = .ok (.aload_n 0, 1) := by decide +kernel
theorem dX9_feedBytes_31 : decode cX9_feedBytes 31 = .ok (.dup, 1) := by decide +kernel
theorem dX9_feedBytes_32 : decode cX9_feedBytes 32 = .ok (.getfield 98, 3) := by decide +kernel
theorem dX9_feedBytes_35 : decode cX9_feedBytes 35 = .ok (.iconst 1, 1) := by decide +kernel
theorem dX9_feedBytes_36 : decode cX9_feedBytes 36 = .ok (.iadd, 1) := by decide +kernel
theorem dX9_feedBytes_37 : decode cX9_feedBytes 37 = .ok (.putfield 98, 3) := by decide +kernel
theorem dX9_feedBytes_40 : decode cX9_feedBytes 40 = .ok (.iinc 2 (-8), 3) := by decide +kernel
theorem dX9_feedBytes_43 : decode cX9_feedBytes 43 = .ok (.goto (-40), 3) := by decide +kernel
theorem dX9_feedBytes_46 : decode cX9_feedBytes 46 = .ok (.return_, 1) := by decide +kernel
set_option maxHeartbeats 4000000 in
set_option maxRecDepth 100000 in
theorem c_X9_feedBytes_0 (l : Launch) (dC : Nat → ClassId) (dI : Nat → Nat → Nat) (dA : Nat → ClassId) (L : List Nat) (h : hx_h) (sz : Nat) (x : Nat) (i1 : Int32) (gx : hx_g L h x 9) (f_x_1 : h.2.1 x 1 = 0) (qt : Nat) (gqt : hx_g L h qt 42) (f_x_0 : h.2.2 x 0 = some qt) : Met l yX9_feedBytes (Cond.code yX9_feedBytes cX9_feedBytes 3 none :: hx_all) ({ frames := 0, cells := 0, slots := 0, locals := 0 }) (va_Pc [.ref x, .int i1] (hx_B P_tb (P_ty dA) (dC, dI) vwCl L h sz)) (va_Qv (fun (u : List Nat × hx_h) => hx_S P_tb [(9, 1), (42, 0)] L h u.1 u.2 ∧ u.2.2.1 x 1 = (4 : Int32)) (hx_E P_tb (P_ty dA) (dC, dI) vwCl (hx_A L sz)) (hx_A L sz)) 0 0 (hx_A L sz) := by
  refine hx_met (lv := [(0, .ref x), (1, .int i1)]) (by decide +kernel) rfl (Nat.le_of_ble_eq_true rfl) rfl ?_
  intro p e s m below meth c hx hb hml hr hlk hts0 hown hin hsz hW ls hl
  have hts : ∀ w ∈ hx_all, w.before _ s = true := fun w hw => hts0 w (List.mem_cons_of_mem _ hw)
  have hown : s.vm.findClass "SmallCourt" = some m.cls := hown
  have hM : hx_S P_tb [(9, 1), (42, 0)] L h L h := hx_S.rf
  refine lv_bipush (v := 24) hx hb dX9_feedBytes_0 (by decide) ?_
  refine lv_istore_n (lv' := [(2, .int (24 : Int32)), (0, .ref x), (1, .int i1)]) hx hb dX9_feedBytes_2 rfl hl (by decide) rfl (fun ls hl => ?_)
  refine lv_iload_n hx hb dX9_feedBytes_3 rfl (lv_at hl 0 rfl) ?_
  refine hb_if_lt (zx := 24) (tgt := 46) hx hb (by decide) dX9_feedBytes_4 (by decide) (fun c_1 => absurd c_1 (by decide)) (fun c_1 => ?_)
  refine lv_aload_n hx hb dX9_feedBytes_7 rfl (lv_at hl 1 rfl) ?_
  refine hk_geti hx hb hts hC_9 hown hW gx td_9 1 (by decide) rfl kw_365 ⟨rfl, rfl, rfl⟩ f_x_1 dX9_feedBytes_8 ?_
  refine lv_sipush (v := 400) hx hb dX9_feedBytes_11 (by decide) ?_
  refine hb_icmp_ge (zx := 0) (zy := 400) (tgt := 46) hx hb (by decide) (by decide) dX9_feedBytes_14 (by decide) (fun c_2 => absurd c_2 (by decide)) (fun c_2 => ?_)
  refine lv_aload_n hx hb dX9_feedBytes_17 rfl (lv_at hl 1 rfl) ?_
  refine hk_getr hx hb hts hC_9 hown hW gx td_9 0 (by decide) rfl kw_364 ⟨rfl, rfl, rfl⟩ f_x_0 dX9_feedBytes_18 ?_
  refine lv_aload_n hx hb dX9_feedBytes_21 rfl (lv_at hl 1 rfl) ?_
  refine hk_geti hx hb hts hC_9 hown hW gx td_9 1 (by decide) rfl kw_365 ⟨rfl, rfl, rfl⟩ f_x_1 dX9_feedBytes_22 ?_
  refine lv_iload_n hx hb dX9_feedBytes_25 rfl (lv_at hl 2 rfl) ?_
  refine lv_iload_n hx hb dX9_feedBytes_26 rfl (lv_at hl 0 rfl) ?_
  refine lv_ishr hx hb dX9_feedBytes_27 ?_
  refine lv_topi (fun x_3 ex_3 => ?_)
  refine lv_i2b hx hb dX9_feedBytes_28 rfl ?_
  refine lv_topi (fun x_4 ex_4 => ?_)
  refine hk_bast hx hb hW gqt td_42 rfl (by decide) (y := _) rfl dX9_feedBytes_29 (fun H locs h_5 eh_5 hW hs => ?_)
  have f_x_1 := (hs.o gx trivial rfl).1.trans f_x_1
  have f_x_0 := (hs.o gx trivial rfl).2.trans f_x_0
  have hM := hM.tr (hs.mono (by decide))
  have gx := gx.S hs
  have gqt := gqt.S hs
  refine lv_aload_n hx hb dX9_feedBytes_30 rfl (lv_at hl 1 rfl) ?_
  refine lv_dup hx hb dX9_feedBytes_31 rfl ?_
  refine hk_geti hx hb hts hC_9 hown hW gx td_9 1 (by decide) rfl kw_365 ⟨rfl, rfl, rfl⟩ f_x_1 dX9_feedBytes_32 ?_
  refine lv_iconst (v := 1) hx hb dX9_feedBytes_35 (by decide) ?_
  refine lv_iadd hx hb dX9_feedBytes_36 ?_
  refine lv_topi (fun x_6 ex_6 => ?_)
  obtain rfl : x_6 = (1 : Int32) := ex_6.trans (by decide)
  refine hk_puti hx hb hts hC_9 hown hW gx td_9 1 (by decide) rfl kw_365 ⟨rfl, rfl, rfl⟩ rfl (x := (1 : Int32)) rfl rfl rfl dX9_feedBytes_37 (fun H locs h_7 eh_7 hW hs => ?_)
  have f_x_0 := (hs.o gx trivial rfl).2.trans f_x_0
  have hM := hM.tr (hs.mono (by decide))
  have gx := gx.S hs
  have gqt := gqt.S hs
  have f_8 : h_7.2.1 x 1 = (1 : Int32) := by rw [eh_7]; exact hx_pi_at _ _ _ _
  refine lv_iinc (v := 16) (lv' := [(2, .int (16 : Int32)), (0, .ref x), (1, .int i1)]) hx hb dX9_feedBytes_40 hl (k := 0) rfl (by decide) (by decide) rfl (fun ls hl => ?_)
  refine lv_goto (tgt := 3) hx hb dX9_feedBytes_43 (by decide) ?_
  refine lv_iload_n hx hb dX9_feedBytes_3 rfl (lv_at hl 0 rfl) ?_
  refine hb_if_lt (zx := 16) (tgt := 46) hx hb (by decide) dX9_feedBytes_4 (by decide) (fun c_9 => absurd c_9 (by decide)) (fun c_9 => ?_)
  refine lv_aload_n hx hb dX9_feedBytes_7 rfl (lv_at hl 1 rfl) ?_
  refine hk_geti hx hb hts hC_9 hown hW gx td_9 1 (by decide) rfl kw_365 ⟨rfl, rfl, rfl⟩ f_8 dX9_feedBytes_8 ?_
  refine lv_sipush (v := 400) hx hb dX9_feedBytes_11 (by decide) ?_
  refine hb_icmp_ge (zx := 1) (zy := 400) (tgt := 46) hx hb (by decide) (by decide) dX9_feedBytes_14 (by decide) (fun c_10 => absurd c_10 (by decide)) (fun c_10 => ?_)
  refine lv_aload_n hx hb dX9_feedBytes_17 rfl (lv_at hl 1 rfl) ?_
  refine hk_getr hx hb hts hC_9 hown hW gx td_9 0 (by decide) rfl kw_364 ⟨rfl, rfl, rfl⟩ f_x_0 dX9_feedBytes_18 ?_
  refine lv_aload_n hx hb dX9_feedBytes_21 rfl (lv_at hl 1 rfl) ?_
  refine hk_geti hx hb hts hC_9 hown hW gx td_9 1 (by decide) rfl kw_365 ⟨rfl, rfl, rfl⟩ f_8 dX9_feedBytes_22 ?_
  refine lv_iload_n hx hb dX9_feedBytes_25 rfl (lv_at hl 2 rfl) ?_
  refine lv_iload_n hx hb dX9_feedBytes_26 rfl (lv_at hl 0 rfl) ?_
  refine lv_ishr hx hb dX9_feedBytes_27 ?_
  refine lv_topi (fun x_11 ex_11 => ?_)
  refine lv_i2b hx hb dX9_feedBytes_28 rfl ?_
  refine lv_topi (fun x_12 ex_12 => ?_)
  refine hk_bast hx hb hW gqt td_42 rfl (by decide) (y := _) rfl dX9_feedBytes_29 (fun H locs h_13 eh_13 hW hs => ?_)
  have f_x_0 := (hs.o gx trivial rfl).2.trans f_x_0
  have f_8 := (hs.o gx trivial rfl).1.trans f_8
  have hM := hM.tr (hs.mono (by decide))
  have gx := gx.S hs
  have gqt := gqt.S hs
  refine lv_aload_n hx hb dX9_feedBytes_30 rfl (lv_at hl 1 rfl) ?_
  refine lv_dup hx hb dX9_feedBytes_31 rfl ?_
  refine hk_geti hx hb hts hC_9 hown hW gx td_9 1 (by decide) rfl kw_365 ⟨rfl, rfl, rfl⟩ f_8 dX9_feedBytes_32 ?_
  refine lv_iconst (v := 1) hx hb dX9_feedBytes_35 (by decide) ?_
  refine lv_iadd hx hb dX9_feedBytes_36 ?_
  refine lv_topi (fun x_14 ex_14 => ?_)
  obtain rfl : x_14 = (2 : Int32) := ex_14.trans (by decide)
  refine hk_puti hx hb hts hC_9 hown hW gx td_9 1 (by decide) rfl kw_365 ⟨rfl, rfl, rfl⟩ rfl (x := (2 : Int32)) rfl rfl rfl dX9_feedBytes_37 (fun H locs h_15 eh_15 hW hs => ?_)
  have f_x_0 := (hs.o gx trivial rfl).2.trans f_x_0
  have hM := hM.tr (hs.mono (by decide))
  have gx := gx.S hs
  have gqt := gqt.S hs
  have f_16 : h_15.2.1 x 1 = (2 : Int32) := by rw [eh_15]; exact hx_pi_at _ _ _ _
  refine lv_iinc (v := 8) (lv' := [(2, .int (8 : Int32)), (0, .ref x), (1, .int i1)]) hx hb dX9_feedBytes_40 hl (k := 0) rfl (by decide) (by decide) rfl (fun ls hl => ?_)
  refine lv_goto (tgt := 3) hx hb dX9_feedBytes_43 (by decide) ?_
  refine lv_iload_n hx hb dX9_feedBytes_3 rfl (lv_at hl 0 rfl) ?_
  refine hb_if_lt (zx := 8) (tgt := 46) hx hb (by decide) dX9_feedBytes_4 (by decide) (fun c_17 => absurd c_17 (by decide)) (fun c_17 => ?_)
  refine lv_aload_n hx hb dX9_feedBytes_7 rfl (lv_at hl 1 rfl) ?_
  refine hk_geti hx hb hts hC_9 hown hW gx td_9 1 (by decide) rfl kw_365 ⟨rfl, rfl, rfl⟩ f_16 dX9_feedBytes_8 ?_
  refine lv_sipush (v := 400) hx hb dX9_feedBytes_11 (by decide) ?_
  refine hb_icmp_ge (zx := 2) (zy := 400) (tgt := 46) hx hb (by decide) (by decide) dX9_feedBytes_14 (by decide) (fun c_18 => absurd c_18 (by decide)) (fun c_18 => ?_)
  refine lv_aload_n hx hb dX9_feedBytes_17 rfl (lv_at hl 1 rfl) ?_
  refine hk_getr hx hb hts hC_9 hown hW gx td_9 0 (by decide) rfl kw_364 ⟨rfl, rfl, rfl⟩ f_x_0 dX9_feedBytes_18 ?_
  refine lv_aload_n hx hb dX9_feedBytes_21 rfl (lv_at hl 1 rfl) ?_
  refine hk_geti hx hb hts hC_9 hown hW gx td_9 1 (by decide) rfl kw_365 ⟨rfl, rfl, rfl⟩ f_16 dX9_feedBytes_22 ?_
  refine lv_iload_n hx hb dX9_feedBytes_25 rfl (lv_at hl 2 rfl) ?_
  refine lv_iload_n hx hb dX9_feedBytes_26 rfl (lv_at hl 0 rfl) ?_
  refine lv_ishr hx hb dX9_feedBytes_27 ?_
  refine lv_topi (fun x_19 ex_19 => ?_)
  refine lv_i2b hx hb dX9_feedBytes_28 rfl ?_
  refine lv_topi (fun x_20 ex_20 => ?_)
  refine hk_bast hx hb hW gqt td_42 rfl (by decide) (y := _) rfl dX9_feedBytes_29 (fun H locs h_21 eh_21 hW hs => ?_)
  have f_x_0 := (hs.o gx trivial rfl).2.trans f_x_0
  have f_16 := (hs.o gx trivial rfl).1.trans f_16
  have hM := hM.tr (hs.mono (by decide))
  have gx := gx.S hs
  have gqt := gqt.S hs
  refine lv_aload_n hx hb dX9_feedBytes_30 rfl (lv_at hl 1 rfl) ?_
  refine lv_dup hx hb dX9_feedBytes_31 rfl ?_
  refine hk_geti hx hb hts hC_9 hown hW gx td_9 1 (by decide) rfl kw_365 ⟨rfl, rfl, rfl⟩ f_16 dX9_feedBytes_32 ?_
  refine lv_iconst (v := 1) hx hb dX9_feedBytes_35 (by decide) ?_
  refine lv_iadd hx hb dX9_feedBytes_36 ?_
  refine lv_topi (fun x_22 ex_22 => ?_)
  obtain rfl : x_22 = (3 : Int32) := ex_22.trans (by decide)
  refine hk_puti hx hb hts hC_9 hown hW gx td_9 1 (by decide) rfl kw_365 ⟨rfl, rfl, rfl⟩ rfl (x := (3 : Int32)) rfl rfl rfl dX9_feedBytes_37 (fun H locs h_23 eh_23 hW hs => ?_)
  have f_x_0 := (hs.o gx trivial rfl).2.trans f_x_0
  have hM := hM.tr (hs.mono (by decide))
  have gx := gx.S hs
  have gqt := gqt.S hs
  have f_24 : h_23.2.1 x 1 = (3 : Int32) := by rw [eh_23]; exact hx_pi_at _ _ _ _
  refine lv_iinc (v := 0) (lv' := [(2, .int (0 : Int32)), (0, .ref x), (1, .int i1)]) hx hb dX9_feedBytes_40 hl (k := 0) rfl (by decide) (by decide) rfl (fun ls hl => ?_)
  refine lv_goto (tgt := 3) hx hb dX9_feedBytes_43 (by decide) ?_
  refine lv_iload_n hx hb dX9_feedBytes_3 rfl (lv_at hl 0 rfl) ?_
  refine hb_if_lt (zx := 0) (tgt := 46) hx hb (by decide) dX9_feedBytes_4 (by decide) (fun c_25 => absurd c_25 (by decide)) (fun c_25 => ?_)
  refine lv_aload_n hx hb dX9_feedBytes_7 rfl (lv_at hl 1 rfl) ?_
  refine hk_geti hx hb hts hC_9 hown hW gx td_9 1 (by decide) rfl kw_365 ⟨rfl, rfl, rfl⟩ f_24 dX9_feedBytes_8 ?_
  refine lv_sipush (v := 400) hx hb dX9_feedBytes_11 (by decide) ?_
  refine hb_icmp_ge (zx := 3) (zy := 400) (tgt := 46) hx hb (by decide) (by decide) dX9_feedBytes_14 (by decide) (fun c_26 => absurd c_26 (by decide)) (fun c_26 => ?_)
  refine lv_aload_n hx hb dX9_feedBytes_17 rfl (lv_at hl 1 rfl) ?_
  refine hk_getr hx hb hts hC_9 hown hW gx td_9 0 (by decide) rfl kw_364 ⟨rfl, rfl, rfl⟩ f_x_0 dX9_feedBytes_18 ?_
  refine lv_aload_n hx hb dX9_feedBytes_21 rfl (lv_at hl 1 rfl) ?_
  refine hk_geti hx hb hts hC_9 hown hW gx td_9 1 (by decide) rfl kw_365 ⟨rfl, rfl, rfl⟩ f_24 dX9_feedBytes_22 ?_
  refine lv_iload_n hx hb dX9_feedBytes_25 rfl (lv_at hl 2 rfl) ?_
  refine lv_iload_n hx hb dX9_feedBytes_26 rfl (lv_at hl 0 rfl) ?_
  refine lv_ishr hx hb dX9_feedBytes_27 ?_
  refine lv_topi (fun x_27 ex_27 => ?_)
  refine lv_i2b hx hb dX9_feedBytes_28 rfl ?_
  refine lv_topi (fun x_28 ex_28 => ?_)
  refine hk_bast hx hb hW gqt td_42 rfl (by decide) (y := _) rfl dX9_feedBytes_29 (fun H locs h_29 eh_29 hW hs => ?_)
  have f_x_0 := (hs.o gx trivial rfl).2.trans f_x_0
  have f_24 := (hs.o gx trivial rfl).1.trans f_24
  have hM := hM.tr (hs.mono (by decide))
  have gx := gx.S hs
  have gqt := gqt.S hs
  refine lv_aload_n hx hb dX9_feedBytes_30 rfl (lv_at hl 1 rfl) ?_
  refine lv_dup hx hb dX9_feedBytes_31 rfl ?_
  refine hk_geti hx hb hts hC_9 hown hW gx td_9 1 (by decide) rfl kw_365 ⟨rfl, rfl, rfl⟩ f_24 dX9_feedBytes_32 ?_
  refine lv_iconst (v := 1) hx hb dX9_feedBytes_35 (by decide) ?_
  refine lv_iadd hx hb dX9_feedBytes_36 ?_
  refine lv_topi (fun x_30 ex_30 => ?_)
  obtain rfl : x_30 = (4 : Int32) := ex_30.trans (by decide)
  refine hk_puti hx hb hts hC_9 hown hW gx td_9 1 (by decide) rfl kw_365 ⟨rfl, rfl, rfl⟩ rfl (x := (4 : Int32)) rfl rfl rfl dX9_feedBytes_37 (fun H locs h_31 eh_31 hW hs => ?_)
  have f_x_0 := (hs.o gx trivial rfl).2.trans f_x_0
  have hM := hM.tr (hs.mono (by decide))
  have gx := gx.S hs
  have gqt := gqt.S hs
  have f_32 : h_31.2.1 x 1 = (4 : Int32) := by rw [eh_31]; exact hx_pi_at _ _ _ _
  refine lv_iinc (v := -8) (lv' := [(2, .int (-8 : Int32)), (0, .ref x), (1, .int i1)]) hx hb dX9_feedBytes_40 hl (k := 0) rfl (by decide) (by decide) rfl (fun ls hl => ?_)
  refine lv_goto (tgt := 3) hx hb dX9_feedBytes_43 (by decide) ?_
  refine lv_iload_n hx hb dX9_feedBytes_3 rfl (lv_at hl 0 rfl) ?_
  refine hb_if_lt (zx := (-8)) (tgt := 46) hx hb (by decide) dX9_feedBytes_4 (by decide) (fun c_33 => ?_) (fun c_33 => absurd c_33 (by decide))
  exact hx_retv hx hb hr hlk hW ⟨hM, f_32⟩ dX9_feedBytes_46

theorem dX10_four_0 : decode cX10_four 0 = .ok (.bipush 24, 2) := by decide +kernel
theorem dX10_four_2 : decode cX10_four 2 = .ok (.istore_n 2, 1) := by decide +kernel
theorem dX10_four_3 : decode cX10_four 3 = .ok (.iload_n 2, 1) := by decide +kernel
theorem dX10_four_4 : decode cX10_four 4 = .ok (.ifCond .lt 32, 3) := by decide +kernel
theorem dX10_four_7 : decode cX10_four 7 = .ok (.aload_n 0, 1) := by decide +kernel
theorem dX10_four_8 : decode cX10_four 8 = .ok (.getfield 22, 3) := by decide +kernel
theorem dX10_four_11 : decode cX10_four 11 = .ok (.aload_n 0, 1) := by decide +kernel
theorem dX10_four_12 : decode cX10_four 12 = .ok (.getfield 236, 3) := by decide +kernel
theorem dX10_four_15 : decode cX10_four 15 = .ok (.iload_n 1, 1) := by decide +kernel
theorem dX10_four_16 : decode cX10_four 16 = .ok (.iload_n 2, 1) := by decide +kernel
theorem dX10_four_17 : decode cX10_four 17 = .ok (.ishr, 1) := by decide +kernel
theorem dX10_four_18 : decode cX10_four 18 = .ok (.i2b, 1) := by decide +kernel
theorem dX10_four_19 : decode cX10_four 19 = .ok (.bastore, 1) := by decide +kernel
theorem dX10_four_20 : decode cX10_four 20 = .ok (.aload_n 0, 1) := by decide +kernel
theorem dX10_four_21 : decode cX10_four 21 = .ok (.dup, 1) := by decide +kernel
theorem dX10_four_22 : decode cX10_four 22 = .ok (.getfield 236, 3) := by decide +kernel
theorem dX10_four_25 : decode cX10_four 25 = .ok (.iconst 1, 1) := by decide +kernel
theorem dX10_four_26 : decode cX10_four 26 = .ok (.iadd, 1) := by decide +kernel
theorem dX10_four_27 : decode cX10_four 27 = .ok (.putfield 236, 3) := by decide +kernel
theorem dX10_four_30 : decode cX10_four 30 = .ok (.iinc 2 (-8), 3) := by decide +kernel
theorem dX10_four_33 : decode cX10_four 33 = .ok (.goto (-30), 3) := by decide +kernel
theorem dX10_four_36 : decode cX10_four 36 = .ok (.return_, 1) := by decide +kernel
set_option maxHeartbeats 4000000 in
set_option maxRecDepth 100000 in
theorem c_X10_four_0 (l : Launch) (dC : Nat → ClassId) (dI : Nat → Nat → Nat) (dA : Nat → ClassId) (L : List Nat) (h : hx_h) (sz : Nat) (y : Nat) (i1 : Int32) (gy : hx_g L h y 10) (f_y_7 : h.2.1 y 7 = 0) (qt : Nat) (gqt : hx_g L h qt 53) (f_y_6 : h.2.2 y 6 = some qt) : Met l yX10_four (Cond.code yX10_four cX10_four 3 none :: hx_all) ({ frames := 0, cells := 0, slots := 0, locals := 0 }) (va_Pc [.ref y, .int i1] (hx_B P_tb (P_ty dA) (dC, dI) vwCl L h sz)) (va_Qv (fun (u : List Nat × hx_h) => hx_S P_tb [(10, 7), (53, 0)] L h u.1 u.2 ∧ u.2.2.1 y 7 = (4 : Int32)) (hx_E P_tb (P_ty dA) (dC, dI) vwCl (hx_A L sz)) (hx_A L sz)) 0 0 (hx_A L sz) := by
  refine hx_met (lv := [(0, .ref y), (1, .int i1)]) (by decide +kernel) rfl (Nat.le_of_ble_eq_true rfl) rfl ?_
  intro p e s m below meth c hx hb hml hr hlk hts0 hown hin hsz hW ls hl
  have hts : ∀ w ∈ hx_all, w.before _ s = true := fun w hw => hts0 w (List.mem_cons_of_mem _ hw)
  have hown : s.vm.findClass "SmallCourtModel" = some m.cls := hown
  have hM : hx_S P_tb [(10, 7), (53, 0)] L h L h := hx_S.rf
  refine lv_bipush (v := 24) hx hb dX10_four_0 (by decide) ?_
  refine lv_istore_n (lv' := [(2, .int (24 : Int32)), (0, .ref y), (1, .int i1)]) hx hb dX10_four_2 rfl hl (by decide) rfl (fun ls hl => ?_)
  refine lv_iload_n hx hb dX10_four_3 rfl (lv_at hl 0 rfl) ?_
  refine hb_if_lt (zx := 24) (tgt := 36) hx hb (by decide) dX10_four_4 (by decide) (fun c_1 => absurd c_1 (by decide)) (fun c_1 => ?_)
  refine lv_aload_n hx hb dX10_four_7 rfl (lv_at hl 1 rfl) ?_
  refine hk_getr hx hb hts hC_10 hown hW gy td_10 6 (by decide) rfl kw_1149 ⟨rfl, rfl, rfl⟩ f_y_6 dX10_four_8 ?_
  refine lv_aload_n hx hb dX10_four_11 rfl (lv_at hl 1 rfl) ?_
  refine hk_geti hx hb hts hC_10 hown hW gy td_10 7 (by decide) rfl kw_1150 ⟨rfl, rfl, rfl⟩ f_y_7 dX10_four_12 ?_
  refine lv_iload_n hx hb dX10_four_15 rfl (lv_at hl 2 rfl) ?_
  refine lv_iload_n hx hb dX10_four_16 rfl (lv_at hl 0 rfl) ?_
  refine lv_ishr hx hb dX10_four_17 ?_
  refine lv_topi (fun x_2 ex_2 => ?_)
  refine lv_i2b hx hb dX10_four_18 rfl ?_
  refine lv_topi (fun x_3 ex_3 => ?_)
  refine hk_bast hx hb hW gqt td_53 rfl (by decide) (y := _) rfl dX10_four_19 (fun H locs h_4 eh_4 hW hs => ?_)
  have f_y_7 := (hs.o gy trivial rfl).1.trans f_y_7
  have f_y_6 := (hs.o gy trivial rfl).2.trans f_y_6
  have hM := hM.tr (hs.mono (by decide))
  have gy := gy.S hs
  have gqt := gqt.S hs
  refine lv_aload_n hx hb dX10_four_20 rfl (lv_at hl 1 rfl) ?_
  refine lv_dup hx hb dX10_four_21 rfl ?_
  refine hk_geti hx hb hts hC_10 hown hW gy td_10 7 (by decide) rfl kw_1150 ⟨rfl, rfl, rfl⟩ f_y_7 dX10_four_22 ?_
  refine lv_iconst (v := 1) hx hb dX10_four_25 (by decide) ?_
  refine lv_iadd hx hb dX10_four_26 ?_
  refine lv_topi (fun x_5 ex_5 => ?_)
  obtain rfl : x_5 = (1 : Int32) := ex_5.trans (by decide)
  refine hk_puti hx hb hts hC_10 hown hW gy td_10 7 (by decide) rfl kw_1150 ⟨rfl, rfl, rfl⟩ rfl (x := (1 : Int32)) rfl rfl rfl dX10_four_27 (fun H locs h_6 eh_6 hW hs => ?_)
  have f_y_6 := (hs.o gy trivial rfl).2.trans f_y_6
  have hM := hM.tr (hs.mono (by decide))
  have gy := gy.S hs
  have gqt := gqt.S hs
  have f_7 : h_6.2.1 y 7 = (1 : Int32) := by rw [eh_6]; exact hx_pi_at _ _ _ _
  refine lv_iinc (v := 16) (lv' := [(2, .int (16 : Int32)), (0, .ref y), (1, .int i1)]) hx hb dX10_four_30 hl (k := 0) rfl (by decide) (by decide) rfl (fun ls hl => ?_)
  refine lv_goto (tgt := 3) hx hb dX10_four_33 (by decide) ?_
  refine lv_iload_n hx hb dX10_four_3 rfl (lv_at hl 0 rfl) ?_
  refine hb_if_lt (zx := 16) (tgt := 36) hx hb (by decide) dX10_four_4 (by decide) (fun c_8 => absurd c_8 (by decide)) (fun c_8 => ?_)
  refine lv_aload_n hx hb dX10_four_7 rfl (lv_at hl 1 rfl) ?_
  refine hk_getr hx hb hts hC_10 hown hW gy td_10 6 (by decide) rfl kw_1149 ⟨rfl, rfl, rfl⟩ f_y_6 dX10_four_8 ?_
  refine lv_aload_n hx hb dX10_four_11 rfl (lv_at hl 1 rfl) ?_
  refine hk_geti hx hb hts hC_10 hown hW gy td_10 7 (by decide) rfl kw_1150 ⟨rfl, rfl, rfl⟩ f_7 dX10_four_12 ?_
  refine lv_iload_n hx hb dX10_four_15 rfl (lv_at hl 2 rfl) ?_
  refine lv_iload_n hx hb dX10_four_16 rfl (lv_at hl 0 rfl) ?_
  refine lv_ishr hx hb dX10_four_17 ?_
  refine lv_topi (fun x_9 ex_9 => ?_)
  refine lv_i2b hx hb dX10_four_18 rfl ?_
  refine lv_topi (fun x_10 ex_10 => ?_)
  refine hk_bast hx hb hW gqt td_53 rfl (by decide) (y := _) rfl dX10_four_19 (fun H locs h_11 eh_11 hW hs => ?_)
  have f_y_6 := (hs.o gy trivial rfl).2.trans f_y_6
  have f_7 := (hs.o gy trivial rfl).1.trans f_7
  have hM := hM.tr (hs.mono (by decide))
  have gy := gy.S hs
  have gqt := gqt.S hs
  refine lv_aload_n hx hb dX10_four_20 rfl (lv_at hl 1 rfl) ?_
  refine lv_dup hx hb dX10_four_21 rfl ?_
  refine hk_geti hx hb hts hC_10 hown hW gy td_10 7 (by decide) rfl kw_1150 ⟨rfl, rfl, rfl⟩ f_7 dX10_four_22 ?_
  refine lv_iconst (v := 1) hx hb dX10_four_25 (by decide) ?_
  refine lv_iadd hx hb dX10_four_26 ?_
  refine lv_topi (fun x_12 ex_12 => ?_)
  obtain rfl : x_12 = (2 : Int32) := ex_12.trans (by decide)
  refine hk_puti hx hb hts hC_10 hown hW gy td_10 7 (by decide) rfl kw_1150 ⟨rfl, rfl, rfl⟩ rfl (x := (2 : Int32)) rfl rfl rfl dX10_four_27 (fun H locs h_13 eh_13 hW hs => ?_)
  have f_y_6 := (hs.o gy trivial rfl).2.trans f_y_6
  have hM := hM.tr (hs.mono (by decide))
  have gy := gy.S hs
  have gqt := gqt.S hs
  have f_14 : h_13.2.1 y 7 = (2 : Int32) := by rw [eh_13]; exact hx_pi_at _ _ _ _
  refine lv_iinc (v := 8) (lv' := [(2, .int (8 : Int32)), (0, .ref y), (1, .int i1)]) hx hb dX10_four_30 hl (k := 0) rfl (by decide) (by decide) rfl (fun ls hl => ?_)
  refine lv_goto (tgt := 3) hx hb dX10_four_33 (by decide) ?_
  refine lv_iload_n hx hb dX10_four_3 rfl (lv_at hl 0 rfl) ?_
  refine hb_if_lt (zx := 8) (tgt := 36) hx hb (by decide) dX10_four_4 (by decide) (fun c_15 => absurd c_15 (by decide)) (fun c_15 => ?_)
  refine lv_aload_n hx hb dX10_four_7 rfl (lv_at hl 1 rfl) ?_
  refine hk_getr hx hb hts hC_10 hown hW gy td_10 6 (by decide) rfl kw_1149 ⟨rfl, rfl, rfl⟩ f_y_6 dX10_four_8 ?_
  refine lv_aload_n hx hb dX10_four_11 rfl (lv_at hl 1 rfl) ?_
  refine hk_geti hx hb hts hC_10 hown hW gy td_10 7 (by decide) rfl kw_1150 ⟨rfl, rfl, rfl⟩ f_14 dX10_four_12 ?_
  refine lv_iload_n hx hb dX10_four_15 rfl (lv_at hl 2 rfl) ?_
  refine lv_iload_n hx hb dX10_four_16 rfl (lv_at hl 0 rfl) ?_
  refine lv_ishr hx hb dX10_four_17 ?_
  refine lv_topi (fun x_16 ex_16 => ?_)
  refine lv_i2b hx hb dX10_four_18 rfl ?_
  refine lv_topi (fun x_17 ex_17 => ?_)
  refine hk_bast hx hb hW gqt td_53 rfl (by decide) (y := _) rfl dX10_four_19 (fun H locs h_18 eh_18 hW hs => ?_)
  have f_y_6 := (hs.o gy trivial rfl).2.trans f_y_6
  have f_14 := (hs.o gy trivial rfl).1.trans f_14
  have hM := hM.tr (hs.mono (by decide))
  have gy := gy.S hs
  have gqt := gqt.S hs
  refine lv_aload_n hx hb dX10_four_20 rfl (lv_at hl 1 rfl) ?_
  refine lv_dup hx hb dX10_four_21 rfl ?_
  refine hk_geti hx hb hts hC_10 hown hW gy td_10 7 (by decide) rfl kw_1150 ⟨rfl, rfl, rfl⟩ f_14 dX10_four_22 ?_
  refine lv_iconst (v := 1) hx hb dX10_four_25 (by decide) ?_
  refine lv_iadd hx hb dX10_four_26 ?_
  refine lv_topi (fun x_19 ex_19 => ?_)
  obtain rfl : x_19 = (3 : Int32) := ex_19.trans (by decide)
  refine hk_puti hx hb hts hC_10 hown hW gy td_10 7 (by decide) rfl kw_1150 ⟨rfl, rfl, rfl⟩ rfl (x := (3 : Int32)) rfl rfl rfl dX10_four_27 (fun H locs h_20 eh_20 hW hs => ?_)
  have f_y_6 := (hs.o gy trivial rfl).2.trans f_y_6
  have hM := hM.tr (hs.mono (by decide))
  have gy := gy.S hs
  have gqt := gqt.S hs
  have f_21 : h_20.2.1 y 7 = (3 : Int32) := by rw [eh_20]; exact hx_pi_at _ _ _ _
  refine lv_iinc (v := 0) (lv' := [(2, .int (0 : Int32)), (0, .ref y), (1, .int i1)]) hx hb dX10_four_30 hl (k := 0) rfl (by decide) (by decide) rfl (fun ls hl => ?_)
  refine lv_goto (tgt := 3) hx hb dX10_four_33 (by decide) ?_
  refine lv_iload_n hx hb dX10_four_3 rfl (lv_at hl 0 rfl) ?_
  refine hb_if_lt (zx := 0) (tgt := 36) hx hb (by decide) dX10_four_4 (by decide) (fun c_22 => absurd c_22 (by decide)) (fun c_22 => ?_)
  refine lv_aload_n hx hb dX10_four_7 rfl (lv_at hl 1 rfl) ?_
  refine hk_getr hx hb hts hC_10 hown hW gy td_10 6 (by decide) rfl kw_1149 ⟨rfl, rfl, rfl⟩ f_y_6 dX10_four_8 ?_
  refine lv_aload_n hx hb dX10_four_11 rfl (lv_at hl 1 rfl) ?_
  refine hk_geti hx hb hts hC_10 hown hW gy td_10 7 (by decide) rfl kw_1150 ⟨rfl, rfl, rfl⟩ f_21 dX10_four_12 ?_
  refine lv_iload_n hx hb dX10_four_15 rfl (lv_at hl 2 rfl) ?_
  refine lv_iload_n hx hb dX10_four_16 rfl (lv_at hl 0 rfl) ?_
  refine lv_ishr hx hb dX10_four_17 ?_
  refine lv_topi (fun x_23 ex_23 => ?_)
  refine lv_i2b hx hb dX10_four_18 rfl ?_
  refine lv_topi (fun x_24 ex_24 => ?_)
  refine hk_bast hx hb hW gqt td_53 rfl (by decide) (y := _) rfl dX10_four_19 (fun H locs h_25 eh_25 hW hs => ?_)
  have f_y_6 := (hs.o gy trivial rfl).2.trans f_y_6
  have f_21 := (hs.o gy trivial rfl).1.trans f_21
  have hM := hM.tr (hs.mono (by decide))
  have gy := gy.S hs
  have gqt := gqt.S hs
  refine lv_aload_n hx hb dX10_four_20 rfl (lv_at hl 1 rfl) ?_
  refine lv_dup hx hb dX10_four_21 rfl ?_
  refine hk_geti hx hb hts hC_10 hown hW gy td_10 7 (by decide) rfl kw_1150 ⟨rfl, rfl, rfl⟩ f_21 dX10_four_22 ?_
  refine lv_iconst (v := 1) hx hb dX10_four_25 (by decide) ?_
  refine lv_iadd hx hb dX10_four_26 ?_
  refine lv_topi (fun x_26 ex_26 => ?_)
  obtain rfl : x_26 = (4 : Int32) := ex_26.trans (by decide)
  refine hk_puti hx hb hts hC_10 hown hW gy td_10 7 (by decide) rfl kw_1150 ⟨rfl, rfl, rfl⟩ rfl (x := (4 : Int32)) rfl rfl rfl dX10_four_27 (fun H locs h_27 eh_27 hW hs => ?_)
  have f_y_6 := (hs.o gy trivial rfl).2.trans f_y_6
  have hM := hM.tr (hs.mono (by decide))
  have gy := gy.S hs
  have gqt := gqt.S hs
  have f_28 : h_27.2.1 y 7 = (4 : Int32) := by rw [eh_27]; exact hx_pi_at _ _ _ _
  refine lv_iinc (v := -8) (lv' := [(2, .int (-8 : Int32)), (0, .ref y), (1, .int i1)]) hx hb dX10_four_30 hl (k := 0) rfl (by decide) (by decide) rfl (fun ls hl => ?_)
  refine lv_goto (tgt := 3) hx hb dX10_four_33 (by decide) ?_
  refine lv_iload_n hx hb dX10_four_3 rfl (lv_at hl 0 rfl) ?_
  refine hb_if_lt (zx := (-8)) (tgt := 36) hx hb (by decide) dX10_four_4 (by decide) (fun c_29 => ?_) (fun c_29 => absurd c_29 (by decide))
  exact hx_retv hx hb hr hlk hW ⟨hM, f_28⟩ dX10_four_36


set_option maxHeartbeats 4000000 in
set_option maxRecDepth 100000 in
theorem c_X9_feedBytes_4 (l : Launch) (dC : Nat → ClassId) (dI : Nat → Nat → Nat) (dA : Nat → ClassId) (L : List Nat) (h : hx_h) (sz : Nat) (x : Nat) (i1 : Int32) (gx : hx_g L h x 9) (f_x_1 : h.2.1 x 1 = 4) (qt : Nat) (gqt : hx_g L h qt 42) (f_x_0 : h.2.2 x 0 = some qt) : Met l yX9_feedBytes (Cond.code yX9_feedBytes cX9_feedBytes 3 none :: hx_all) ({ frames := 0, cells := 0, slots := 0, locals := 0 }) (va_Pc [.ref x, .int i1] (hx_B P_tb (P_ty dA) (dC, dI) vwCl L h sz)) (va_Qv (fun (u : List Nat × hx_h) => hx_S P_tb [(9, 1), (42, 0)] L h u.1 u.2 ∧ u.2.2.1 x 1 = (8 : Int32)) (hx_E P_tb (P_ty dA) (dC, dI) vwCl (hx_A L sz)) (hx_A L sz)) 0 0 (hx_A L sz) := by
  refine hx_met (lv := [(0, .ref x), (1, .int i1)]) (by decide +kernel) rfl (Nat.le_of_ble_eq_true rfl) rfl ?_
  intro p e s m below meth c hx hb hml hr hlk hts0 hown hin hsz hW ls hl
  have hts : ∀ w ∈ hx_all, w.before _ s = true := fun w hw => hts0 w (List.mem_cons_of_mem _ hw)
  have hown : s.vm.findClass "SmallCourt" = some m.cls := hown
  have hM : hx_S P_tb [(9, 1), (42, 0)] L h L h := hx_S.rf
  refine lv_bipush (v := 24) hx hb dX9_feedBytes_0 (by decide) ?_
  refine lv_istore_n (lv' := [(2, .int (24 : Int32)), (0, .ref x), (1, .int i1)]) hx hb dX9_feedBytes_2 rfl hl (by decide) rfl (fun ls hl => ?_)
  refine lv_iload_n hx hb dX9_feedBytes_3 rfl (lv_at hl 0 rfl) ?_
  refine hb_if_lt (zx := 24) (tgt := 46) hx hb (by decide) dX9_feedBytes_4 (by decide) (fun c_1 => absurd c_1 (by decide)) (fun c_1 => ?_)
  refine lv_aload_n hx hb dX9_feedBytes_7 rfl (lv_at hl 1 rfl) ?_
  refine hk_geti hx hb hts hC_9 hown hW gx td_9 1 (by decide) rfl kw_365 ⟨rfl, rfl, rfl⟩ f_x_1 dX9_feedBytes_8 ?_
  refine lv_sipush (v := 400) hx hb dX9_feedBytes_11 (by decide) ?_
  refine hb_icmp_ge (zx := 4) (zy := 400) (tgt := 46) hx hb (by decide) (by decide) dX9_feedBytes_14 (by decide) (fun c_2 => absurd c_2 (by decide)) (fun c_2 => ?_)
  refine lv_aload_n hx hb dX9_feedBytes_17 rfl (lv_at hl 1 rfl) ?_
  refine hk_getr hx hb hts hC_9 hown hW gx td_9 0 (by decide) rfl kw_364 ⟨rfl, rfl, rfl⟩ f_x_0 dX9_feedBytes_18 ?_
  refine lv_aload_n hx hb dX9_feedBytes_21 rfl (lv_at hl 1 rfl) ?_
  refine hk_geti hx hb hts hC_9 hown hW gx td_9 1 (by decide) rfl kw_365 ⟨rfl, rfl, rfl⟩ f_x_1 dX9_feedBytes_22 ?_
  refine lv_iload_n hx hb dX9_feedBytes_25 rfl (lv_at hl 2 rfl) ?_
  refine lv_iload_n hx hb dX9_feedBytes_26 rfl (lv_at hl 0 rfl) ?_
  refine lv_ishr hx hb dX9_feedBytes_27 ?_
  refine lv_topi (fun x_3 ex_3 => ?_)
  refine lv_i2b hx hb dX9_feedBytes_28 rfl ?_
  refine lv_topi (fun x_4 ex_4 => ?_)
  refine hk_bast hx hb hW gqt td_42 rfl (by decide) (y := _) rfl dX9_feedBytes_29 (fun H locs h_5 eh_5 hW hs => ?_)
  have f_x_1 := (hs.o gx trivial rfl).1.trans f_x_1
  have f_x_0 := (hs.o gx trivial rfl).2.trans f_x_0
  have hM := hM.tr (hs.mono (by decide))
  have gx := gx.S hs
  have gqt := gqt.S hs
  refine lv_aload_n hx hb dX9_feedBytes_30 rfl (lv_at hl 1 rfl) ?_
  refine lv_dup hx hb dX9_feedBytes_31 rfl ?_
  refine hk_geti hx hb hts hC_9 hown hW gx td_9 1 (by decide) rfl kw_365 ⟨rfl, rfl, rfl⟩ f_x_1 dX9_feedBytes_32 ?_
  refine lv_iconst (v := 1) hx hb dX9_feedBytes_35 (by decide) ?_
  refine lv_iadd hx hb dX9_feedBytes_36 ?_
  refine lv_topi (fun x_6 ex_6 => ?_)
  obtain rfl : x_6 = (5 : Int32) := ex_6.trans (by decide)
  refine hk_puti hx hb hts hC_9 hown hW gx td_9 1 (by decide) rfl kw_365 ⟨rfl, rfl, rfl⟩ rfl (x := (5 : Int32)) rfl rfl rfl dX9_feedBytes_37 (fun H locs h_7 eh_7 hW hs => ?_)
  have f_x_0 := (hs.o gx trivial rfl).2.trans f_x_0
  have hM := hM.tr (hs.mono (by decide))
  have gx := gx.S hs
  have gqt := gqt.S hs
  have f_8 : h_7.2.1 x 1 = (5 : Int32) := by rw [eh_7]; exact hx_pi_at _ _ _ _
  refine lv_iinc (v := 16) (lv' := [(2, .int (16 : Int32)), (0, .ref x), (1, .int i1)]) hx hb dX9_feedBytes_40 hl (k := 0) rfl (by decide) (by decide) rfl (fun ls hl => ?_)
  refine lv_goto (tgt := 3) hx hb dX9_feedBytes_43 (by decide) ?_
  refine lv_iload_n hx hb dX9_feedBytes_3 rfl (lv_at hl 0 rfl) ?_
  refine hb_if_lt (zx := 16) (tgt := 46) hx hb (by decide) dX9_feedBytes_4 (by decide) (fun c_9 => absurd c_9 (by decide)) (fun c_9 => ?_)
  refine lv_aload_n hx hb dX9_feedBytes_7 rfl (lv_at hl 1 rfl) ?_
  refine hk_geti hx hb hts hC_9 hown hW gx td_9 1 (by decide) rfl kw_365 ⟨rfl, rfl, rfl⟩ f_8 dX9_feedBytes_8 ?_
  refine lv_sipush (v := 400) hx hb dX9_feedBytes_11 (by decide) ?_
  refine hb_icmp_ge (zx := 5) (zy := 400) (tgt := 46) hx hb (by decide) (by decide) dX9_feedBytes_14 (by decide) (fun c_10 => absurd c_10 (by decide)) (fun c_10 => ?_)
  refine lv_aload_n hx hb dX9_feedBytes_17 rfl (lv_at hl 1 rfl) ?_
  refine hk_getr hx hb hts hC_9 hown hW gx td_9 0 (by decide) rfl kw_364 ⟨rfl, rfl, rfl⟩ f_x_0 dX9_feedBytes_18 ?_
  refine lv_aload_n hx hb dX9_feedBytes_21 rfl (lv_at hl 1 rfl) ?_
  refine hk_geti hx hb hts hC_9 hown hW gx td_9 1 (by decide) rfl kw_365 ⟨rfl, rfl, rfl⟩ f_8 dX9_feedBytes_22 ?_
  refine lv_iload_n hx hb dX9_feedBytes_25 rfl (lv_at hl 2 rfl) ?_
  refine lv_iload_n hx hb dX9_feedBytes_26 rfl (lv_at hl 0 rfl) ?_
  refine lv_ishr hx hb dX9_feedBytes_27 ?_
  refine lv_topi (fun x_11 ex_11 => ?_)
  refine lv_i2b hx hb dX9_feedBytes_28 rfl ?_
  refine lv_topi (fun x_12 ex_12 => ?_)
  refine hk_bast hx hb hW gqt td_42 rfl (by decide) (y := _) rfl dX9_feedBytes_29 (fun H locs h_13 eh_13 hW hs => ?_)
  have f_x_0 := (hs.o gx trivial rfl).2.trans f_x_0
  have f_8 := (hs.o gx trivial rfl).1.trans f_8
  have hM := hM.tr (hs.mono (by decide))
  have gx := gx.S hs
  have gqt := gqt.S hs
  refine lv_aload_n hx hb dX9_feedBytes_30 rfl (lv_at hl 1 rfl) ?_
  refine lv_dup hx hb dX9_feedBytes_31 rfl ?_
  refine hk_geti hx hb hts hC_9 hown hW gx td_9 1 (by decide) rfl kw_365 ⟨rfl, rfl, rfl⟩ f_8 dX9_feedBytes_32 ?_
  refine lv_iconst (v := 1) hx hb dX9_feedBytes_35 (by decide) ?_
  refine lv_iadd hx hb dX9_feedBytes_36 ?_
  refine lv_topi (fun x_14 ex_14 => ?_)
  obtain rfl : x_14 = (6 : Int32) := ex_14.trans (by decide)
  refine hk_puti hx hb hts hC_9 hown hW gx td_9 1 (by decide) rfl kw_365 ⟨rfl, rfl, rfl⟩ rfl (x := (6 : Int32)) rfl rfl rfl dX9_feedBytes_37 (fun H locs h_15 eh_15 hW hs => ?_)
  have f_x_0 := (hs.o gx trivial rfl).2.trans f_x_0
  have hM := hM.tr (hs.mono (by decide))
  have gx := gx.S hs
  have gqt := gqt.S hs
  have f_16 : h_15.2.1 x 1 = (6 : Int32) := by rw [eh_15]; exact hx_pi_at _ _ _ _
  refine lv_iinc (v := 8) (lv' := [(2, .int (8 : Int32)), (0, .ref x), (1, .int i1)]) hx hb dX9_feedBytes_40 hl (k := 0) rfl (by decide) (by decide) rfl (fun ls hl => ?_)
  refine lv_goto (tgt := 3) hx hb dX9_feedBytes_43 (by decide) ?_
  refine lv_iload_n hx hb dX9_feedBytes_3 rfl (lv_at hl 0 rfl) ?_
  refine hb_if_lt (zx := 8) (tgt := 46) hx hb (by decide) dX9_feedBytes_4 (by decide) (fun c_17 => absurd c_17 (by decide)) (fun c_17 => ?_)
  refine lv_aload_n hx hb dX9_feedBytes_7 rfl (lv_at hl 1 rfl) ?_
  refine hk_geti hx hb hts hC_9 hown hW gx td_9 1 (by decide) rfl kw_365 ⟨rfl, rfl, rfl⟩ f_16 dX9_feedBytes_8 ?_
  refine lv_sipush (v := 400) hx hb dX9_feedBytes_11 (by decide) ?_
  refine hb_icmp_ge (zx := 6) (zy := 400) (tgt := 46) hx hb (by decide) (by decide) dX9_feedBytes_14 (by decide) (fun c_18 => absurd c_18 (by decide)) (fun c_18 => ?_)
  refine lv_aload_n hx hb dX9_feedBytes_17 rfl (lv_at hl 1 rfl) ?_
  refine hk_getr hx hb hts hC_9 hown hW gx td_9 0 (by decide) rfl kw_364 ⟨rfl, rfl, rfl⟩ f_x_0 dX9_feedBytes_18 ?_
  refine lv_aload_n hx hb dX9_feedBytes_21 rfl (lv_at hl 1 rfl) ?_
  refine hk_geti hx hb hts hC_9 hown hW gx td_9 1 (by decide) rfl kw_365 ⟨rfl, rfl, rfl⟩ f_16 dX9_feedBytes_22 ?_
  refine lv_iload_n hx hb dX9_feedBytes_25 rfl (lv_at hl 2 rfl) ?_
  refine lv_iload_n hx hb dX9_feedBytes_26 rfl (lv_at hl 0 rfl) ?_
  refine lv_ishr hx hb dX9_feedBytes_27 ?_
  refine lv_topi (fun x_19 ex_19 => ?_)
  refine lv_i2b hx hb dX9_feedBytes_28 rfl ?_
  refine lv_topi (fun x_20 ex_20 => ?_)
  refine hk_bast hx hb hW gqt td_42 rfl (by decide) (y := _) rfl dX9_feedBytes_29 (fun H locs h_21 eh_21 hW hs => ?_)
  have f_x_0 := (hs.o gx trivial rfl).2.trans f_x_0
  have f_16 := (hs.o gx trivial rfl).1.trans f_16
  have hM := hM.tr (hs.mono (by decide))
  have gx := gx.S hs
  have gqt := gqt.S hs
  refine lv_aload_n hx hb dX9_feedBytes_30 rfl (lv_at hl 1 rfl) ?_
  refine lv_dup hx hb dX9_feedBytes_31 rfl ?_
  refine hk_geti hx hb hts hC_9 hown hW gx td_9 1 (by decide) rfl kw_365 ⟨rfl, rfl, rfl⟩ f_16 dX9_feedBytes_32 ?_
  refine lv_iconst (v := 1) hx hb dX9_feedBytes_35 (by decide) ?_
  refine lv_iadd hx hb dX9_feedBytes_36 ?_
  refine lv_topi (fun x_22 ex_22 => ?_)
  obtain rfl : x_22 = (7 : Int32) := ex_22.trans (by decide)
  refine hk_puti hx hb hts hC_9 hown hW gx td_9 1 (by decide) rfl kw_365 ⟨rfl, rfl, rfl⟩ rfl (x := (7 : Int32)) rfl rfl rfl dX9_feedBytes_37 (fun H locs h_23 eh_23 hW hs => ?_)
  have f_x_0 := (hs.o gx trivial rfl).2.trans f_x_0
  have hM := hM.tr (hs.mono (by decide))
  have gx := gx.S hs
  have gqt := gqt.S hs
  have f_24 : h_23.2.1 x 1 = (7 : Int32) := by rw [eh_23]; exact hx_pi_at _ _ _ _
  refine lv_iinc (v := 0) (lv' := [(2, .int (0 : Int32)), (0, .ref x), (1, .int i1)]) hx hb dX9_feedBytes_40 hl (k := 0) rfl (by decide) (by decide) rfl (fun ls hl => ?_)
  refine lv_goto (tgt := 3) hx hb dX9_feedBytes_43 (by decide) ?_
  refine lv_iload_n hx hb dX9_feedBytes_3 rfl (lv_at hl 0 rfl) ?_
  refine hb_if_lt (zx := 0) (tgt := 46) hx hb (by decide) dX9_feedBytes_4 (by decide) (fun c_25 => absurd c_25 (by decide)) (fun c_25 => ?_)
  refine lv_aload_n hx hb dX9_feedBytes_7 rfl (lv_at hl 1 rfl) ?_
  refine hk_geti hx hb hts hC_9 hown hW gx td_9 1 (by decide) rfl kw_365 ⟨rfl, rfl, rfl⟩ f_24 dX9_feedBytes_8 ?_
  refine lv_sipush (v := 400) hx hb dX9_feedBytes_11 (by decide) ?_
  refine hb_icmp_ge (zx := 7) (zy := 400) (tgt := 46) hx hb (by decide) (by decide) dX9_feedBytes_14 (by decide) (fun c_26 => absurd c_26 (by decide)) (fun c_26 => ?_)
  refine lv_aload_n hx hb dX9_feedBytes_17 rfl (lv_at hl 1 rfl) ?_
  refine hk_getr hx hb hts hC_9 hown hW gx td_9 0 (by decide) rfl kw_364 ⟨rfl, rfl, rfl⟩ f_x_0 dX9_feedBytes_18 ?_
  refine lv_aload_n hx hb dX9_feedBytes_21 rfl (lv_at hl 1 rfl) ?_
  refine hk_geti hx hb hts hC_9 hown hW gx td_9 1 (by decide) rfl kw_365 ⟨rfl, rfl, rfl⟩ f_24 dX9_feedBytes_22 ?_
  refine lv_iload_n hx hb dX9_feedBytes_25 rfl (lv_at hl 2 rfl) ?_
  refine lv_iload_n hx hb dX9_feedBytes_26 rfl (lv_at hl 0 rfl) ?_
  refine lv_ishr hx hb dX9_feedBytes_27 ?_
  refine lv_topi (fun x_27 ex_27 => ?_)
  refine lv_i2b hx hb dX9_feedBytes_28 rfl ?_
  refine lv_topi (fun x_28 ex_28 => ?_)
  refine hk_bast hx hb hW gqt td_42 rfl (by decide) (y := _) rfl dX9_feedBytes_29 (fun H locs h_29 eh_29 hW hs => ?_)
  have f_x_0 := (hs.o gx trivial rfl).2.trans f_x_0
  have f_24 := (hs.o gx trivial rfl).1.trans f_24
  have hM := hM.tr (hs.mono (by decide))
  have gx := gx.S hs
  have gqt := gqt.S hs
  refine lv_aload_n hx hb dX9_feedBytes_30 rfl (lv_at hl 1 rfl) ?_
  refine lv_dup hx hb dX9_feedBytes_31 rfl ?_
  refine hk_geti hx hb hts hC_9 hown hW gx td_9 1 (by decide) rfl kw_365 ⟨rfl, rfl, rfl⟩ f_24 dX9_feedBytes_32 ?_
  refine lv_iconst (v := 1) hx hb dX9_feedBytes_35 (by decide) ?_
  refine lv_iadd hx hb dX9_feedBytes_36 ?_
  refine lv_topi (fun x_30 ex_30 => ?_)
  obtain rfl : x_30 = (8 : Int32) := ex_30.trans (by decide)
  refine hk_puti hx hb hts hC_9 hown hW gx td_9 1 (by decide) rfl kw_365 ⟨rfl, rfl, rfl⟩ rfl (x := (8 : Int32)) rfl rfl rfl dX9_feedBytes_37 (fun H locs h_31 eh_31 hW hs => ?_)
  have f_x_0 := (hs.o gx trivial rfl).2.trans f_x_0
  have hM := hM.tr (hs.mono (by decide))
  have gx := gx.S hs
  have gqt := gqt.S hs
  have f_32 : h_31.2.1 x 1 = (8 : Int32) := by rw [eh_31]; exact hx_pi_at _ _ _ _
  refine lv_iinc (v := -8) (lv' := [(2, .int (-8 : Int32)), (0, .ref x), (1, .int i1)]) hx hb dX9_feedBytes_40 hl (k := 0) rfl (by decide) (by decide) rfl (fun ls hl => ?_)
  refine lv_goto (tgt := 3) hx hb dX9_feedBytes_43 (by decide) ?_
  refine lv_iload_n hx hb dX9_feedBytes_3 rfl (lv_at hl 0 rfl) ?_
  refine hb_if_lt (zx := (-8)) (tgt := 46) hx hb (by decide) dX9_feedBytes_4 (by decide) (fun c_33 => ?_) (fun c_33 => absurd c_33 (by decide))
  exact hx_retv hx hb hr hlk hW ⟨hM, f_32⟩ dX9_feedBytes_46


set_option maxHeartbeats 4000000 in
set_option maxRecDepth 100000 in
theorem c_X10_four_4 (l : Launch) (dC : Nat → ClassId) (dI : Nat → Nat → Nat) (dA : Nat → ClassId) (L : List Nat) (h : hx_h) (sz : Nat) (y : Nat) (i1 : Int32) (gy : hx_g L h y 10) (f_y_7 : h.2.1 y 7 = 4) (qt : Nat) (gqt : hx_g L h qt 53) (f_y_6 : h.2.2 y 6 = some qt) : Met l yX10_four (Cond.code yX10_four cX10_four 3 none :: hx_all) ({ frames := 0, cells := 0, slots := 0, locals := 0 }) (va_Pc [.ref y, .int i1] (hx_B P_tb (P_ty dA) (dC, dI) vwCl L h sz)) (va_Qv (fun (u : List Nat × hx_h) => hx_S P_tb [(10, 7), (53, 0)] L h u.1 u.2 ∧ u.2.2.1 y 7 = (8 : Int32)) (hx_E P_tb (P_ty dA) (dC, dI) vwCl (hx_A L sz)) (hx_A L sz)) 0 0 (hx_A L sz) := by
  refine hx_met (lv := [(0, .ref y), (1, .int i1)]) (by decide +kernel) rfl (Nat.le_of_ble_eq_true rfl) rfl ?_
  intro p e s m below meth c hx hb hml hr hlk hts0 hown hin hsz hW ls hl
  have hts : ∀ w ∈ hx_all, w.before _ s = true := fun w hw => hts0 w (List.mem_cons_of_mem _ hw)
  have hown : s.vm.findClass "SmallCourtModel" = some m.cls := hown
  have hM : hx_S P_tb [(10, 7), (53, 0)] L h L h := hx_S.rf
  refine lv_bipush (v := 24) hx hb dX10_four_0 (by decide) ?_
  refine lv_istore_n (lv' := [(2, .int (24 : Int32)), (0, .ref y), (1, .int i1)]) hx hb dX10_four_2 rfl hl (by decide) rfl (fun ls hl => ?_)
  refine lv_iload_n hx hb dX10_four_3 rfl (lv_at hl 0 rfl) ?_
  refine hb_if_lt (zx := 24) (tgt := 36) hx hb (by decide) dX10_four_4 (by decide) (fun c_1 => absurd c_1 (by decide)) (fun c_1 => ?_)
  refine lv_aload_n hx hb dX10_four_7 rfl (lv_at hl 1 rfl) ?_
  refine hk_getr hx hb hts hC_10 hown hW gy td_10 6 (by decide) rfl kw_1149 ⟨rfl, rfl, rfl⟩ f_y_6 dX10_four_8 ?_
  refine lv_aload_n hx hb dX10_four_11 rfl (lv_at hl 1 rfl) ?_
  refine hk_geti hx hb hts hC_10 hown hW gy td_10 7 (by decide) rfl kw_1150 ⟨rfl, rfl, rfl⟩ f_y_7 dX10_four_12 ?_
  refine lv_iload_n hx hb dX10_four_15 rfl (lv_at hl 2 rfl) ?_
  refine lv_iload_n hx hb dX10_four_16 rfl (lv_at hl 0 rfl) ?_
  refine lv_ishr hx hb dX10_four_17 ?_
  refine lv_topi (fun x_2 ex_2 => ?_)
  refine lv_i2b hx hb dX10_four_18 rfl ?_
  refine lv_topi (fun x_3 ex_3 => ?_)
  refine hk_bast hx hb hW gqt td_53 rfl (by decide) (y := _) rfl dX10_four_19 (fun H locs h_4 eh_4 hW hs => ?_)
  have f_y_7 := (hs.o gy trivial rfl).1.trans f_y_7
  have f_y_6 := (hs.o gy trivial rfl).2.trans f_y_6
  have hM := hM.tr (hs.mono (by decide))
  have gy := gy.S hs
  have gqt := gqt.S hs
  refine lv_aload_n hx hb dX10_four_20 rfl (lv_at hl 1 rfl) ?_
  refine lv_dup hx hb dX10_four_21 rfl ?_
  refine hk_geti hx hb hts hC_10 hown hW gy td_10 7 (by decide) rfl kw_1150 ⟨rfl, rfl, rfl⟩ f_y_7 dX10_four_22 ?_
  refine lv_iconst (v := 1) hx hb dX10_four_25 (by decide) ?_
  refine lv_iadd hx hb dX10_four_26 ?_
  refine lv_topi (fun x_5 ex_5 => ?_)
  obtain rfl : x_5 = (5 : Int32) := ex_5.trans (by decide)
  refine hk_puti hx hb hts hC_10 hown hW gy td_10 7 (by decide) rfl kw_1150 ⟨rfl, rfl, rfl⟩ rfl (x := (5 : Int32)) rfl rfl rfl dX10_four_27 (fun H locs h_6 eh_6 hW hs => ?_)
  have f_y_6 := (hs.o gy trivial rfl).2.trans f_y_6
  have hM := hM.tr (hs.mono (by decide))
  have gy := gy.S hs
  have gqt := gqt.S hs
  have f_7 : h_6.2.1 y 7 = (5 : Int32) := by rw [eh_6]; exact hx_pi_at _ _ _ _
  refine lv_iinc (v := 16) (lv' := [(2, .int (16 : Int32)), (0, .ref y), (1, .int i1)]) hx hb dX10_four_30 hl (k := 0) rfl (by decide) (by decide) rfl (fun ls hl => ?_)
  refine lv_goto (tgt := 3) hx hb dX10_four_33 (by decide) ?_
  refine lv_iload_n hx hb dX10_four_3 rfl (lv_at hl 0 rfl) ?_
  refine hb_if_lt (zx := 16) (tgt := 36) hx hb (by decide) dX10_four_4 (by decide) (fun c_8 => absurd c_8 (by decide)) (fun c_8 => ?_)
  refine lv_aload_n hx hb dX10_four_7 rfl (lv_at hl 1 rfl) ?_
  refine hk_getr hx hb hts hC_10 hown hW gy td_10 6 (by decide) rfl kw_1149 ⟨rfl, rfl, rfl⟩ f_y_6 dX10_four_8 ?_
  refine lv_aload_n hx hb dX10_four_11 rfl (lv_at hl 1 rfl) ?_
  refine hk_geti hx hb hts hC_10 hown hW gy td_10 7 (by decide) rfl kw_1150 ⟨rfl, rfl, rfl⟩ f_7 dX10_four_12 ?_
  refine lv_iload_n hx hb dX10_four_15 rfl (lv_at hl 2 rfl) ?_
  refine lv_iload_n hx hb dX10_four_16 rfl (lv_at hl 0 rfl) ?_
  refine lv_ishr hx hb dX10_four_17 ?_
  refine lv_topi (fun x_9 ex_9 => ?_)
  refine lv_i2b hx hb dX10_four_18 rfl ?_
  refine lv_topi (fun x_10 ex_10 => ?_)
  refine hk_bast hx hb hW gqt td_53 rfl (by decide) (y := _) rfl dX10_four_19 (fun H locs h_11 eh_11 hW hs => ?_)
  have f_y_6 := (hs.o gy trivial rfl).2.trans f_y_6
  have f_7 := (hs.o gy trivial rfl).1.trans f_7
  have hM := hM.tr (hs.mono (by decide))
  have gy := gy.S hs
  have gqt := gqt.S hs
  refine lv_aload_n hx hb dX10_four_20 rfl (lv_at hl 1 rfl) ?_
  refine lv_dup hx hb dX10_four_21 rfl ?_
  refine hk_geti hx hb hts hC_10 hown hW gy td_10 7 (by decide) rfl kw_1150 ⟨rfl, rfl, rfl⟩ f_7 dX10_four_22 ?_
  refine lv_iconst (v := 1) hx hb dX10_four_25 (by decide) ?_
  refine lv_iadd hx hb dX10_four_26 ?_
  refine lv_topi (fun x_12 ex_12 => ?_)
  obtain rfl : x_12 = (6 : Int32) := ex_12.trans (by decide)
  refine hk_puti hx hb hts hC_10 hown hW gy td_10 7 (by decide) rfl kw_1150 ⟨rfl, rfl, rfl⟩ rfl (x := (6 : Int32)) rfl rfl rfl dX10_four_27 (fun H locs h_13 eh_13 hW hs => ?_)
  have f_y_6 := (hs.o gy trivial rfl).2.trans f_y_6
  have hM := hM.tr (hs.mono (by decide))
  have gy := gy.S hs
  have gqt := gqt.S hs
  have f_14 : h_13.2.1 y 7 = (6 : Int32) := by rw [eh_13]; exact hx_pi_at _ _ _ _
  refine lv_iinc (v := 8) (lv' := [(2, .int (8 : Int32)), (0, .ref y), (1, .int i1)]) hx hb dX10_four_30 hl (k := 0) rfl (by decide) (by decide) rfl (fun ls hl => ?_)
  refine lv_goto (tgt := 3) hx hb dX10_four_33 (by decide) ?_
  refine lv_iload_n hx hb dX10_four_3 rfl (lv_at hl 0 rfl) ?_
  refine hb_if_lt (zx := 8) (tgt := 36) hx hb (by decide) dX10_four_4 (by decide) (fun c_15 => absurd c_15 (by decide)) (fun c_15 => ?_)
  refine lv_aload_n hx hb dX10_four_7 rfl (lv_at hl 1 rfl) ?_
  refine hk_getr hx hb hts hC_10 hown hW gy td_10 6 (by decide) rfl kw_1149 ⟨rfl, rfl, rfl⟩ f_y_6 dX10_four_8 ?_
  refine lv_aload_n hx hb dX10_four_11 rfl (lv_at hl 1 rfl) ?_
  refine hk_geti hx hb hts hC_10 hown hW gy td_10 7 (by decide) rfl kw_1150 ⟨rfl, rfl, rfl⟩ f_14 dX10_four_12 ?_
  refine lv_iload_n hx hb dX10_four_15 rfl (lv_at hl 2 rfl) ?_
  refine lv_iload_n hx hb dX10_four_16 rfl (lv_at hl 0 rfl) ?_
  refine lv_ishr hx hb dX10_four_17 ?_
  refine lv_topi (fun x_16 ex_16 => ?_)
  refine lv_i2b hx hb dX10_four_18 rfl ?_
  refine lv_topi (fun x_17 ex_17 => ?_)
  refine hk_bast hx hb hW gqt td_53 rfl (by decide) (y := _) rfl dX10_four_19 (fun H locs h_18 eh_18 hW hs => ?_)
  have f_y_6 := (hs.o gy trivial rfl).2.trans f_y_6
  have f_14 := (hs.o gy trivial rfl).1.trans f_14
  have hM := hM.tr (hs.mono (by decide))
  have gy := gy.S hs
  have gqt := gqt.S hs
  refine lv_aload_n hx hb dX10_four_20 rfl (lv_at hl 1 rfl) ?_
  refine lv_dup hx hb dX10_four_21 rfl ?_
  refine hk_geti hx hb hts hC_10 hown hW gy td_10 7 (by decide) rfl kw_1150 ⟨rfl, rfl, rfl⟩ f_14 dX10_four_22 ?_
  refine lv_iconst (v := 1) hx hb dX10_four_25 (by decide) ?_
  refine lv_iadd hx hb dX10_four_26 ?_
  refine lv_topi (fun x_19 ex_19 => ?_)
  obtain rfl : x_19 = (7 : Int32) := ex_19.trans (by decide)
  refine hk_puti hx hb hts hC_10 hown hW gy td_10 7 (by decide) rfl kw_1150 ⟨rfl, rfl, rfl⟩ rfl (x := (7 : Int32)) rfl rfl rfl dX10_four_27 (fun H locs h_20 eh_20 hW hs => ?_)
  have f_y_6 := (hs.o gy trivial rfl).2.trans f_y_6
  have hM := hM.tr (hs.mono (by decide))
  have gy := gy.S hs
  have gqt := gqt.S hs
  have f_21 : h_20.2.1 y 7 = (7 : Int32) := by rw [eh_20]; exact hx_pi_at _ _ _ _
  refine lv_iinc (v := 0) (lv' := [(2, .int (0 : Int32)), (0, .ref y), (1, .int i1)]) hx hb dX10_four_30 hl (k := 0) rfl (by decide) (by decide) rfl (fun ls hl => ?_)
  refine lv_goto (tgt := 3) hx hb dX10_four_33 (by decide) ?_
  refine lv_iload_n hx hb dX10_four_3 rfl (lv_at hl 0 rfl) ?_
  refine hb_if_lt (zx := 0) (tgt := 36) hx hb (by decide) dX10_four_4 (by decide) (fun c_22 => absurd c_22 (by decide)) (fun c_22 => ?_)
  refine lv_aload_n hx hb dX10_four_7 rfl (lv_at hl 1 rfl) ?_
  refine hk_getr hx hb hts hC_10 hown hW gy td_10 6 (by decide) rfl kw_1149 ⟨rfl, rfl, rfl⟩ f_y_6 dX10_four_8 ?_
  refine lv_aload_n hx hb dX10_four_11 rfl (lv_at hl 1 rfl) ?_
  refine hk_geti hx hb hts hC_10 hown hW gy td_10 7 (by decide) rfl kw_1150 ⟨rfl, rfl, rfl⟩ f_21 dX10_four_12 ?_
  refine lv_iload_n hx hb dX10_four_15 rfl (lv_at hl 2 rfl) ?_
  refine lv_iload_n hx hb dX10_four_16 rfl (lv_at hl 0 rfl) ?_
  refine lv_ishr hx hb dX10_four_17 ?_
  refine lv_topi (fun x_23 ex_23 => ?_)
  refine lv_i2b hx hb dX10_four_18 rfl ?_
  refine lv_topi (fun x_24 ex_24 => ?_)
  refine hk_bast hx hb hW gqt td_53 rfl (by decide) (y := _) rfl dX10_four_19 (fun H locs h_25 eh_25 hW hs => ?_)
  have f_y_6 := (hs.o gy trivial rfl).2.trans f_y_6
  have f_21 := (hs.o gy trivial rfl).1.trans f_21
  have hM := hM.tr (hs.mono (by decide))
  have gy := gy.S hs
  have gqt := gqt.S hs
  refine lv_aload_n hx hb dX10_four_20 rfl (lv_at hl 1 rfl) ?_
  refine lv_dup hx hb dX10_four_21 rfl ?_
  refine hk_geti hx hb hts hC_10 hown hW gy td_10 7 (by decide) rfl kw_1150 ⟨rfl, rfl, rfl⟩ f_21 dX10_four_22 ?_
  refine lv_iconst (v := 1) hx hb dX10_four_25 (by decide) ?_
  refine lv_iadd hx hb dX10_four_26 ?_
  refine lv_topi (fun x_26 ex_26 => ?_)
  obtain rfl : x_26 = (8 : Int32) := ex_26.trans (by decide)
  refine hk_puti hx hb hts hC_10 hown hW gy td_10 7 (by decide) rfl kw_1150 ⟨rfl, rfl, rfl⟩ rfl (x := (8 : Int32)) rfl rfl rfl dX10_four_27 (fun H locs h_27 eh_27 hW hs => ?_)
  have f_y_6 := (hs.o gy trivial rfl).2.trans f_y_6
  have hM := hM.tr (hs.mono (by decide))
  have gy := gy.S hs
  have gqt := gqt.S hs
  have f_28 : h_27.2.1 y 7 = (8 : Int32) := by rw [eh_27]; exact hx_pi_at _ _ _ _
  refine lv_iinc (v := -8) (lv' := [(2, .int (-8 : Int32)), (0, .ref y), (1, .int i1)]) hx hb dX10_four_30 hl (k := 0) rfl (by decide) (by decide) rfl (fun ls hl => ?_)
  refine lv_goto (tgt := 3) hx hb dX10_four_33 (by decide) ?_
  refine lv_iload_n hx hb dX10_four_3 rfl (lv_at hl 0 rfl) ?_
  refine hb_if_lt (zx := (-8)) (tgt := 36) hx hb (by decide) dX10_four_4 (by decide) (fun c_29 => ?_) (fun c_29 => absurd c_29 (by decide))
  exact hx_retv hx hb hr hlk hW ⟨hM, f_28⟩ dX10_four_36


set_option maxHeartbeats 4000000 in
set_option maxRecDepth 100000 in
theorem c_X9_feedBytes_8 (l : Launch) (dC : Nat → ClassId) (dI : Nat → Nat → Nat) (dA : Nat → ClassId) (L : List Nat) (h : hx_h) (sz : Nat) (x : Nat) (i1 : Int32) (gx : hx_g L h x 9) (f_x_1 : h.2.1 x 1 = 8) (qt : Nat) (gqt : hx_g L h qt 42) (f_x_0 : h.2.2 x 0 = some qt) : Met l yX9_feedBytes (Cond.code yX9_feedBytes cX9_feedBytes 3 none :: hx_all) ({ frames := 0, cells := 0, slots := 0, locals := 0 }) (va_Pc [.ref x, .int i1] (hx_B P_tb (P_ty dA) (dC, dI) vwCl L h sz)) (va_Qv (fun (u : List Nat × hx_h) => hx_S P_tb [(9, 1), (42, 0)] L h u.1 u.2 ∧ u.2.2.1 x 1 = (12 : Int32)) (hx_E P_tb (P_ty dA) (dC, dI) vwCl (hx_A L sz)) (hx_A L sz)) 0 0 (hx_A L sz) := by
  refine hx_met (lv := [(0, .ref x), (1, .int i1)]) (by decide +kernel) rfl (Nat.le_of_ble_eq_true rfl) rfl ?_
  intro p e s m below meth c hx hb hml hr hlk hts0 hown hin hsz hW ls hl
  have hts : ∀ w ∈ hx_all, w.before _ s = true := fun w hw => hts0 w (List.mem_cons_of_mem _ hw)
  have hown : s.vm.findClass "SmallCourt" = some m.cls := hown
  have hM : hx_S P_tb [(9, 1), (42, 0)] L h L h := hx_S.rf
  refine lv_bipush (v := 24) hx hb dX9_feedBytes_0 (by decide) ?_
  refine lv_istore_n (lv' := [(2, .int (24 : Int32)), (0, .ref x), (1, .int i1)]) hx hb dX9_feedBytes_2 rfl hl (by decide) rfl (fun ls hl => ?_)
  refine lv_iload_n hx hb dX9_feedBytes_3 rfl (lv_at hl 0 rfl) ?_
  refine hb_if_lt (zx := 24) (tgt := 46) hx hb (by decide) dX9_feedBytes_4 (by decide) (fun c_1 => absurd c_1 (by decide)) (fun c_1 => ?_)
  refine lv_aload_n hx hb dX9_feedBytes_7 rfl (lv_at hl 1 rfl) ?_
  refine hk_geti hx hb hts hC_9 hown hW gx td_9 1 (by decide) rfl kw_365 ⟨rfl, rfl, rfl⟩ f_x_1 dX9_feedBytes_8 ?_
  refine lv_sipush (v := 400) hx hb dX9_feedBytes_11 (by decide) ?_
  refine hb_icmp_ge (zx := 8) (zy := 400) (tgt := 46) hx hb (by decide) (by decide) dX9_feedBytes_14 (by decide) (fun c_2 => absurd c_2 (by decide)) (fun c_2 => ?_)
  refine lv_aload_n hx hb dX9_feedBytes_17 rfl (lv_at hl 1 rfl) ?_
  refine hk_getr hx hb hts hC_9 hown hW gx td_9 0 (by decide) rfl kw_364 ⟨rfl, rfl, rfl⟩ f_x_0 dX9_feedBytes_18 ?_
  refine lv_aload_n hx hb dX9_feedBytes_21 rfl (lv_at hl 1 rfl) ?_
  refine hk_geti hx hb hts hC_9 hown hW gx td_9 1 (by decide) rfl kw_365 ⟨rfl, rfl, rfl⟩ f_x_1 dX9_feedBytes_22 ?_
  refine lv_iload_n hx hb dX9_feedBytes_25 rfl (lv_at hl 2 rfl) ?_
  refine lv_iload_n hx hb dX9_feedBytes_26 rfl (lv_at hl 0 rfl) ?_
  refine lv_ishr hx hb dX9_feedBytes_27 ?_
  refine lv_topi (fun x_3 ex_3 => ?_)
  refine lv_i2b hx hb dX9_feedBytes_28 rfl ?_
  refine lv_topi (fun x_4 ex_4 => ?_)
  refine hk_bast hx hb hW gqt td_42 rfl (by decide) (y := _) rfl dX9_feedBytes_29 (fun H locs h_5 eh_5 hW hs => ?_)
  have f_x_1 := (hs.o gx trivial rfl).1.trans f_x_1
  have f_x_0 := (hs.o gx trivial rfl).2.trans f_x_0
  have hM := hM.tr (hs.mono (by decide))
  have gx := gx.S hs
  have gqt := gqt.S hs
  refine lv_aload_n hx hb dX9_feedBytes_30 rfl (lv_at hl 1 rfl) ?_
  refine lv_dup hx hb dX9_feedBytes_31 rfl ?_
  refine hk_geti hx hb hts hC_9 hown hW gx td_9 1 (by decide) rfl kw_365 ⟨rfl, rfl, rfl⟩ f_x_1 dX9_feedBytes_32 ?_
  refine lv_iconst (v := 1) hx hb dX9_feedBytes_35 (by decide) ?_
  refine lv_iadd hx hb dX9_feedBytes_36 ?_
  refine lv_topi (fun x_6 ex_6 => ?_)
  obtain rfl : x_6 = (9 : Int32) := ex_6.trans (by decide)
  refine hk_puti hx hb hts hC_9 hown hW gx td_9 1 (by decide) rfl kw_365 ⟨rfl, rfl, rfl⟩ rfl (x := (9 : Int32)) rfl rfl rfl dX9_feedBytes_37 (fun H locs h_7 eh_7 hW hs => ?_)
  have f_x_0 := (hs.o gx trivial rfl).2.trans f_x_0
  have hM := hM.tr (hs.mono (by decide))
  have gx := gx.S hs
  have gqt := gqt.S hs
  have f_8 : h_7.2.1 x 1 = (9 : Int32) := by rw [eh_7]; exact hx_pi_at _ _ _ _
  refine lv_iinc (v := 16) (lv' := [(2, .int (16 : Int32)), (0, .ref x), (1, .int i1)]) hx hb dX9_feedBytes_40 hl (k := 0) rfl (by decide) (by decide) rfl (fun ls hl => ?_)
  refine lv_goto (tgt := 3) hx hb dX9_feedBytes_43 (by decide) ?_
  refine lv_iload_n hx hb dX9_feedBytes_3 rfl (lv_at hl 0 rfl) ?_
  refine hb_if_lt (zx := 16) (tgt := 46) hx hb (by decide) dX9_feedBytes_4 (by decide) (fun c_9 => absurd c_9 (by decide)) (fun c_9 => ?_)
  refine lv_aload_n hx hb dX9_feedBytes_7 rfl (lv_at hl 1 rfl) ?_
  refine hk_geti hx hb hts hC_9 hown hW gx td_9 1 (by decide) rfl kw_365 ⟨rfl, rfl, rfl⟩ f_8 dX9_feedBytes_8 ?_
  refine lv_sipush (v := 400) hx hb dX9_feedBytes_11 (by decide) ?_
  refine hb_icmp_ge (zx := 9) (zy := 400) (tgt := 46) hx hb (by decide) (by decide) dX9_feedBytes_14 (by decide) (fun c_10 => absurd c_10 (by decide)) (fun c_10 => ?_)
  refine lv_aload_n hx hb dX9_feedBytes_17 rfl (lv_at hl 1 rfl) ?_
  refine hk_getr hx hb hts hC_9 hown hW gx td_9 0 (by decide) rfl kw_364 ⟨rfl, rfl, rfl⟩ f_x_0 dX9_feedBytes_18 ?_
  refine lv_aload_n hx hb dX9_feedBytes_21 rfl (lv_at hl 1 rfl) ?_
  refine hk_geti hx hb hts hC_9 hown hW gx td_9 1 (by decide) rfl kw_365 ⟨rfl, rfl, rfl⟩ f_8 dX9_feedBytes_22 ?_
  refine lv_iload_n hx hb dX9_feedBytes_25 rfl (lv_at hl 2 rfl) ?_
  refine lv_iload_n hx hb dX9_feedBytes_26 rfl (lv_at hl 0 rfl) ?_
  refine lv_ishr hx hb dX9_feedBytes_27 ?_
  refine lv_topi (fun x_11 ex_11 => ?_)
  refine lv_i2b hx hb dX9_feedBytes_28 rfl ?_
  refine lv_topi (fun x_12 ex_12 => ?_)
  refine hk_bast hx hb hW gqt td_42 rfl (by decide) (y := _) rfl dX9_feedBytes_29 (fun H locs h_13 eh_13 hW hs => ?_)
  have f_x_0 := (hs.o gx trivial rfl).2.trans f_x_0
  have f_8 := (hs.o gx trivial rfl).1.trans f_8
  have hM := hM.tr (hs.mono (by decide))
  have gx := gx.S hs
  have gqt := gqt.S hs
  refine lv_aload_n hx hb dX9_feedBytes_30 rfl (lv_at hl 1 rfl) ?_
  refine lv_dup hx hb dX9_feedBytes_31 rfl ?_
  refine hk_geti hx hb hts hC_9 hown hW gx td_9 1 (by decide) rfl kw_365 ⟨rfl, rfl, rfl⟩ f_8 dX9_feedBytes_32 ?_
  refine lv_iconst (v := 1) hx hb dX9_feedBytes_35 (by decide) ?_
  refine lv_iadd hx hb dX9_feedBytes_36 ?_
  refine lv_topi (fun x_14 ex_14 => ?_)
  obtain rfl : x_14 = (10 : Int32) := ex_14.trans (by decide)
  refine hk_puti hx hb hts hC_9 hown hW gx td_9 1 (by decide) rfl kw_365 ⟨rfl, rfl, rfl⟩ rfl (x := (10 : Int32)) rfl rfl rfl dX9_feedBytes_37 (fun H locs h_15 eh_15 hW hs => ?_)
  have f_x_0 := (hs.o gx trivial rfl).2.trans f_x_0
  have hM := hM.tr (hs.mono (by decide))
  have gx := gx.S hs
  have gqt := gqt.S hs
  have f_16 : h_15.2.1 x 1 = (10 : Int32) := by rw [eh_15]; exact hx_pi_at _ _ _ _
  refine lv_iinc (v := 8) (lv' := [(2, .int (8 : Int32)), (0, .ref x), (1, .int i1)]) hx hb dX9_feedBytes_40 hl (k := 0) rfl (by decide) (by decide) rfl (fun ls hl => ?_)
  refine lv_goto (tgt := 3) hx hb dX9_feedBytes_43 (by decide) ?_
  refine lv_iload_n hx hb dX9_feedBytes_3 rfl (lv_at hl 0 rfl) ?_
  refine hb_if_lt (zx := 8) (tgt := 46) hx hb (by decide) dX9_feedBytes_4 (by decide) (fun c_17 => absurd c_17 (by decide)) (fun c_17 => ?_)
  refine lv_aload_n hx hb dX9_feedBytes_7 rfl (lv_at hl 1 rfl) ?_
  refine hk_geti hx hb hts hC_9 hown hW gx td_9 1 (by decide) rfl kw_365 ⟨rfl, rfl, rfl⟩ f_16 dX9_feedBytes_8 ?_
  refine lv_sipush (v := 400) hx hb dX9_feedBytes_11 (by decide) ?_
  refine hb_icmp_ge (zx := 10) (zy := 400) (tgt := 46) hx hb (by decide) (by decide) dX9_feedBytes_14 (by decide) (fun c_18 => absurd c_18 (by decide)) (fun c_18 => ?_)
  refine lv_aload_n hx hb dX9_feedBytes_17 rfl (lv_at hl 1 rfl) ?_
  refine hk_getr hx hb hts hC_9 hown hW gx td_9 0 (by decide) rfl kw_364 ⟨rfl, rfl, rfl⟩ f_x_0 dX9_feedBytes_18 ?_
  refine lv_aload_n hx hb dX9_feedBytes_21 rfl (lv_at hl 1 rfl) ?_
  refine hk_geti hx hb hts hC_9 hown hW gx td_9 1 (by decide) rfl kw_365 ⟨rfl, rfl, rfl⟩ f_16 dX9_feedBytes_22 ?_
  refine lv_iload_n hx hb dX9_feedBytes_25 rfl (lv_at hl 2 rfl) ?_
  refine lv_iload_n hx hb dX9_feedBytes_26 rfl (lv_at hl 0 rfl) ?_
  refine lv_ishr hx hb dX9_feedBytes_27 ?_
  refine lv_topi (fun x_19 ex_19 => ?_)
  refine lv_i2b hx hb dX9_feedBytes_28 rfl ?_
  refine lv_topi (fun x_20 ex_20 => ?_)
  refine hk_bast hx hb hW gqt td_42 rfl (by decide) (y := _) rfl dX9_feedBytes_29 (fun H locs h_21 eh_21 hW hs => ?_)
  have f_x_0 := (hs.o gx trivial rfl).2.trans f_x_0
  have f_16 := (hs.o gx trivial rfl).1.trans f_16
  have hM := hM.tr (hs.mono (by decide))
  have gx := gx.S hs
  have gqt := gqt.S hs
  refine lv_aload_n hx hb dX9_feedBytes_30 rfl (lv_at hl 1 rfl) ?_
  refine lv_dup hx hb dX9_feedBytes_31 rfl ?_
  refine hk_geti hx hb hts hC_9 hown hW gx td_9 1 (by decide) rfl kw_365 ⟨rfl, rfl, rfl⟩ f_16 dX9_feedBytes_32 ?_
  refine lv_iconst (v := 1) hx hb dX9_feedBytes_35 (by decide) ?_
  refine lv_iadd hx hb dX9_feedBytes_36 ?_
  refine lv_topi (fun x_22 ex_22 => ?_)
  obtain rfl : x_22 = (11 : Int32) := ex_22.trans (by decide)
  refine hk_puti hx hb hts hC_9 hown hW gx td_9 1 (by decide) rfl kw_365 ⟨rfl, rfl, rfl⟩ rfl (x := (11 : Int32)) rfl rfl rfl dX9_feedBytes_37 (fun H locs h_23 eh_23 hW hs => ?_)
  have f_x_0 := (hs.o gx trivial rfl).2.trans f_x_0
  have hM := hM.tr (hs.mono (by decide))
  have gx := gx.S hs
  have gqt := gqt.S hs
  have f_24 : h_23.2.1 x 1 = (11 : Int32) := by rw [eh_23]; exact hx_pi_at _ _ _ _
  refine lv_iinc (v := 0) (lv' := [(2, .int (0 : Int32)), (0, .ref x), (1, .int i1)]) hx hb dX9_feedBytes_40 hl (k := 0) rfl (by decide) (by decide) rfl (fun ls hl => ?_)
  refine lv_goto (tgt := 3) hx hb dX9_feedBytes_43 (by decide) ?_
  refine lv_iload_n hx hb dX9_feedBytes_3 rfl (lv_at hl 0 rfl) ?_
  refine hb_if_lt (zx := 0) (tgt := 46) hx hb (by decide) dX9_feedBytes_4 (by decide) (fun c_25 => absurd c_25 (by decide)) (fun c_25 => ?_)
  refine lv_aload_n hx hb dX9_feedBytes_7 rfl (lv_at hl 1 rfl) ?_
  refine hk_geti hx hb hts hC_9 hown hW gx td_9 1 (by decide) rfl kw_365 ⟨rfl, rfl, rfl⟩ f_24 dX9_feedBytes_8 ?_
  refine lv_sipush (v := 400) hx hb dX9_feedBytes_11 (by decide) ?_
  refine hb_icmp_ge (zx := 11) (zy := 400) (tgt := 46) hx hb (by decide) (by decide) dX9_feedBytes_14 (by decide) (fun c_26 => absurd c_26 (by decide)) (fun c_26 => ?_)
  refine lv_aload_n hx hb dX9_feedBytes_17 rfl (lv_at hl 1 rfl) ?_
  refine hk_getr hx hb hts hC_9 hown hW gx td_9 0 (by decide) rfl kw_364 ⟨rfl, rfl, rfl⟩ f_x_0 dX9_feedBytes_18 ?_
  refine lv_aload_n hx hb dX9_feedBytes_21 rfl (lv_at hl 1 rfl) ?_
  refine hk_geti hx hb hts hC_9 hown hW gx td_9 1 (by decide) rfl kw_365 ⟨rfl, rfl, rfl⟩ f_24 dX9_feedBytes_22 ?_
  refine lv_iload_n hx hb dX9_feedBytes_25 rfl (lv_at hl 2 rfl) ?_
  refine lv_iload_n hx hb dX9_feedBytes_26 rfl (lv_at hl 0 rfl) ?_
  refine lv_ishr hx hb dX9_feedBytes_27 ?_
  refine lv_topi (fun x_27 ex_27 => ?_)
  refine lv_i2b hx hb dX9_feedBytes_28 rfl ?_
  refine lv_topi (fun x_28 ex_28 => ?_)
  refine hk_bast hx hb hW gqt td_42 rfl (by decide) (y := _) rfl dX9_feedBytes_29 (fun H locs h_29 eh_29 hW hs => ?_)
  have f_x_0 := (hs.o gx trivial rfl).2.trans f_x_0
  have f_24 := (hs.o gx trivial rfl).1.trans f_24
  have hM := hM.tr (hs.mono (by decide))
  have gx := gx.S hs
  have gqt := gqt.S hs
  refine lv_aload_n hx hb dX9_feedBytes_30 rfl (lv_at hl 1 rfl) ?_
  refine lv_dup hx hb dX9_feedBytes_31 rfl ?_
  refine hk_geti hx hb hts hC_9 hown hW gx td_9 1 (by decide) rfl kw_365 ⟨rfl, rfl, rfl⟩ f_24 dX9_feedBytes_32 ?_
  refine lv_iconst (v := 1) hx hb dX9_feedBytes_35 (by decide) ?_
  refine lv_iadd hx hb dX9_feedBytes_36 ?_
  refine lv_topi (fun x_30 ex_30 => ?_)
  obtain rfl : x_30 = (12 : Int32) := ex_30.trans (by decide)
  refine hk_puti hx hb hts hC_9 hown hW gx td_9 1 (by decide) rfl kw_365 ⟨rfl, rfl, rfl⟩ rfl (x := (12 : Int32)) rfl rfl rfl dX9_feedBytes_37 (fun H locs h_31 eh_31 hW hs => ?_)
  have f_x_0 := (hs.o gx trivial rfl).2.trans f_x_0
  have hM := hM.tr (hs.mono (by decide))
  have gx := gx.S hs
  have gqt := gqt.S hs
  have f_32 : h_31.2.1 x 1 = (12 : Int32) := by rw [eh_31]; exact hx_pi_at _ _ _ _
  refine lv_iinc (v := -8) (lv' := [(2, .int (-8 : Int32)), (0, .ref x), (1, .int i1)]) hx hb dX9_feedBytes_40 hl (k := 0) rfl (by decide) (by decide) rfl (fun ls hl => ?_)
  refine lv_goto (tgt := 3) hx hb dX9_feedBytes_43 (by decide) ?_
  refine lv_iload_n hx hb dX9_feedBytes_3 rfl (lv_at hl 0 rfl) ?_
  refine hb_if_lt (zx := (-8)) (tgt := 46) hx hb (by decide) dX9_feedBytes_4 (by decide) (fun c_33 => ?_) (fun c_33 => absurd c_33 (by decide))
  exact hx_retv hx hb hr hlk hW ⟨hM, f_32⟩ dX9_feedBytes_46


set_option maxHeartbeats 4000000 in
set_option maxRecDepth 100000 in
theorem c_X10_four_8 (l : Launch) (dC : Nat → ClassId) (dI : Nat → Nat → Nat) (dA : Nat → ClassId) (L : List Nat) (h : hx_h) (sz : Nat) (y : Nat) (i1 : Int32) (gy : hx_g L h y 10) (f_y_7 : h.2.1 y 7 = 8) (qt : Nat) (gqt : hx_g L h qt 53) (f_y_6 : h.2.2 y 6 = some qt) : Met l yX10_four (Cond.code yX10_four cX10_four 3 none :: hx_all) ({ frames := 0, cells := 0, slots := 0, locals := 0 }) (va_Pc [.ref y, .int i1] (hx_B P_tb (P_ty dA) (dC, dI) vwCl L h sz)) (va_Qv (fun (u : List Nat × hx_h) => hx_S P_tb [(10, 7), (53, 0)] L h u.1 u.2 ∧ u.2.2.1 y 7 = (12 : Int32)) (hx_E P_tb (P_ty dA) (dC, dI) vwCl (hx_A L sz)) (hx_A L sz)) 0 0 (hx_A L sz) := by
  refine hx_met (lv := [(0, .ref y), (1, .int i1)]) (by decide +kernel) rfl (Nat.le_of_ble_eq_true rfl) rfl ?_
  intro p e s m below meth c hx hb hml hr hlk hts0 hown hin hsz hW ls hl
  have hts : ∀ w ∈ hx_all, w.before _ s = true := fun w hw => hts0 w (List.mem_cons_of_mem _ hw)
  have hown : s.vm.findClass "SmallCourtModel" = some m.cls := hown
  have hM : hx_S P_tb [(10, 7), (53, 0)] L h L h := hx_S.rf
  refine lv_bipush (v := 24) hx hb dX10_four_0 (by decide) ?_
  refine lv_istore_n (lv' := [(2, .int (24 : Int32)), (0, .ref y), (1, .int i1)]) hx hb dX10_four_2 rfl hl (by decide) rfl (fun ls hl => ?_)
  refine lv_iload_n hx hb dX10_four_3 rfl (lv_at hl 0 rfl) ?_
  refine hb_if_lt (zx := 24) (tgt := 36) hx hb (by decide) dX10_four_4 (by decide) (fun c_1 => absurd c_1 (by decide)) (fun c_1 => ?_)
  refine lv_aload_n hx hb dX10_four_7 rfl (lv_at hl 1 rfl) ?_
  refine hk_getr hx hb hts hC_10 hown hW gy td_10 6 (by decide) rfl kw_1149 ⟨rfl, rfl, rfl⟩ f_y_6 dX10_four_8 ?_
  refine lv_aload_n hx hb dX10_four_11 rfl (lv_at hl 1 rfl) ?_
  refine hk_geti hx hb hts hC_10 hown hW gy td_10 7 (by decide) rfl kw_1150 ⟨rfl, rfl, rfl⟩ f_y_7 dX10_four_12 ?_
  refine lv_iload_n hx hb dX10_four_15 rfl (lv_at hl 2 rfl) ?_
  refine lv_iload_n hx hb dX10_four_16 rfl (lv_at hl 0 rfl) ?_
  refine lv_ishr hx hb dX10_four_17 ?_
  refine lv_topi (fun x_2 ex_2 => ?_)
  refine lv_i2b hx hb dX10_four_18 rfl ?_
  refine lv_topi (fun x_3 ex_3 => ?_)
  refine hk_bast hx hb hW gqt td_53 rfl (by decide) (y := _) rfl dX10_four_19 (fun H locs h_4 eh_4 hW hs => ?_)
  have f_y_7 := (hs.o gy trivial rfl).1.trans f_y_7
  have f_y_6 := (hs.o gy trivial rfl).2.trans f_y_6
  have hM := hM.tr (hs.mono (by decide))
  have gy := gy.S hs
  have gqt := gqt.S hs
  refine lv_aload_n hx hb dX10_four_20 rfl (lv_at hl 1 rfl) ?_
  refine lv_dup hx hb dX10_four_21 rfl ?_
  refine hk_geti hx hb hts hC_10 hown hW gy td_10 7 (by decide) rfl kw_1150 ⟨rfl, rfl, rfl⟩ f_y_7 dX10_four_22 ?_
  refine lv_iconst (v := 1) hx hb dX10_four_25 (by decide) ?_
  refine lv_iadd hx hb dX10_four_26 ?_
  refine lv_topi (fun x_5 ex_5 => ?_)
  obtain rfl : x_5 = (9 : Int32) := ex_5.trans (by decide)
  refine hk_puti hx hb hts hC_10 hown hW gy td_10 7 (by decide) rfl kw_1150 ⟨rfl, rfl, rfl⟩ rfl (x := (9 : Int32)) rfl rfl rfl dX10_four_27 (fun H locs h_6 eh_6 hW hs => ?_)
  have f_y_6 := (hs.o gy trivial rfl).2.trans f_y_6
  have hM := hM.tr (hs.mono (by decide))
  have gy := gy.S hs
  have gqt := gqt.S hs
  have f_7 : h_6.2.1 y 7 = (9 : Int32) := by rw [eh_6]; exact hx_pi_at _ _ _ _
  refine lv_iinc (v := 16) (lv' := [(2, .int (16 : Int32)), (0, .ref y), (1, .int i1)]) hx hb dX10_four_30 hl (k := 0) rfl (by decide) (by decide) rfl (fun ls hl => ?_)
  refine lv_goto (tgt := 3) hx hb dX10_four_33 (by decide) ?_
  refine lv_iload_n hx hb dX10_four_3 rfl (lv_at hl 0 rfl) ?_
  refine hb_if_lt (zx := 16) (tgt := 36) hx hb (by decide) dX10_four_4 (by decide) (fun c_8 => absurd c_8 (by decide)) (fun c_8 => ?_)
  refine lv_aload_n hx hb dX10_four_7 rfl (lv_at hl 1 rfl) ?_
  refine hk_getr hx hb hts hC_10 hown hW gy td_10 6 (by decide) rfl kw_1149 ⟨rfl, rfl, rfl⟩ f_y_6 dX10_four_8 ?_
  refine lv_aload_n hx hb dX10_four_11 rfl (lv_at hl 1 rfl) ?_
  refine hk_geti hx hb hts hC_10 hown hW gy td_10 7 (by decide) rfl kw_1150 ⟨rfl, rfl, rfl⟩ f_7 dX10_four_12 ?_
  refine lv_iload_n hx hb dX10_four_15 rfl (lv_at hl 2 rfl) ?_
  refine lv_iload_n hx hb dX10_four_16 rfl (lv_at hl 0 rfl) ?_
  refine lv_ishr hx hb dX10_four_17 ?_
  refine lv_topi (fun x_9 ex_9 => ?_)
  refine lv_i2b hx hb dX10_four_18 rfl ?_
  refine lv_topi (fun x_10 ex_10 => ?_)
  refine hk_bast hx hb hW gqt td_53 rfl (by decide) (y := _) rfl dX10_four_19 (fun H locs h_11 eh_11 hW hs => ?_)
  have f_y_6 := (hs.o gy trivial rfl).2.trans f_y_6
  have f_7 := (hs.o gy trivial rfl).1.trans f_7
  have hM := hM.tr (hs.mono (by decide))
  have gy := gy.S hs
  have gqt := gqt.S hs
  refine lv_aload_n hx hb dX10_four_20 rfl (lv_at hl 1 rfl) ?_
  refine lv_dup hx hb dX10_four_21 rfl ?_
  refine hk_geti hx hb hts hC_10 hown hW gy td_10 7 (by decide) rfl kw_1150 ⟨rfl, rfl, rfl⟩ f_7 dX10_four_22 ?_
  refine lv_iconst (v := 1) hx hb dX10_four_25 (by decide) ?_
  refine lv_iadd hx hb dX10_four_26 ?_
  refine lv_topi (fun x_12 ex_12 => ?_)
  obtain rfl : x_12 = (10 : Int32) := ex_12.trans (by decide)
  refine hk_puti hx hb hts hC_10 hown hW gy td_10 7 (by decide) rfl kw_1150 ⟨rfl, rfl, rfl⟩ rfl (x := (10 : Int32)) rfl rfl rfl dX10_four_27 (fun H locs h_13 eh_13 hW hs => ?_)
  have f_y_6 := (hs.o gy trivial rfl).2.trans f_y_6
  have hM := hM.tr (hs.mono (by decide))
  have gy := gy.S hs
  have gqt := gqt.S hs
  have f_14 : h_13.2.1 y 7 = (10 : Int32) := by rw [eh_13]; exact hx_pi_at _ _ _ _
  refine lv_iinc (v := 8) (lv' := [(2, .int (8 : Int32)), (0, .ref y), (1, .int i1)]) hx hb dX10_four_30 hl (k := 0) rfl (by decide) (by decide) rfl (fun ls hl => ?_)
  refine lv_goto (tgt := 3) hx hb dX10_four_33 (by decide) ?_
  refine lv_iload_n hx hb dX10_four_3 rfl (lv_at hl 0 rfl) ?_
  refine hb_if_lt (zx := 8) (tgt := 36) hx hb (by decide) dX10_four_4 (by decide) (fun c_15 => absurd c_15 (by decide)) (fun c_15 => ?_)
  refine lv_aload_n hx hb dX10_four_7 rfl (lv_at hl 1 rfl) ?_
  refine hk_getr hx hb hts hC_10 hown hW gy td_10 6 (by decide) rfl kw_1149 ⟨rfl, rfl, rfl⟩ f_y_6 dX10_four_8 ?_
  refine lv_aload_n hx hb dX10_four_11 rfl (lv_at hl 1 rfl) ?_
  refine hk_geti hx hb hts hC_10 hown hW gy td_10 7 (by decide) rfl kw_1150 ⟨rfl, rfl, rfl⟩ f_14 dX10_four_12 ?_
  refine lv_iload_n hx hb dX10_four_15 rfl (lv_at hl 2 rfl) ?_
  refine lv_iload_n hx hb dX10_four_16 rfl (lv_at hl 0 rfl) ?_
  refine lv_ishr hx hb dX10_four_17 ?_
  refine lv_topi (fun x_16 ex_16 => ?_)
  refine lv_i2b hx hb dX10_four_18 rfl ?_
  refine lv_topi (fun x_17 ex_17 => ?_)
  refine hk_bast hx hb hW gqt td_53 rfl (by decide) (y := _) rfl dX10_four_19 (fun H locs h_18 eh_18 hW hs => ?_)
  have f_y_6 := (hs.o gy trivial rfl).2.trans f_y_6
  have f_14 := (hs.o gy trivial rfl).1.trans f_14
  have hM := hM.tr (hs.mono (by decide))
  have gy := gy.S hs
  have gqt := gqt.S hs
  refine lv_aload_n hx hb dX10_four_20 rfl (lv_at hl 1 rfl) ?_
  refine lv_dup hx hb dX10_four_21 rfl ?_
  refine hk_geti hx hb hts hC_10 hown hW gy td_10 7 (by decide) rfl kw_1150 ⟨rfl, rfl, rfl⟩ f_14 dX10_four_22 ?_
  refine lv_iconst (v := 1) hx hb dX10_four_25 (by decide) ?_
  refine lv_iadd hx hb dX10_four_26 ?_
  refine lv_topi (fun x_19 ex_19 => ?_)
  obtain rfl : x_19 = (11 : Int32) := ex_19.trans (by decide)
  refine hk_puti hx hb hts hC_10 hown hW gy td_10 7 (by decide) rfl kw_1150 ⟨rfl, rfl, rfl⟩ rfl (x := (11 : Int32)) rfl rfl rfl dX10_four_27 (fun H locs h_20 eh_20 hW hs => ?_)
  have f_y_6 := (hs.o gy trivial rfl).2.trans f_y_6
  have hM := hM.tr (hs.mono (by decide))
  have gy := gy.S hs
  have gqt := gqt.S hs
  have f_21 : h_20.2.1 y 7 = (11 : Int32) := by rw [eh_20]; exact hx_pi_at _ _ _ _
  refine lv_iinc (v := 0) (lv' := [(2, .int (0 : Int32)), (0, .ref y), (1, .int i1)]) hx hb dX10_four_30 hl (k := 0) rfl (by decide) (by decide) rfl (fun ls hl => ?_)
  refine lv_goto (tgt := 3) hx hb dX10_four_33 (by decide) ?_
  refine lv_iload_n hx hb dX10_four_3 rfl (lv_at hl 0 rfl) ?_
  refine hb_if_lt (zx := 0) (tgt := 36) hx hb (by decide) dX10_four_4 (by decide) (fun c_22 => absurd c_22 (by decide)) (fun c_22 => ?_)
  refine lv_aload_n hx hb dX10_four_7 rfl (lv_at hl 1 rfl) ?_
  refine hk_getr hx hb hts hC_10 hown hW gy td_10 6 (by decide) rfl kw_1149 ⟨rfl, rfl, rfl⟩ f_y_6 dX10_four_8 ?_
  refine lv_aload_n hx hb dX10_four_11 rfl (lv_at hl 1 rfl) ?_
  refine hk_geti hx hb hts hC_10 hown hW gy td_10 7 (by decide) rfl kw_1150 ⟨rfl, rfl, rfl⟩ f_21 dX10_four_12 ?_
  refine lv_iload_n hx hb dX10_four_15 rfl (lv_at hl 2 rfl) ?_
  refine lv_iload_n hx hb dX10_four_16 rfl (lv_at hl 0 rfl) ?_
  refine lv_ishr hx hb dX10_four_17 ?_
  refine lv_topi (fun x_23 ex_23 => ?_)
  refine lv_i2b hx hb dX10_four_18 rfl ?_
  refine lv_topi (fun x_24 ex_24 => ?_)
  refine hk_bast hx hb hW gqt td_53 rfl (by decide) (y := _) rfl dX10_four_19 (fun H locs h_25 eh_25 hW hs => ?_)
  have f_y_6 := (hs.o gy trivial rfl).2.trans f_y_6
  have f_21 := (hs.o gy trivial rfl).1.trans f_21
  have hM := hM.tr (hs.mono (by decide))
  have gy := gy.S hs
  have gqt := gqt.S hs
  refine lv_aload_n hx hb dX10_four_20 rfl (lv_at hl 1 rfl) ?_
  refine lv_dup hx hb dX10_four_21 rfl ?_
  refine hk_geti hx hb hts hC_10 hown hW gy td_10 7 (by decide) rfl kw_1150 ⟨rfl, rfl, rfl⟩ f_21 dX10_four_22 ?_
  refine lv_iconst (v := 1) hx hb dX10_four_25 (by decide) ?_
  refine lv_iadd hx hb dX10_four_26 ?_
  refine lv_topi (fun x_26 ex_26 => ?_)
  obtain rfl : x_26 = (12 : Int32) := ex_26.trans (by decide)
  refine hk_puti hx hb hts hC_10 hown hW gy td_10 7 (by decide) rfl kw_1150 ⟨rfl, rfl, rfl⟩ rfl (x := (12 : Int32)) rfl rfl rfl dX10_four_27 (fun H locs h_27 eh_27 hW hs => ?_)
  have f_y_6 := (hs.o gy trivial rfl).2.trans f_y_6
  have hM := hM.tr (hs.mono (by decide))
  have gy := gy.S hs
  have gqt := gqt.S hs
  have f_28 : h_27.2.1 y 7 = (12 : Int32) := by rw [eh_27]; exact hx_pi_at _ _ _ _
  refine lv_iinc (v := -8) (lv' := [(2, .int (-8 : Int32)), (0, .ref y), (1, .int i1)]) hx hb dX10_four_30 hl (k := 0) rfl (by decide) (by decide) rfl (fun ls hl => ?_)
  refine lv_goto (tgt := 3) hx hb dX10_four_33 (by decide) ?_
  refine lv_iload_n hx hb dX10_four_3 rfl (lv_at hl 0 rfl) ?_
  refine hb_if_lt (zx := (-8)) (tgt := 36) hx hb (by decide) dX10_four_4 (by decide) (fun c_29 => ?_) (fun c_29 => absurd c_29 (by decide))
  exact hx_retv hx hb hr hlk hW ⟨hM, f_28⟩ dX10_four_36


set_option maxHeartbeats 4000000 in
set_option maxRecDepth 100000 in
theorem c_X9_feedBytes_12 (l : Launch) (dC : Nat → ClassId) (dI : Nat → Nat → Nat) (dA : Nat → ClassId) (L : List Nat) (h : hx_h) (sz : Nat) (x : Nat) (i1 : Int32) (gx : hx_g L h x 9) (f_x_1 : h.2.1 x 1 = 12) (qt : Nat) (gqt : hx_g L h qt 42) (f_x_0 : h.2.2 x 0 = some qt) : Met l yX9_feedBytes (Cond.code yX9_feedBytes cX9_feedBytes 3 none :: hx_all) ({ frames := 0, cells := 0, slots := 0, locals := 0 }) (va_Pc [.ref x, .int i1] (hx_B P_tb (P_ty dA) (dC, dI) vwCl L h sz)) (va_Qv (fun (u : List Nat × hx_h) => hx_S P_tb [(9, 1), (42, 0)] L h u.1 u.2 ∧ u.2.2.1 x 1 = (16 : Int32)) (hx_E P_tb (P_ty dA) (dC, dI) vwCl (hx_A L sz)) (hx_A L sz)) 0 0 (hx_A L sz) := by
  refine hx_met (lv := [(0, .ref x), (1, .int i1)]) (by decide +kernel) rfl (Nat.le_of_ble_eq_true rfl) rfl ?_
  intro p e s m below meth c hx hb hml hr hlk hts0 hown hin hsz hW ls hl
  have hts : ∀ w ∈ hx_all, w.before _ s = true := fun w hw => hts0 w (List.mem_cons_of_mem _ hw)
  have hown : s.vm.findClass "SmallCourt" = some m.cls := hown
  have hM : hx_S P_tb [(9, 1), (42, 0)] L h L h := hx_S.rf
  refine lv_bipush (v := 24) hx hb dX9_feedBytes_0 (by decide) ?_
  refine lv_istore_n (lv' := [(2, .int (24 : Int32)), (0, .ref x), (1, .int i1)]) hx hb dX9_feedBytes_2 rfl hl (by decide) rfl (fun ls hl => ?_)
  refine lv_iload_n hx hb dX9_feedBytes_3 rfl (lv_at hl 0 rfl) ?_
  refine hb_if_lt (zx := 24) (tgt := 46) hx hb (by decide) dX9_feedBytes_4 (by decide) (fun c_1 => absurd c_1 (by decide)) (fun c_1 => ?_)
  refine lv_aload_n hx hb dX9_feedBytes_7 rfl (lv_at hl 1 rfl) ?_
  refine hk_geti hx hb hts hC_9 hown hW gx td_9 1 (by decide) rfl kw_365 ⟨rfl, rfl, rfl⟩ f_x_1 dX9_feedBytes_8 ?_
  refine lv_sipush (v := 400) hx hb dX9_feedBytes_11 (by decide) ?_
  refine hb_icmp_ge (zx := 12) (zy := 400) (tgt := 46) hx hb (by decide) (by decide) dX9_feedBytes_14 (by decide) (fun c_2 => absurd c_2 (by decide)) (fun c_2 => ?_)
  refine lv_aload_n hx hb dX9_feedBytes_17 rfl (lv_at hl 1 rfl) ?_
  refine hk_getr hx hb hts hC_9 hown hW gx td_9 0 (by decide) rfl kw_364 ⟨rfl, rfl, rfl⟩ f_x_0 dX9_feedBytes_18 ?_
  refine lv_aload_n hx hb dX9_feedBytes_21 rfl (lv_at hl 1 rfl) ?_
  refine hk_geti hx hb hts hC_9 hown hW gx td_9 1 (by decide) rfl kw_365 ⟨rfl, rfl, rfl⟩ f_x_1 dX9_feedBytes_22 ?_
  refine lv_iload_n hx hb dX9_feedBytes_25 rfl (lv_at hl 2 rfl) ?_
  refine lv_iload_n hx hb dX9_feedBytes_26 rfl (lv_at hl 0 rfl) ?_
  refine lv_ishr hx hb dX9_feedBytes_27 ?_
  refine lv_topi (fun x_3 ex_3 => ?_)
  refine lv_i2b hx hb dX9_feedBytes_28 rfl ?_
  refine lv_topi (fun x_4 ex_4 => ?_)
  refine hk_bast hx hb hW gqt td_42 rfl (by decide) (y := _) rfl dX9_feedBytes_29 (fun H locs h_5 eh_5 hW hs => ?_)
  have f_x_1 := (hs.o gx trivial rfl).1.trans f_x_1
  have f_x_0 := (hs.o gx trivial rfl).2.trans f_x_0
  have hM := hM.tr (hs.mono (by decide))
  have gx := gx.S hs
  have gqt := gqt.S hs
  refine lv_aload_n hx hb dX9_feedBytes_30 rfl (lv_at hl 1 rfl) ?_
  refine lv_dup hx hb dX9_feedBytes_31 rfl ?_
  refine hk_geti hx hb hts hC_9 hown hW gx td_9 1 (by decide) rfl kw_365 ⟨rfl, rfl, rfl⟩ f_x_1 dX9_feedBytes_32 ?_
  refine lv_iconst (v := 1) hx hb dX9_feedBytes_35 (by decide) ?_
  refine lv_iadd hx hb dX9_feedBytes_36 ?_
  refine lv_topi (fun x_6 ex_6 => ?_)
  obtain rfl : x_6 = (13 : Int32) := ex_6.trans (by decide)
  refine hk_puti hx hb hts hC_9 hown hW gx td_9 1 (by decide) rfl kw_365 ⟨rfl, rfl, rfl⟩ rfl (x := (13 : Int32)) rfl rfl rfl dX9_feedBytes_37 (fun H locs h_7 eh_7 hW hs => ?_)
  have f_x_0 := (hs.o gx trivial rfl).2.trans f_x_0
  have hM := hM.tr (hs.mono (by decide))
  have gx := gx.S hs
  have gqt := gqt.S hs
  have f_8 : h_7.2.1 x 1 = (13 : Int32) := by rw [eh_7]; exact hx_pi_at _ _ _ _
  refine lv_iinc (v := 16) (lv' := [(2, .int (16 : Int32)), (0, .ref x), (1, .int i1)]) hx hb dX9_feedBytes_40 hl (k := 0) rfl (by decide) (by decide) rfl (fun ls hl => ?_)
  refine lv_goto (tgt := 3) hx hb dX9_feedBytes_43 (by decide) ?_
  refine lv_iload_n hx hb dX9_feedBytes_3 rfl (lv_at hl 0 rfl) ?_
  refine hb_if_lt (zx := 16) (tgt := 46) hx hb (by decide) dX9_feedBytes_4 (by decide) (fun c_9 => absurd c_9 (by decide)) (fun c_9 => ?_)
  refine lv_aload_n hx hb dX9_feedBytes_7 rfl (lv_at hl 1 rfl) ?_
  refine hk_geti hx hb hts hC_9 hown hW gx td_9 1 (by decide) rfl kw_365 ⟨rfl, rfl, rfl⟩ f_8 dX9_feedBytes_8 ?_
  refine lv_sipush (v := 400) hx hb dX9_feedBytes_11 (by decide) ?_
  refine hb_icmp_ge (zx := 13) (zy := 400) (tgt := 46) hx hb (by decide) (by decide) dX9_feedBytes_14 (by decide) (fun c_10 => absurd c_10 (by decide)) (fun c_10 => ?_)
  refine lv_aload_n hx hb dX9_feedBytes_17 rfl (lv_at hl 1 rfl) ?_
  refine hk_getr hx hb hts hC_9 hown hW gx td_9 0 (by decide) rfl kw_364 ⟨rfl, rfl, rfl⟩ f_x_0 dX9_feedBytes_18 ?_
  refine lv_aload_n hx hb dX9_feedBytes_21 rfl (lv_at hl 1 rfl) ?_
  refine hk_geti hx hb hts hC_9 hown hW gx td_9 1 (by decide) rfl kw_365 ⟨rfl, rfl, rfl⟩ f_8 dX9_feedBytes_22 ?_
  refine lv_iload_n hx hb dX9_feedBytes_25 rfl (lv_at hl 2 rfl) ?_
  refine lv_iload_n hx hb dX9_feedBytes_26 rfl (lv_at hl 0 rfl) ?_
  refine lv_ishr hx hb dX9_feedBytes_27 ?_
  refine lv_topi (fun x_11 ex_11 => ?_)
  refine lv_i2b hx hb dX9_feedBytes_28 rfl ?_
  refine lv_topi (fun x_12 ex_12 => ?_)
  refine hk_bast hx hb hW gqt td_42 rfl (by decide) (y := _) rfl dX9_feedBytes_29 (fun H locs h_13 eh_13 hW hs => ?_)
  have f_x_0 := (hs.o gx trivial rfl).2.trans f_x_0
  have f_8 := (hs.o gx trivial rfl).1.trans f_8
  have hM := hM.tr (hs.mono (by decide))
  have gx := gx.S hs
  have gqt := gqt.S hs
  refine lv_aload_n hx hb dX9_feedBytes_30 rfl (lv_at hl 1 rfl) ?_
  refine lv_dup hx hb dX9_feedBytes_31 rfl ?_
  refine hk_geti hx hb hts hC_9 hown hW gx td_9 1 (by decide) rfl kw_365 ⟨rfl, rfl, rfl⟩ f_8 dX9_feedBytes_32 ?_
  refine lv_iconst (v := 1) hx hb dX9_feedBytes_35 (by decide) ?_
  refine lv_iadd hx hb dX9_feedBytes_36 ?_
  refine lv_topi (fun x_14 ex_14 => ?_)
  obtain rfl : x_14 = (14 : Int32) := ex_14.trans (by decide)
  refine hk_puti hx hb hts hC_9 hown hW gx td_9 1 (by decide) rfl kw_365 ⟨rfl, rfl, rfl⟩ rfl (x := (14 : Int32)) rfl rfl rfl dX9_feedBytes_37 (fun H locs h_15 eh_15 hW hs => ?_)
  have f_x_0 := (hs.o gx trivial rfl).2.trans f_x_0
  have hM := hM.tr (hs.mono (by decide))
  have gx := gx.S hs
  have gqt := gqt.S hs
  have f_16 : h_15.2.1 x 1 = (14 : Int32) := by rw [eh_15]; exact hx_pi_at _ _ _ _
  refine lv_iinc (v := 8) (lv' := [(2, .int (8 : Int32)), (0, .ref x), (1, .int i1)]) hx hb dX9_feedBytes_40 hl (k := 0) rfl (by decide) (by decide) rfl (fun ls hl => ?_)
  refine lv_goto (tgt := 3) hx hb dX9_feedBytes_43 (by decide) ?_
  refine lv_iload_n hx hb dX9_feedBytes_3 rfl (lv_at hl 0 rfl) ?_
  refine hb_if_lt (zx := 8) (tgt := 46) hx hb (by decide) dX9_feedBytes_4 (by decide) (fun c_17 => absurd c_17 (by decide)) (fun c_17 => ?_)
  refine lv_aload_n hx hb dX9_feedBytes_7 rfl (lv_at hl 1 rfl) ?_
  refine hk_geti hx hb hts hC_9 hown hW gx td_9 1 (by decide) rfl kw_365 ⟨rfl, rfl, rfl⟩ f_16 dX9_feedBytes_8 ?_
  refine lv_sipush (v := 400) hx hb dX9_feedBytes_11 (by decide) ?_
  refine hb_icmp_ge (zx := 14) (zy := 400) (tgt := 46) hx hb (by decide) (by decide) dX9_feedBytes_14 (by decide) (fun c_18 => absurd c_18 (by decide)) (fun c_18 => ?_)
  refine lv_aload_n hx hb dX9_feedBytes_17 rfl (lv_at hl 1 rfl) ?_
  refine hk_getr hx hb hts hC_9 hown hW gx td_9 0 (by decide) rfl kw_364 ⟨rfl, rfl, rfl⟩ f_x_0 dX9_feedBytes_18 ?_
  refine lv_aload_n hx hb dX9_feedBytes_21 rfl (lv_at hl 1 rfl) ?_
  refine hk_geti hx hb hts hC_9 hown hW gx td_9 1 (by decide) rfl kw_365 ⟨rfl, rfl, rfl⟩ f_16 dX9_feedBytes_22 ?_
  refine lv_iload_n hx hb dX9_feedBytes_25 rfl (lv_at hl 2 rfl) ?_
  refine lv_iload_n hx hb dX9_feedBytes_26 rfl (lv_at hl 0 rfl) ?_
  refine lv_ishr hx hb dX9_feedBytes_27 ?_
  refine lv_topi (fun x_19 ex_19 => ?_)
  refine lv_i2b hx hb dX9_feedBytes_28 rfl ?_
  refine lv_topi (fun x_20 ex_20 => ?_)
  refine hk_bast hx hb hW gqt td_42 rfl (by decide) (y := _) rfl dX9_feedBytes_29 (fun H locs h_21 eh_21 hW hs => ?_)
  have f_x_0 := (hs.o gx trivial rfl).2.trans f_x_0
  have f_16 := (hs.o gx trivial rfl).1.trans f_16
  have hM := hM.tr (hs.mono (by decide))
  have gx := gx.S hs
  have gqt := gqt.S hs
  refine lv_aload_n hx hb dX9_feedBytes_30 rfl (lv_at hl 1 rfl) ?_
  refine lv_dup hx hb dX9_feedBytes_31 rfl ?_
  refine hk_geti hx hb hts hC_9 hown hW gx td_9 1 (by decide) rfl kw_365 ⟨rfl, rfl, rfl⟩ f_16 dX9_feedBytes_32 ?_
  refine lv_iconst (v := 1) hx hb dX9_feedBytes_35 (by decide) ?_
  refine lv_iadd hx hb dX9_feedBytes_36 ?_
  refine lv_topi (fun x_22 ex_22 => ?_)
  obtain rfl : x_22 = (15 : Int32) := ex_22.trans (by decide)
  refine hk_puti hx hb hts hC_9 hown hW gx td_9 1 (by decide) rfl kw_365 ⟨rfl, rfl, rfl⟩ rfl (x := (15 : Int32)) rfl rfl rfl dX9_feedBytes_37 (fun H locs h_23 eh_23 hW hs => ?_)
  have f_x_0 := (hs.o gx trivial rfl).2.trans f_x_0
  have hM := hM.tr (hs.mono (by decide))
  have gx := gx.S hs
  have gqt := gqt.S hs
  have f_24 : h_23.2.1 x 1 = (15 : Int32) := by rw [eh_23]; exact hx_pi_at _ _ _ _
  refine lv_iinc (v := 0) (lv' := [(2, .int (0 : Int32)), (0, .ref x), (1, .int i1)]) hx hb dX9_feedBytes_40 hl (k := 0) rfl (by decide) (by decide) rfl (fun ls hl => ?_)
  refine lv_goto (tgt := 3) hx hb dX9_feedBytes_43 (by decide) ?_
  refine lv_iload_n hx hb dX9_feedBytes_3 rfl (lv_at hl 0 rfl) ?_
  refine hb_if_lt (zx := 0) (tgt := 46) hx hb (by decide) dX9_feedBytes_4 (by decide) (fun c_25 => absurd c_25 (by decide)) (fun c_25 => ?_)
  refine lv_aload_n hx hb dX9_feedBytes_7 rfl (lv_at hl 1 rfl) ?_
  refine hk_geti hx hb hts hC_9 hown hW gx td_9 1 (by decide) rfl kw_365 ⟨rfl, rfl, rfl⟩ f_24 dX9_feedBytes_8 ?_
  refine lv_sipush (v := 400) hx hb dX9_feedBytes_11 (by decide) ?_
  refine hb_icmp_ge (zx := 15) (zy := 400) (tgt := 46) hx hb (by decide) (by decide) dX9_feedBytes_14 (by decide) (fun c_26 => absurd c_26 (by decide)) (fun c_26 => ?_)
  refine lv_aload_n hx hb dX9_feedBytes_17 rfl (lv_at hl 1 rfl) ?_
  refine hk_getr hx hb hts hC_9 hown hW gx td_9 0 (by decide) rfl kw_364 ⟨rfl, rfl, rfl⟩ f_x_0 dX9_feedBytes_18 ?_
  refine lv_aload_n hx hb dX9_feedBytes_21 rfl (lv_at hl 1 rfl) ?_
  refine hk_geti hx hb hts hC_9 hown hW gx td_9 1 (by decide) rfl kw_365 ⟨rfl, rfl, rfl⟩ f_24 dX9_feedBytes_22 ?_
  refine lv_iload_n hx hb dX9_feedBytes_25 rfl (lv_at hl 2 rfl) ?_
  refine lv_iload_n hx hb dX9_feedBytes_26 rfl (lv_at hl 0 rfl) ?_
  refine lv_ishr hx hb dX9_feedBytes_27 ?_
  refine lv_topi (fun x_27 ex_27 => ?_)
  refine lv_i2b hx hb dX9_feedBytes_28 rfl ?_
  refine lv_topi (fun x_28 ex_28 => ?_)
  refine hk_bast hx hb hW gqt td_42 rfl (by decide) (y := _) rfl dX9_feedBytes_29 (fun H locs h_29 eh_29 hW hs => ?_)
  have f_x_0 := (hs.o gx trivial rfl).2.trans f_x_0
  have f_24 := (hs.o gx trivial rfl).1.trans f_24
  have hM := hM.tr (hs.mono (by decide))
  have gx := gx.S hs
  have gqt := gqt.S hs
  refine lv_aload_n hx hb dX9_feedBytes_30 rfl (lv_at hl 1 rfl) ?_
  refine lv_dup hx hb dX9_feedBytes_31 rfl ?_
  refine hk_geti hx hb hts hC_9 hown hW gx td_9 1 (by decide) rfl kw_365 ⟨rfl, rfl, rfl⟩ f_24 dX9_feedBytes_32 ?_
  refine lv_iconst (v := 1) hx hb dX9_feedBytes_35 (by decide) ?_
  refine lv_iadd hx hb dX9_feedBytes_36 ?_
  refine lv_topi (fun x_30 ex_30 => ?_)
  obtain rfl : x_30 = (16 : Int32) := ex_30.trans (by decide)
  refine hk_puti hx hb hts hC_9 hown hW gx td_9 1 (by decide) rfl kw_365 ⟨rfl, rfl, rfl⟩ rfl (x := (16 : Int32)) rfl rfl rfl dX9_feedBytes_37 (fun H locs h_31 eh_31 hW hs => ?_)
  have f_x_0 := (hs.o gx trivial rfl).2.trans f_x_0
  have hM := hM.tr (hs.mono (by decide))
  have gx := gx.S hs
  have gqt := gqt.S hs
  have f_32 : h_31.2.1 x 1 = (16 : Int32) := by rw [eh_31]; exact hx_pi_at _ _ _ _
  refine lv_iinc (v := -8) (lv' := [(2, .int (-8 : Int32)), (0, .ref x), (1, .int i1)]) hx hb dX9_feedBytes_40 hl (k := 0) rfl (by decide) (by decide) rfl (fun ls hl => ?_)
  refine lv_goto (tgt := 3) hx hb dX9_feedBytes_43 (by decide) ?_
  refine lv_iload_n hx hb dX9_feedBytes_3 rfl (lv_at hl 0 rfl) ?_
  refine hb_if_lt (zx := (-8)) (tgt := 46) hx hb (by decide) dX9_feedBytes_4 (by decide) (fun c_33 => ?_) (fun c_33 => absurd c_33 (by decide))
  exact hx_retv hx hb hr hlk hW ⟨hM, f_32⟩ dX9_feedBytes_46


set_option maxHeartbeats 4000000 in
set_option maxRecDepth 100000 in
theorem c_X10_four_12 (l : Launch) (dC : Nat → ClassId) (dI : Nat → Nat → Nat) (dA : Nat → ClassId) (L : List Nat) (h : hx_h) (sz : Nat) (y : Nat) (i1 : Int32) (gy : hx_g L h y 10) (f_y_7 : h.2.1 y 7 = 12) (qt : Nat) (gqt : hx_g L h qt 53) (f_y_6 : h.2.2 y 6 = some qt) : Met l yX10_four (Cond.code yX10_four cX10_four 3 none :: hx_all) ({ frames := 0, cells := 0, slots := 0, locals := 0 }) (va_Pc [.ref y, .int i1] (hx_B P_tb (P_ty dA) (dC, dI) vwCl L h sz)) (va_Qv (fun (u : List Nat × hx_h) => hx_S P_tb [(10, 7), (53, 0)] L h u.1 u.2 ∧ u.2.2.1 y 7 = (16 : Int32)) (hx_E P_tb (P_ty dA) (dC, dI) vwCl (hx_A L sz)) (hx_A L sz)) 0 0 (hx_A L sz) := by
  refine hx_met (lv := [(0, .ref y), (1, .int i1)]) (by decide +kernel) rfl (Nat.le_of_ble_eq_true rfl) rfl ?_
  intro p e s m below meth c hx hb hml hr hlk hts0 hown hin hsz hW ls hl
  have hts : ∀ w ∈ hx_all, w.before _ s = true := fun w hw => hts0 w (List.mem_cons_of_mem _ hw)
  have hown : s.vm.findClass "SmallCourtModel" = some m.cls := hown
  have hM : hx_S P_tb [(10, 7), (53, 0)] L h L h := hx_S.rf
  refine lv_bipush (v := 24) hx hb dX10_four_0 (by decide) ?_
  refine lv_istore_n (lv' := [(2, .int (24 : Int32)), (0, .ref y), (1, .int i1)]) hx hb dX10_four_2 rfl hl (by decide) rfl (fun ls hl => ?_)
  refine lv_iload_n hx hb dX10_four_3 rfl (lv_at hl 0 rfl) ?_
  refine hb_if_lt (zx := 24) (tgt := 36) hx hb (by decide) dX10_four_4 (by decide) (fun c_1 => absurd c_1 (by decide)) (fun c_1 => ?_)
  refine lv_aload_n hx hb dX10_four_7 rfl (lv_at hl 1 rfl) ?_
  refine hk_getr hx hb hts hC_10 hown hW gy td_10 6 (by decide) rfl kw_1149 ⟨rfl, rfl, rfl⟩ f_y_6 dX10_four_8 ?_
  refine lv_aload_n hx hb dX10_four_11 rfl (lv_at hl 1 rfl) ?_
  refine hk_geti hx hb hts hC_10 hown hW gy td_10 7 (by decide) rfl kw_1150 ⟨rfl, rfl, rfl⟩ f_y_7 dX10_four_12 ?_
  refine lv_iload_n hx hb dX10_four_15 rfl (lv_at hl 2 rfl) ?_
  refine lv_iload_n hx hb dX10_four_16 rfl (lv_at hl 0 rfl) ?_
  refine lv_ishr hx hb dX10_four_17 ?_
  refine lv_topi (fun x_2 ex_2 => ?_)
  refine lv_i2b hx hb dX10_four_18 rfl ?_
  refine lv_topi (fun x_3 ex_3 => ?_)
  refine hk_bast hx hb hW gqt td_53 rfl (by decide) (y := _) rfl dX10_four_19 (fun H locs h_4 eh_4 hW hs => ?_)
  have f_y_7 := (hs.o gy trivial rfl).1.trans f_y_7
  have f_y_6 := (hs.o gy trivial rfl).2.trans f_y_6
  have hM := hM.tr (hs.mono (by decide))
  have gy := gy.S hs
  have gqt := gqt.S hs
  refine lv_aload_n hx hb dX10_four_20 rfl (lv_at hl 1 rfl) ?_
  refine lv_dup hx hb dX10_four_21 rfl ?_
  refine hk_geti hx hb hts hC_10 hown hW gy td_10 7 (by decide) rfl kw_1150 ⟨rfl, rfl, rfl⟩ f_y_7 dX10_four_22 ?_
  refine lv_iconst (v := 1) hx hb dX10_four_25 (by decide) ?_
  refine lv_iadd hx hb dX10_four_26 ?_
  refine lv_topi (fun x_5 ex_5 => ?_)
  obtain rfl : x_5 = (13 : Int32) := ex_5.trans (by decide)
  refine hk_puti hx hb hts hC_10 hown hW gy td_10 7 (by decide) rfl kw_1150 ⟨rfl, rfl, rfl⟩ rfl (x := (13 : Int32)) rfl rfl rfl dX10_four_27 (fun H locs h_6 eh_6 hW hs => ?_)
  have f_y_6 := (hs.o gy trivial rfl).2.trans f_y_6
  have hM := hM.tr (hs.mono (by decide))
  have gy := gy.S hs
  have gqt := gqt.S hs
  have f_7 : h_6.2.1 y 7 = (13 : Int32) := by rw [eh_6]; exact hx_pi_at _ _ _ _
  refine lv_iinc (v := 16) (lv' := [(2, .int (16 : Int32)), (0, .ref y), (1, .int i1)]) hx hb dX10_four_30 hl (k := 0) rfl (by decide) (by decide) rfl (fun ls hl => ?_)
  refine lv_goto (tgt := 3) hx hb dX10_four_33 (by decide) ?_
  refine lv_iload_n hx hb dX10_four_3 rfl (lv_at hl 0 rfl) ?_
  refine hb_if_lt (zx := 16) (tgt := 36) hx hb (by decide) dX10_four_4 (by decide) (fun c_8 => absurd c_8 (by decide)) (fun c_8 => ?_)
  refine lv_aload_n hx hb dX10_four_7 rfl (lv_at hl 1 rfl) ?_
  refine hk_getr hx hb hts hC_10 hown hW gy td_10 6 (by decide) rfl kw_1149 ⟨rfl, rfl, rfl⟩ f_y_6 dX10_four_8 ?_
  refine lv_aload_n hx hb dX10_four_11 rfl (lv_at hl 1 rfl) ?_
  refine hk_geti hx hb hts hC_10 hown hW gy td_10 7 (by decide) rfl kw_1150 ⟨rfl, rfl, rfl⟩ f_7 dX10_four_12 ?_
  refine lv_iload_n hx hb dX10_four_15 rfl (lv_at hl 2 rfl) ?_
  refine lv_iload_n hx hb dX10_four_16 rfl (lv_at hl 0 rfl) ?_
  refine lv_ishr hx hb dX10_four_17 ?_
  refine lv_topi (fun x_9 ex_9 => ?_)
  refine lv_i2b hx hb dX10_four_18 rfl ?_
  refine lv_topi (fun x_10 ex_10 => ?_)
  refine hk_bast hx hb hW gqt td_53 rfl (by decide) (y := _) rfl dX10_four_19 (fun H locs h_11 eh_11 hW hs => ?_)
  have f_y_6 := (hs.o gy trivial rfl).2.trans f_y_6
  have f_7 := (hs.o gy trivial rfl).1.trans f_7
  have hM := hM.tr (hs.mono (by decide))
  have gy := gy.S hs
  have gqt := gqt.S hs
  refine lv_aload_n hx hb dX10_four_20 rfl (lv_at hl 1 rfl) ?_
  refine lv_dup hx hb dX10_four_21 rfl ?_
  refine hk_geti hx hb hts hC_10 hown hW gy td_10 7 (by decide) rfl kw_1150 ⟨rfl, rfl, rfl⟩ f_7 dX10_four_22 ?_
  refine lv_iconst (v := 1) hx hb dX10_four_25 (by decide) ?_
  refine lv_iadd hx hb dX10_four_26 ?_
  refine lv_topi (fun x_12 ex_12 => ?_)
  obtain rfl : x_12 = (14 : Int32) := ex_12.trans (by decide)
  refine hk_puti hx hb hts hC_10 hown hW gy td_10 7 (by decide) rfl kw_1150 ⟨rfl, rfl, rfl⟩ rfl (x := (14 : Int32)) rfl rfl rfl dX10_four_27 (fun H locs h_13 eh_13 hW hs => ?_)
  have f_y_6 := (hs.o gy trivial rfl).2.trans f_y_6
  have hM := hM.tr (hs.mono (by decide))
  have gy := gy.S hs
  have gqt := gqt.S hs
  have f_14 : h_13.2.1 y 7 = (14 : Int32) := by rw [eh_13]; exact hx_pi_at _ _ _ _
  refine lv_iinc (v := 8) (lv' := [(2, .int (8 : Int32)), (0, .ref y), (1, .int i1)]) hx hb dX10_four_30 hl (k := 0) rfl (by decide) (by decide) rfl (fun ls hl => ?_)
  refine lv_goto (tgt := 3) hx hb dX10_four_33 (by decide) ?_
  refine lv_iload_n hx hb dX10_four_3 rfl (lv_at hl 0 rfl) ?_
  refine hb_if_lt (zx := 8) (tgt := 36) hx hb (by decide) dX10_four_4 (by decide) (fun c_15 => absurd c_15 (by decide)) (fun c_15 => ?_)
  refine lv_aload_n hx hb dX10_four_7 rfl (lv_at hl 1 rfl) ?_
  refine hk_getr hx hb hts hC_10 hown hW gy td_10 6 (by decide) rfl kw_1149 ⟨rfl, rfl, rfl⟩ f_y_6 dX10_four_8 ?_
  refine lv_aload_n hx hb dX10_four_11 rfl (lv_at hl 1 rfl) ?_
  refine hk_geti hx hb hts hC_10 hown hW gy td_10 7 (by decide) rfl kw_1150 ⟨rfl, rfl, rfl⟩ f_14 dX10_four_12 ?_
  refine lv_iload_n hx hb dX10_four_15 rfl (lv_at hl 2 rfl) ?_
  refine lv_iload_n hx hb dX10_four_16 rfl (lv_at hl 0 rfl) ?_
  refine lv_ishr hx hb dX10_four_17 ?_
  refine lv_topi (fun x_16 ex_16 => ?_)
  refine lv_i2b hx hb dX10_four_18 rfl ?_
  refine lv_topi (fun x_17 ex_17 => ?_)
  refine hk_bast hx hb hW gqt td_53 rfl (by decide) (y := _) rfl dX10_four_19 (fun H locs h_18 eh_18 hW hs => ?_)
  have f_y_6 := (hs.o gy trivial rfl).2.trans f_y_6
  have f_14 := (hs.o gy trivial rfl).1.trans f_14
  have hM := hM.tr (hs.mono (by decide))
  have gy := gy.S hs
  have gqt := gqt.S hs
  refine lv_aload_n hx hb dX10_four_20 rfl (lv_at hl 1 rfl) ?_
  refine lv_dup hx hb dX10_four_21 rfl ?_
  refine hk_geti hx hb hts hC_10 hown hW gy td_10 7 (by decide) rfl kw_1150 ⟨rfl, rfl, rfl⟩ f_14 dX10_four_22 ?_
  refine lv_iconst (v := 1) hx hb dX10_four_25 (by decide) ?_
  refine lv_iadd hx hb dX10_four_26 ?_
  refine lv_topi (fun x_19 ex_19 => ?_)
  obtain rfl : x_19 = (15 : Int32) := ex_19.trans (by decide)
  refine hk_puti hx hb hts hC_10 hown hW gy td_10 7 (by decide) rfl kw_1150 ⟨rfl, rfl, rfl⟩ rfl (x := (15 : Int32)) rfl rfl rfl dX10_four_27 (fun H locs h_20 eh_20 hW hs => ?_)
  have f_y_6 := (hs.o gy trivial rfl).2.trans f_y_6
  have hM := hM.tr (hs.mono (by decide))
  have gy := gy.S hs
  have gqt := gqt.S hs
  have f_21 : h_20.2.1 y 7 = (15 : Int32) := by rw [eh_20]; exact hx_pi_at _ _ _ _
  refine lv_iinc (v := 0) (lv' := [(2, .int (0 : Int32)), (0, .ref y), (1, .int i1)]) hx hb dX10_four_30 hl (k := 0) rfl (by decide) (by decide) rfl (fun ls hl => ?_)
  refine lv_goto (tgt := 3) hx hb dX10_four_33 (by decide) ?_
  refine lv_iload_n hx hb dX10_four_3 rfl (lv_at hl 0 rfl) ?_
  refine hb_if_lt (zx := 0) (tgt := 36) hx hb (by decide) dX10_four_4 (by decide) (fun c_22 => absurd c_22 (by decide)) (fun c_22 => ?_)
  refine lv_aload_n hx hb dX10_four_7 rfl (lv_at hl 1 rfl) ?_
  refine hk_getr hx hb hts hC_10 hown hW gy td_10 6 (by decide) rfl kw_1149 ⟨rfl, rfl, rfl⟩ f_y_6 dX10_four_8 ?_
  refine lv_aload_n hx hb dX10_four_11 rfl (lv_at hl 1 rfl) ?_
  refine hk_geti hx hb hts hC_10 hown hW gy td_10 7 (by decide) rfl kw_1150 ⟨rfl, rfl, rfl⟩ f_21 dX10_four_12 ?_
  refine lv_iload_n hx hb dX10_four_15 rfl (lv_at hl 2 rfl) ?_
  refine lv_iload_n hx hb dX10_four_16 rfl (lv_at hl 0 rfl) ?_
  refine lv_ishr hx hb dX10_four_17 ?_
  refine lv_topi (fun x_23 ex_23 => ?_)
  refine lv_i2b hx hb dX10_four_18 rfl ?_
  refine lv_topi (fun x_24 ex_24 => ?_)
  refine hk_bast hx hb hW gqt td_53 rfl (by decide) (y := _) rfl dX10_four_19 (fun H locs h_25 eh_25 hW hs => ?_)
  have f_y_6 := (hs.o gy trivial rfl).2.trans f_y_6
  have f_21 := (hs.o gy trivial rfl).1.trans f_21
  have hM := hM.tr (hs.mono (by decide))
  have gy := gy.S hs
  have gqt := gqt.S hs
  refine lv_aload_n hx hb dX10_four_20 rfl (lv_at hl 1 rfl) ?_
  refine lv_dup hx hb dX10_four_21 rfl ?_
  refine hk_geti hx hb hts hC_10 hown hW gy td_10 7 (by decide) rfl kw_1150 ⟨rfl, rfl, rfl⟩ f_21 dX10_four_22 ?_
  refine lv_iconst (v := 1) hx hb dX10_four_25 (by decide) ?_
  refine lv_iadd hx hb dX10_four_26 ?_
  refine lv_topi (fun x_26 ex_26 => ?_)
  obtain rfl : x_26 = (16 : Int32) := ex_26.trans (by decide)
  refine hk_puti hx hb hts hC_10 hown hW gy td_10 7 (by decide) rfl kw_1150 ⟨rfl, rfl, rfl⟩ rfl (x := (16 : Int32)) rfl rfl rfl dX10_four_27 (fun H locs h_27 eh_27 hW hs => ?_)
  have f_y_6 := (hs.o gy trivial rfl).2.trans f_y_6
  have hM := hM.tr (hs.mono (by decide))
  have gy := gy.S hs
  have gqt := gqt.S hs
  have f_28 : h_27.2.1 y 7 = (16 : Int32) := by rw [eh_27]; exact hx_pi_at _ _ _ _
  refine lv_iinc (v := -8) (lv' := [(2, .int (-8 : Int32)), (0, .ref y), (1, .int i1)]) hx hb dX10_four_30 hl (k := 0) rfl (by decide) (by decide) rfl (fun ls hl => ?_)
  refine lv_goto (tgt := 3) hx hb dX10_four_33 (by decide) ?_
  refine lv_iload_n hx hb dX10_four_3 rfl (lv_at hl 0 rfl) ?_
  refine hb_if_lt (zx := (-8)) (tgt := 36) hx hb (by decide) dX10_four_4 (by decide) (fun c_29 => ?_) (fun c_29 => absurd c_29 (by decide))
  exact hx_retv hx hb hr hlk hW ⟨hM, f_28⟩ dX10_four_36


set_option maxHeartbeats 4000000 in
set_option maxRecDepth 100000 in
theorem c_X9_feedBytes_16 (l : Launch) (dC : Nat → ClassId) (dI : Nat → Nat → Nat) (dA : Nat → ClassId) (L : List Nat) (h : hx_h) (sz : Nat) (x : Nat) (i1 : Int32) (gx : hx_g L h x 9) (f_x_1 : h.2.1 x 1 = 16) (qt : Nat) (gqt : hx_g L h qt 42) (f_x_0 : h.2.2 x 0 = some qt) : Met l yX9_feedBytes (Cond.code yX9_feedBytes cX9_feedBytes 3 none :: hx_all) ({ frames := 0, cells := 0, slots := 0, locals := 0 }) (va_Pc [.ref x, .int i1] (hx_B P_tb (P_ty dA) (dC, dI) vwCl L h sz)) (va_Qv (fun (u : List Nat × hx_h) => hx_S P_tb [(9, 1), (42, 0)] L h u.1 u.2 ∧ u.2.2.1 x 1 = (20 : Int32)) (hx_E P_tb (P_ty dA) (dC, dI) vwCl (hx_A L sz)) (hx_A L sz)) 0 0 (hx_A L sz) := by
  refine hx_met (lv := [(0, .ref x), (1, .int i1)]) (by decide +kernel) rfl (Nat.le_of_ble_eq_true rfl) rfl ?_
  intro p e s m below meth c hx hb hml hr hlk hts0 hown hin hsz hW ls hl
  have hts : ∀ w ∈ hx_all, w.before _ s = true := fun w hw => hts0 w (List.mem_cons_of_mem _ hw)
  have hown : s.vm.findClass "SmallCourt" = some m.cls := hown
  have hM : hx_S P_tb [(9, 1), (42, 0)] L h L h := hx_S.rf
  refine lv_bipush (v := 24) hx hb dX9_feedBytes_0 (by decide) ?_
  refine lv_istore_n (lv' := [(2, .int (24 : Int32)), (0, .ref x), (1, .int i1)]) hx hb dX9_feedBytes_2 rfl hl (by decide) rfl (fun ls hl => ?_)
  refine lv_iload_n hx hb dX9_feedBytes_3 rfl (lv_at hl 0 rfl) ?_
  refine hb_if_lt (zx := 24) (tgt := 46) hx hb (by decide) dX9_feedBytes_4 (by decide) (fun c_1 => absurd c_1 (by decide)) (fun c_1 => ?_)
  refine lv_aload_n hx hb dX9_feedBytes_7 rfl (lv_at hl 1 rfl) ?_
  refine hk_geti hx hb hts hC_9 hown hW gx td_9 1 (by decide) rfl kw_365 ⟨rfl, rfl, rfl⟩ f_x_1 dX9_feedBytes_8 ?_
  refine lv_sipush (v := 400) hx hb dX9_feedBytes_11 (by decide) ?_
  refine hb_icmp_ge (zx := 16) (zy := 400) (tgt := 46) hx hb (by decide) (by decide) dX9_feedBytes_14 (by decide) (fun c_2 => absurd c_2 (by decide)) (fun c_2 => ?_)
  refine lv_aload_n hx hb dX9_feedBytes_17 rfl (lv_at hl 1 rfl) ?_
  refine hk_getr hx hb hts hC_9 hown hW gx td_9 0 (by decide) rfl kw_364 ⟨rfl, rfl, rfl⟩ f_x_0 dX9_feedBytes_18 ?_
  refine lv_aload_n hx hb dX9_feedBytes_21 rfl (lv_at hl 1 rfl) ?_
  refine hk_geti hx hb hts hC_9 hown hW gx td_9 1 (by decide) rfl kw_365 ⟨rfl, rfl, rfl⟩ f_x_1 dX9_feedBytes_22 ?_
  refine lv_iload_n hx hb dX9_feedBytes_25 rfl (lv_at hl 2 rfl) ?_
  refine lv_iload_n hx hb dX9_feedBytes_26 rfl (lv_at hl 0 rfl) ?_
  refine lv_ishr hx hb dX9_feedBytes_27 ?_
  refine lv_topi (fun x_3 ex_3 => ?_)
  refine lv_i2b hx hb dX9_feedBytes_28 rfl ?_
  refine lv_topi (fun x_4 ex_4 => ?_)
  refine hk_bast hx hb hW gqt td_42 rfl (by decide) (y := _) rfl dX9_feedBytes_29 (fun H locs h_5 eh_5 hW hs => ?_)
  have f_x_1 := (hs.o gx trivial rfl).1.trans f_x_1
  have f_x_0 := (hs.o gx trivial rfl).2.trans f_x_0
  have hM := hM.tr (hs.mono (by decide))
  have gx := gx.S hs
  have gqt := gqt.S hs
  refine lv_aload_n hx hb dX9_feedBytes_30 rfl (lv_at hl 1 rfl) ?_
  refine lv_dup hx hb dX9_feedBytes_31 rfl ?_
  refine hk_geti hx hb hts hC_9 hown hW gx td_9 1 (by decide) rfl kw_365 ⟨rfl, rfl, rfl⟩ f_x_1 dX9_feedBytes_32 ?_
  refine lv_iconst (v := 1) hx hb dX9_feedBytes_35 (by decide) ?_
  refine lv_iadd hx hb dX9_feedBytes_36 ?_
  refine lv_topi (fun x_6 ex_6 => ?_)
  obtain rfl : x_6 = (17 : Int32) := ex_6.trans (by decide)
  refine hk_puti hx hb hts hC_9 hown hW gx td_9 1 (by decide) rfl kw_365 ⟨rfl, rfl, rfl⟩ rfl (x := (17 : Int32)) rfl rfl rfl dX9_feedBytes_37 (fun H locs h_7 eh_7 hW hs => ?_)
  have f_x_0 := (hs.o gx trivial rfl).2.trans f_x_0
  have hM := hM.tr (hs.mono (by decide))
  have gx := gx.S hs
  have gqt := gqt.S hs
  have f_8 : h_7.2.1 x 1 = (17 : Int32) := by rw [eh_7]; exact hx_pi_at _ _ _ _
  refine lv_iinc (v := 16) (lv' := [(2, .int (16 : Int32)), (0, .ref x), (1, .int i1)]) hx hb dX9_feedBytes_40 hl (k := 0) rfl (by decide) (by decide) rfl (fun ls hl => ?_)
  refine lv_goto (tgt := 3) hx hb dX9_feedBytes_43 (by decide) ?_
  refine lv_iload_n hx hb dX9_feedBytes_3 rfl (lv_at hl 0 rfl) ?_
  refine hb_if_lt (zx := 16) (tgt := 46) hx hb (by decide) dX9_feedBytes_4 (by decide) (fun c_9 => absurd c_9 (by decide)) (fun c_9 => ?_)
  refine lv_aload_n hx hb dX9_feedBytes_7 rfl (lv_at hl 1 rfl) ?_
  refine hk_geti hx hb hts hC_9 hown hW gx td_9 1 (by decide) rfl kw_365 ⟨rfl, rfl, rfl⟩ f_8 dX9_feedBytes_8 ?_
  refine lv_sipush (v := 400) hx hb dX9_feedBytes_11 (by decide) ?_
  refine hb_icmp_ge (zx := 17) (zy := 400) (tgt := 46) hx hb (by decide) (by decide) dX9_feedBytes_14 (by decide) (fun c_10 => absurd c_10 (by decide)) (fun c_10 => ?_)
  refine lv_aload_n hx hb dX9_feedBytes_17 rfl (lv_at hl 1 rfl) ?_
  refine hk_getr hx hb hts hC_9 hown hW gx td_9 0 (by decide) rfl kw_364 ⟨rfl, rfl, rfl⟩ f_x_0 dX9_feedBytes_18 ?_
  refine lv_aload_n hx hb dX9_feedBytes_21 rfl (lv_at hl 1 rfl) ?_
  refine hk_geti hx hb hts hC_9 hown hW gx td_9 1 (by decide) rfl kw_365 ⟨rfl, rfl, rfl⟩ f_8 dX9_feedBytes_22 ?_
  refine lv_iload_n hx hb dX9_feedBytes_25 rfl (lv_at hl 2 rfl) ?_
  refine lv_iload_n hx hb dX9_feedBytes_26 rfl (lv_at hl 0 rfl) ?_
  refine lv_ishr hx hb dX9_feedBytes_27 ?_
  refine lv_topi (fun x_11 ex_11 => ?_)
  refine lv_i2b hx hb dX9_feedBytes_28 rfl ?_
  refine lv_topi (fun x_12 ex_12 => ?_)
  refine hk_bast hx hb hW gqt td_42 rfl (by decide) (y := _) rfl dX9_feedBytes_29 (fun H locs h_13 eh_13 hW hs => ?_)
  have f_x_0 := (hs.o gx trivial rfl).2.trans f_x_0
  have f_8 := (hs.o gx trivial rfl).1.trans f_8
  have hM := hM.tr (hs.mono (by decide))
  have gx := gx.S hs
  have gqt := gqt.S hs
  refine lv_aload_n hx hb dX9_feedBytes_30 rfl (lv_at hl 1 rfl) ?_
  refine lv_dup hx hb dX9_feedBytes_31 rfl ?_
  refine hk_geti hx hb hts hC_9 hown hW gx td_9 1 (by decide) rfl kw_365 ⟨rfl, rfl, rfl⟩ f_8 dX9_feedBytes_32 ?_
  refine lv_iconst (v := 1) hx hb dX9_feedBytes_35 (by decide) ?_
  refine lv_iadd hx hb dX9_feedBytes_36 ?_
  refine lv_topi (fun x_14 ex_14 => ?_)
  obtain rfl : x_14 = (18 : Int32) := ex_14.trans (by decide)
  refine hk_puti hx hb hts hC_9 hown hW gx td_9 1 (by decide) rfl kw_365 ⟨rfl, rfl, rfl⟩ rfl (x := (18 : Int32)) rfl rfl rfl dX9_feedBytes_37 (fun H locs h_15 eh_15 hW hs => ?_)
  have f_x_0 := (hs.o gx trivial rfl).2.trans f_x_0
  have hM := hM.tr (hs.mono (by decide))
  have gx := gx.S hs
  have gqt := gqt.S hs
  have f_16 : h_15.2.1 x 1 = (18 : Int32) := by rw [eh_15]; exact hx_pi_at _ _ _ _
  refine lv_iinc (v := 8) (lv' := [(2, .int (8 : Int32)), (0, .ref x), (1, .int i1)]) hx hb dX9_feedBytes_40 hl (k := 0) rfl (by decide) (by decide) rfl (fun ls hl => ?_)
  refine lv_goto (tgt := 3) hx hb dX9_feedBytes_43 (by decide) ?_
  refine lv_iload_n hx hb dX9_feedBytes_3 rfl (lv_at hl 0 rfl) ?_
  refine hb_if_lt (zx := 8) (tgt := 46) hx hb (by decide) dX9_feedBytes_4 (by decide) (fun c_17 => absurd c_17 (by decide)) (fun c_17 => ?_)
  refine lv_aload_n hx hb dX9_feedBytes_7 rfl (lv_at hl 1 rfl) ?_
  refine hk_geti hx hb hts hC_9 hown hW gx td_9 1 (by decide) rfl kw_365 ⟨rfl, rfl, rfl⟩ f_16 dX9_feedBytes_8 ?_
  refine lv_sipush (v := 400) hx hb dX9_feedBytes_11 (by decide) ?_
  refine hb_icmp_ge (zx := 18) (zy := 400) (tgt := 46) hx hb (by decide) (by decide) dX9_feedBytes_14 (by decide) (fun c_18 => absurd c_18 (by decide)) (fun c_18 => ?_)
  refine lv_aload_n hx hb dX9_feedBytes_17 rfl (lv_at hl 1 rfl) ?_
  refine hk_getr hx hb hts hC_9 hown hW gx td_9 0 (by decide) rfl kw_364 ⟨rfl, rfl, rfl⟩ f_x_0 dX9_feedBytes_18 ?_
  refine lv_aload_n hx hb dX9_feedBytes_21 rfl (lv_at hl 1 rfl) ?_
  refine hk_geti hx hb hts hC_9 hown hW gx td_9 1 (by decide) rfl kw_365 ⟨rfl, rfl, rfl⟩ f_16 dX9_feedBytes_22 ?_
  refine lv_iload_n hx hb dX9_feedBytes_25 rfl (lv_at hl 2 rfl) ?_
  refine lv_iload_n hx hb dX9_feedBytes_26 rfl (lv_at hl 0 rfl) ?_
  refine lv_ishr hx hb dX9_feedBytes_27 ?_
  refine lv_topi (fun x_19 ex_19 => ?_)
  refine lv_i2b hx hb dX9_feedBytes_28 rfl ?_
  refine lv_topi (fun x_20 ex_20 => ?_)
  refine hk_bast hx hb hW gqt td_42 rfl (by decide) (y := _) rfl dX9_feedBytes_29 (fun H locs h_21 eh_21 hW hs => ?_)
  have f_x_0 := (hs.o gx trivial rfl).2.trans f_x_0
  have f_16 := (hs.o gx trivial rfl).1.trans f_16
  have hM := hM.tr (hs.mono (by decide))
  have gx := gx.S hs
  have gqt := gqt.S hs
  refine lv_aload_n hx hb dX9_feedBytes_30 rfl (lv_at hl 1 rfl) ?_
  refine lv_dup hx hb dX9_feedBytes_31 rfl ?_
  refine hk_geti hx hb hts hC_9 hown hW gx td_9 1 (by decide) rfl kw_365 ⟨rfl, rfl, rfl⟩ f_16 dX9_feedBytes_32 ?_
  refine lv_iconst (v := 1) hx hb dX9_feedBytes_35 (by decide) ?_
  refine lv_iadd hx hb dX9_feedBytes_36 ?_
  refine lv_topi (fun x_22 ex_22 => ?_)
  obtain rfl : x_22 = (19 : Int32) := ex_22.trans (by decide)
  refine hk_puti hx hb hts hC_9 hown hW gx td_9 1 (by decide) rfl kw_365 ⟨rfl, rfl, rfl⟩ rfl (x := (19 : Int32)) rfl rfl rfl dX9_feedBytes_37 (fun H locs h_23 eh_23 hW hs => ?_)
  have f_x_0 := (hs.o gx trivial rfl).2.trans f_x_0
  have hM := hM.tr (hs.mono (by decide))
  have gx := gx.S hs
  have gqt := gqt.S hs
  have f_24 : h_23.2.1 x 1 = (19 : Int32) := by rw [eh_23]; exact hx_pi_at _ _ _ _
  refine lv_iinc (v := 0) (lv' := [(2, .int (0 : Int32)), (0, .ref x), (1, .int i1)]) hx hb dX9_feedBytes_40 hl (k := 0) rfl (by decide) (by decide) rfl (fun ls hl => ?_)
  refine lv_goto (tgt := 3) hx hb dX9_feedBytes_43 (by decide) ?_
  refine lv_iload_n hx hb dX9_feedBytes_3 rfl (lv_at hl 0 rfl) ?_
  refine hb_if_lt (zx := 0) (tgt := 46) hx hb (by decide) dX9_feedBytes_4 (by decide) (fun c_25 => absurd c_25 (by decide)) (fun c_25 => ?_)
  refine lv_aload_n hx hb dX9_feedBytes_7 rfl (lv_at hl 1 rfl) ?_
  refine hk_geti hx hb hts hC_9 hown hW gx td_9 1 (by decide) rfl kw_365 ⟨rfl, rfl, rfl⟩ f_24 dX9_feedBytes_8 ?_
  refine lv_sipush (v := 400) hx hb dX9_feedBytes_11 (by decide) ?_
  refine hb_icmp_ge (zx := 19) (zy := 400) (tgt := 46) hx hb (by decide) (by decide) dX9_feedBytes_14 (by decide) (fun c_26 => absurd c_26 (by decide)) (fun c_26 => ?_)
  refine lv_aload_n hx hb dX9_feedBytes_17 rfl (lv_at hl 1 rfl) ?_
  refine hk_getr hx hb hts hC_9 hown hW gx td_9 0 (by decide) rfl kw_364 ⟨rfl, rfl, rfl⟩ f_x_0 dX9_feedBytes_18 ?_
  refine lv_aload_n hx hb dX9_feedBytes_21 rfl (lv_at hl 1 rfl) ?_
  refine hk_geti hx hb hts hC_9 hown hW gx td_9 1 (by decide) rfl kw_365 ⟨rfl, rfl, rfl⟩ f_24 dX9_feedBytes_22 ?_
  refine lv_iload_n hx hb dX9_feedBytes_25 rfl (lv_at hl 2 rfl) ?_
  refine lv_iload_n hx hb dX9_feedBytes_26 rfl (lv_at hl 0 rfl) ?_
  refine lv_ishr hx hb dX9_feedBytes_27 ?_
  refine lv_topi (fun x_27 ex_27 => ?_)
  refine lv_i2b hx hb dX9_feedBytes_28 rfl ?_
  refine lv_topi (fun x_28 ex_28 => ?_)
  refine hk_bast hx hb hW gqt td_42 rfl (by decide) (y := _) rfl dX9_feedBytes_29 (fun H locs h_29 eh_29 hW hs => ?_)
  have f_x_0 := (hs.o gx trivial rfl).2.trans f_x_0
  have f_24 := (hs.o gx trivial rfl).1.trans f_24
  have hM := hM.tr (hs.mono (by decide))
  have gx := gx.S hs
  have gqt := gqt.S hs
  refine lv_aload_n hx hb dX9_feedBytes_30 rfl (lv_at hl 1 rfl) ?_
  refine lv_dup hx hb dX9_feedBytes_31 rfl ?_
  refine hk_geti hx hb hts hC_9 hown hW gx td_9 1 (by decide) rfl kw_365 ⟨rfl, rfl, rfl⟩ f_24 dX9_feedBytes_32 ?_
  refine lv_iconst (v := 1) hx hb dX9_feedBytes_35 (by decide) ?_
  refine lv_iadd hx hb dX9_feedBytes_36 ?_
  refine lv_topi (fun x_30 ex_30 => ?_)
  obtain rfl : x_30 = (20 : Int32) := ex_30.trans (by decide)
  refine hk_puti hx hb hts hC_9 hown hW gx td_9 1 (by decide) rfl kw_365 ⟨rfl, rfl, rfl⟩ rfl (x := (20 : Int32)) rfl rfl rfl dX9_feedBytes_37 (fun H locs h_31 eh_31 hW hs => ?_)
  have f_x_0 := (hs.o gx trivial rfl).2.trans f_x_0
  have hM := hM.tr (hs.mono (by decide))
  have gx := gx.S hs
  have gqt := gqt.S hs
  have f_32 : h_31.2.1 x 1 = (20 : Int32) := by rw [eh_31]; exact hx_pi_at _ _ _ _
  refine lv_iinc (v := -8) (lv' := [(2, .int (-8 : Int32)), (0, .ref x), (1, .int i1)]) hx hb dX9_feedBytes_40 hl (k := 0) rfl (by decide) (by decide) rfl (fun ls hl => ?_)
  refine lv_goto (tgt := 3) hx hb dX9_feedBytes_43 (by decide) ?_
  refine lv_iload_n hx hb dX9_feedBytes_3 rfl (lv_at hl 0 rfl) ?_
  refine hb_if_lt (zx := (-8)) (tgt := 46) hx hb (by decide) dX9_feedBytes_4 (by decide) (fun c_33 => ?_) (fun c_33 => absurd c_33 (by decide))
  exact hx_retv hx hb hr hlk hW ⟨hM, f_32⟩ dX9_feedBytes_46


set_option maxHeartbeats 4000000 in
set_option maxRecDepth 100000 in
theorem c_X10_four_16 (l : Launch) (dC : Nat → ClassId) (dI : Nat → Nat → Nat) (dA : Nat → ClassId) (L : List Nat) (h : hx_h) (sz : Nat) (y : Nat) (i1 : Int32) (gy : hx_g L h y 10) (f_y_7 : h.2.1 y 7 = 16) (qt : Nat) (gqt : hx_g L h qt 53) (f_y_6 : h.2.2 y 6 = some qt) : Met l yX10_four (Cond.code yX10_four cX10_four 3 none :: hx_all) ({ frames := 0, cells := 0, slots := 0, locals := 0 }) (va_Pc [.ref y, .int i1] (hx_B P_tb (P_ty dA) (dC, dI) vwCl L h sz)) (va_Qv (fun (u : List Nat × hx_h) => hx_S P_tb [(10, 7), (53, 0)] L h u.1 u.2 ∧ u.2.2.1 y 7 = (20 : Int32)) (hx_E P_tb (P_ty dA) (dC, dI) vwCl (hx_A L sz)) (hx_A L sz)) 0 0 (hx_A L sz) := by
  refine hx_met (lv := [(0, .ref y), (1, .int i1)]) (by decide +kernel) rfl (Nat.le_of_ble_eq_true rfl) rfl ?_
  intro p e s m below meth c hx hb hml hr hlk hts0 hown hin hsz hW ls hl
  have hts : ∀ w ∈ hx_all, w.before _ s = true := fun w hw => hts0 w (List.mem_cons_of_mem _ hw)
  have hown : s.vm.findClass "SmallCourtModel" = some m.cls := hown
  have hM : hx_S P_tb [(10, 7), (53, 0)] L h L h := hx_S.rf
  refine lv_bipush (v := 24) hx hb dX10_four_0 (by decide) ?_
  refine lv_istore_n (lv' := [(2, .int (24 : Int32)), (0, .ref y), (1, .int i1)]) hx hb dX10_four_2 rfl hl (by decide) rfl (fun ls hl => ?_)
  refine lv_iload_n hx hb dX10_four_3 rfl (lv_at hl 0 rfl) ?_
  refine hb_if_lt (zx := 24) (tgt := 36) hx hb (by decide) dX10_four_4 (by decide) (fun c_1 => absurd c_1 (by decide)) (fun c_1 => ?_)
  refine lv_aload_n hx hb dX10_four_7 rfl (lv_at hl 1 rfl) ?_
  refine hk_getr hx hb hts hC_10 hown hW gy td_10 6 (by decide) rfl kw_1149 ⟨rfl, rfl, rfl⟩ f_y_6 dX10_four_8 ?_
  refine lv_aload_n hx hb dX10_four_11 rfl (lv_at hl 1 rfl) ?_
  refine hk_geti hx hb hts hC_10 hown hW gy td_10 7 (by decide) rfl kw_1150 ⟨rfl, rfl, rfl⟩ f_y_7 dX10_four_12 ?_
  refine lv_iload_n hx hb dX10_four_15 rfl (lv_at hl 2 rfl) ?_
  refine lv_iload_n hx hb dX10_four_16 rfl (lv_at hl 0 rfl) ?_
  refine lv_ishr hx hb dX10_four_17 ?_
  refine lv_topi (fun x_2 ex_2 => ?_)
  refine lv_i2b hx hb dX10_four_18 rfl ?_
  refine lv_topi (fun x_3 ex_3 => ?_)
  refine hk_bast hx hb hW gqt td_53 rfl (by decide) (y := _) rfl dX10_four_19 (fun H locs h_4 eh_4 hW hs => ?_)
  have f_y_7 := (hs.o gy trivial rfl).1.trans f_y_7
  have f_y_6 := (hs.o gy trivial rfl).2.trans f_y_6
  have hM := hM.tr (hs.mono (by decide))
  have gy := gy.S hs
  have gqt := gqt.S hs
  refine lv_aload_n hx hb dX10_four_20 rfl (lv_at hl 1 rfl) ?_
  refine lv_dup hx hb dX10_four_21 rfl ?_
  refine hk_geti hx hb hts hC_10 hown hW gy td_10 7 (by decide) rfl kw_1150 ⟨rfl, rfl, rfl⟩ f_y_7 dX10_four_22 ?_
  refine lv_iconst (v := 1) hx hb dX10_four_25 (by decide) ?_
  refine lv_iadd hx hb dX10_four_26 ?_
  refine lv_topi (fun x_5 ex_5 => ?_)
  obtain rfl : x_5 = (17 : Int32) := ex_5.trans (by decide)
  refine hk_puti hx hb hts hC_10 hown hW gy td_10 7 (by decide) rfl kw_1150 ⟨rfl, rfl, rfl⟩ rfl (x := (17 : Int32)) rfl rfl rfl dX10_four_27 (fun H locs h_6 eh_6 hW hs => ?_)
  have f_y_6 := (hs.o gy trivial rfl).2.trans f_y_6
  have hM := hM.tr (hs.mono (by decide))
  have gy := gy.S hs
  have gqt := gqt.S hs
  have f_7 : h_6.2.1 y 7 = (17 : Int32) := by rw [eh_6]; exact hx_pi_at _ _ _ _
  refine lv_iinc (v := 16) (lv' := [(2, .int (16 : Int32)), (0, .ref y), (1, .int i1)]) hx hb dX10_four_30 hl (k := 0) rfl (by decide) (by decide) rfl (fun ls hl => ?_)
  refine lv_goto (tgt := 3) hx hb dX10_four_33 (by decide) ?_
  refine lv_iload_n hx hb dX10_four_3 rfl (lv_at hl 0 rfl) ?_
  refine hb_if_lt (zx := 16) (tgt := 36) hx hb (by decide) dX10_four_4 (by decide) (fun c_8 => absurd c_8 (by decide)) (fun c_8 => ?_)
  refine lv_aload_n hx hb dX10_four_7 rfl (lv_at hl 1 rfl) ?_
  refine hk_getr hx hb hts hC_10 hown hW gy td_10 6 (by decide) rfl kw_1149 ⟨rfl, rfl, rfl⟩ f_y_6 dX10_four_8 ?_
  refine lv_aload_n hx hb dX10_four_11 rfl (lv_at hl 1 rfl) ?_
  refine hk_geti hx hb hts hC_10 hown hW gy td_10 7 (by decide) rfl kw_1150 ⟨rfl, rfl, rfl⟩ f_7 dX10_four_12 ?_
  refine lv_iload_n hx hb dX10_four_15 rfl (lv_at hl 2 rfl) ?_
  refine lv_iload_n hx hb dX10_four_16 rfl (lv_at hl 0 rfl) ?_
  refine lv_ishr hx hb dX10_four_17 ?_
  refine lv_topi (fun x_9 ex_9 => ?_)
  refine lv_i2b hx hb dX10_four_18 rfl ?_
  refine lv_topi (fun x_10 ex_10 => ?_)
  refine hk_bast hx hb hW gqt td_53 rfl (by decide) (y := _) rfl dX10_four_19 (fun H locs h_11 eh_11 hW hs => ?_)
  have f_y_6 := (hs.o gy trivial rfl).2.trans f_y_6
  have f_7 := (hs.o gy trivial rfl).1.trans f_7
  have hM := hM.tr (hs.mono (by decide))
  have gy := gy.S hs
  have gqt := gqt.S hs
  refine lv_aload_n hx hb dX10_four_20 rfl (lv_at hl 1 rfl) ?_
  refine lv_dup hx hb dX10_four_21 rfl ?_
  refine hk_geti hx hb hts hC_10 hown hW gy td_10 7 (by decide) rfl kw_1150 ⟨rfl, rfl, rfl⟩ f_7 dX10_four_22 ?_
  refine lv_iconst (v := 1) hx hb dX10_four_25 (by decide) ?_
  refine lv_iadd hx hb dX10_four_26 ?_
  refine lv_topi (fun x_12 ex_12 => ?_)
  obtain rfl : x_12 = (18 : Int32) := ex_12.trans (by decide)
  refine hk_puti hx hb hts hC_10 hown hW gy td_10 7 (by decide) rfl kw_1150 ⟨rfl, rfl, rfl⟩ rfl (x := (18 : Int32)) rfl rfl rfl dX10_four_27 (fun H locs h_13 eh_13 hW hs => ?_)
  have f_y_6 := (hs.o gy trivial rfl).2.trans f_y_6
  have hM := hM.tr (hs.mono (by decide))
  have gy := gy.S hs
  have gqt := gqt.S hs
  have f_14 : h_13.2.1 y 7 = (18 : Int32) := by rw [eh_13]; exact hx_pi_at _ _ _ _
  refine lv_iinc (v := 8) (lv' := [(2, .int (8 : Int32)), (0, .ref y), (1, .int i1)]) hx hb dX10_four_30 hl (k := 0) rfl (by decide) (by decide) rfl (fun ls hl => ?_)
  refine lv_goto (tgt := 3) hx hb dX10_four_33 (by decide) ?_
  refine lv_iload_n hx hb dX10_four_3 rfl (lv_at hl 0 rfl) ?_
  refine hb_if_lt (zx := 8) (tgt := 36) hx hb (by decide) dX10_four_4 (by decide) (fun c_15 => absurd c_15 (by decide)) (fun c_15 => ?_)
  refine lv_aload_n hx hb dX10_four_7 rfl (lv_at hl 1 rfl) ?_
  refine hk_getr hx hb hts hC_10 hown hW gy td_10 6 (by decide) rfl kw_1149 ⟨rfl, rfl, rfl⟩ f_y_6 dX10_four_8 ?_
  refine lv_aload_n hx hb dX10_four_11 rfl (lv_at hl 1 rfl) ?_
  refine hk_geti hx hb hts hC_10 hown hW gy td_10 7 (by decide) rfl kw_1150 ⟨rfl, rfl, rfl⟩ f_14 dX10_four_12 ?_
  refine lv_iload_n hx hb dX10_four_15 rfl (lv_at hl 2 rfl) ?_
  refine lv_iload_n hx hb dX10_four_16 rfl (lv_at hl 0 rfl) ?_
  refine lv_ishr hx hb dX10_four_17 ?_
  refine lv_topi (fun x_16 ex_16 => ?_)
  refine lv_i2b hx hb dX10_four_18 rfl ?_
  refine lv_topi (fun x_17 ex_17 => ?_)
  refine hk_bast hx hb hW gqt td_53 rfl (by decide) (y := _) rfl dX10_four_19 (fun H locs h_18 eh_18 hW hs => ?_)
  have f_y_6 := (hs.o gy trivial rfl).2.trans f_y_6
  have f_14 := (hs.o gy trivial rfl).1.trans f_14
  have hM := hM.tr (hs.mono (by decide))
  have gy := gy.S hs
  have gqt := gqt.S hs
  refine lv_aload_n hx hb dX10_four_20 rfl (lv_at hl 1 rfl) ?_
  refine lv_dup hx hb dX10_four_21 rfl ?_
  refine hk_geti hx hb hts hC_10 hown hW gy td_10 7 (by decide) rfl kw_1150 ⟨rfl, rfl, rfl⟩ f_14 dX10_four_22 ?_
  refine lv_iconst (v := 1) hx hb dX10_four_25 (by decide) ?_
  refine lv_iadd hx hb dX10_four_26 ?_
  refine lv_topi (fun x_19 ex_19 => ?_)
  obtain rfl : x_19 = (19 : Int32) := ex_19.trans (by decide)
  refine hk_puti hx hb hts hC_10 hown hW gy td_10 7 (by decide) rfl kw_1150 ⟨rfl, rfl, rfl⟩ rfl (x := (19 : Int32)) rfl rfl rfl dX10_four_27 (fun H locs h_20 eh_20 hW hs => ?_)
  have f_y_6 := (hs.o gy trivial rfl).2.trans f_y_6
  have hM := hM.tr (hs.mono (by decide))
  have gy := gy.S hs
  have gqt := gqt.S hs
  have f_21 : h_20.2.1 y 7 = (19 : Int32) := by rw [eh_20]; exact hx_pi_at _ _ _ _
  refine lv_iinc (v := 0) (lv' := [(2, .int (0 : Int32)), (0, .ref y), (1, .int i1)]) hx hb dX10_four_30 hl (k := 0) rfl (by decide) (by decide) rfl (fun ls hl => ?_)
  refine lv_goto (tgt := 3) hx hb dX10_four_33 (by decide) ?_
  refine lv_iload_n hx hb dX10_four_3 rfl (lv_at hl 0 rfl) ?_
  refine hb_if_lt (zx := 0) (tgt := 36) hx hb (by decide) dX10_four_4 (by decide) (fun c_22 => absurd c_22 (by decide)) (fun c_22 => ?_)
  refine lv_aload_n hx hb dX10_four_7 rfl (lv_at hl 1 rfl) ?_
  refine hk_getr hx hb hts hC_10 hown hW gy td_10 6 (by decide) rfl kw_1149 ⟨rfl, rfl, rfl⟩ f_y_6 dX10_four_8 ?_
  refine lv_aload_n hx hb dX10_four_11 rfl (lv_at hl 1 rfl) ?_
  refine hk_geti hx hb hts hC_10 hown hW gy td_10 7 (by decide) rfl kw_1150 ⟨rfl, rfl, rfl⟩ f_21 dX10_four_12 ?_
  refine lv_iload_n hx hb dX10_four_15 rfl (lv_at hl 2 rfl) ?_
  refine lv_iload_n hx hb dX10_four_16 rfl (lv_at hl 0 rfl) ?_
  refine lv_ishr hx hb dX10_four_17 ?_
  refine lv_topi (fun x_23 ex_23 => ?_)
  refine lv_i2b hx hb dX10_four_18 rfl ?_
  refine lv_topi (fun x_24 ex_24 => ?_)
  refine hk_bast hx hb hW gqt td_53 rfl (by decide) (y := _) rfl dX10_four_19 (fun H locs h_25 eh_25 hW hs => ?_)
  have f_y_6 := (hs.o gy trivial rfl).2.trans f_y_6
  have f_21 := (hs.o gy trivial rfl).1.trans f_21
  have hM := hM.tr (hs.mono (by decide))
  have gy := gy.S hs
  have gqt := gqt.S hs
  refine lv_aload_n hx hb dX10_four_20 rfl (lv_at hl 1 rfl) ?_
  refine lv_dup hx hb dX10_four_21 rfl ?_
  refine hk_geti hx hb hts hC_10 hown hW gy td_10 7 (by decide) rfl kw_1150 ⟨rfl, rfl, rfl⟩ f_21 dX10_four_22 ?_
  refine lv_iconst (v := 1) hx hb dX10_four_25 (by decide) ?_
  refine lv_iadd hx hb dX10_four_26 ?_
  refine lv_topi (fun x_26 ex_26 => ?_)
  obtain rfl : x_26 = (20 : Int32) := ex_26.trans (by decide)
  refine hk_puti hx hb hts hC_10 hown hW gy td_10 7 (by decide) rfl kw_1150 ⟨rfl, rfl, rfl⟩ rfl (x := (20 : Int32)) rfl rfl rfl dX10_four_27 (fun H locs h_27 eh_27 hW hs => ?_)
  have f_y_6 := (hs.o gy trivial rfl).2.trans f_y_6
  have hM := hM.tr (hs.mono (by decide))
  have gy := gy.S hs
  have gqt := gqt.S hs
  have f_28 : h_27.2.1 y 7 = (20 : Int32) := by rw [eh_27]; exact hx_pi_at _ _ _ _
  refine lv_iinc (v := -8) (lv' := [(2, .int (-8 : Int32)), (0, .ref y), (1, .int i1)]) hx hb dX10_four_30 hl (k := 0) rfl (by decide) (by decide) rfl (fun ls hl => ?_)
  refine lv_goto (tgt := 3) hx hb dX10_four_33 (by decide) ?_
  refine lv_iload_n hx hb dX10_four_3 rfl (lv_at hl 0 rfl) ?_
  refine hb_if_lt (zx := (-8)) (tgt := 36) hx hb (by decide) dX10_four_4 (by decide) (fun c_29 => ?_) (fun c_29 => absurd c_29 (by decide))
  exact hx_retv hx hb hr hlk hW ⟨hM, f_28⟩ dX10_four_36

theorem dX9_feed_0 : decode cX9_feed 0 = .ok (.aload_n 0, 1) := by decide +kernel
theorem dX9_feed_1 : decode cX9_feed 1 = .ok (.getfield 98, 3) := by decide +kernel
theorem dX9_feed_4 : decode cX9_feed 4 = .ok (.bipush 20, 2) := by decide +kernel
theorem dX9_feed_6 : decode cX9_feed 6 = .ok (.iadd, 1) := by decide +kernel
theorem dX9_feed_7 : decode cX9_feed 7 = .ok (.sipush 400, 3) := by decide +kernel
theorem dX9_feed_10 : decode cX9_feed 10 = .ok (.if_icmp .le 5, 3) := by decide +kernel
theorem dX9_feed_15 : decode cX9_feed 15 = .ok (.aload_n 0, 1) := by decide +kernel
theorem dX9_feed_16 : decode cX9_feed 16 = .ok (.iload_n 1, 1) := by decide +kernel
theorem dX9_feed_17 : decode cX9_feed 17 = .ok (.invokevirtual 101, 3) := by decide +kernel
theorem dX9_feed_20 : decode cX9_feed 20 = .ok (.aload_n 0, 1) := by decide +kernel
theorem dX9_feed_21 : decode cX9_feed 21 = .ok (.iload_n 2, 1) := by decide +kernel
theorem dX9_feed_22 : decode cX9_feed 22 = .ok (.invokevirtual 101, 3) := by decide +kernel
theorem dX9_feed_25 : decode cX9_feed 25 = .ok (.aload_n 0, 1) := by decide +kernel
theorem dX9_feed_26 : decode cX9_feed 26 = .ok (.iload_n 3, 1) := by decide +kernel
theorem dX9_feed_27 : decode cX9_feed 27 = .ok (.invokevirtual 101, 3) := by decide +kernel
theorem dX9_feed_30 : decode cX9_feed 30 = .ok (.aload_n 0, 1) := by decide +kernel
theorem dX9_feed_31 : decode cX9_feed 31 = .ok (.iload 4, 2) := by decide +kernel
theorem dX9_feed_33 : decode cX9_feed 33 = .ok (.invokevirtual 101, 3) := by decide +kernel
theorem dX9_feed_36 : decode cX9_feed 36 = .ok (.aload_n 0, 1) := by decide +kernel
theorem dX9_feed_37 : decode cX9_feed 37 = .ok (.iload 5, 2) := by decide +kernel
theorem dX9_feed_39 : decode cX9_feed 39 = .ok (.invokevirtual 101, 3) := by decide +kernel
theorem dX9_feed_42 : decode cX9_feed 42 = .ok (.aload_n 0, 1) := by decide +kernel
theorem dX9_feed_43 : decode cX9_feed 43 = .ok (.getfield 98, 3) := by decide +kernel
theorem dX9_feed_46 : decode cX9_feed 46 = .ok (.ireturn, 1) := by decide +kernel
set_option maxHeartbeats 4000000 in
set_option maxRecDepth 100000 in
theorem c_X9_feed (l : Launch) (dC : Nat → ClassId) (dI : Nat → Nat → Nat) (dA : Nat → ClassId) (L : List Nat) (h : hx_h) (sz : Nat) (x : Nat) (i1 : Int32) (i2 : Int32) (i3 : Int32) (i4 : Int32) (i5 : Int32) (gx : hx_g L h x 9) (f_x_1 : h.2.1 x 1 = 0) (qt : Nat) (gqt : hx_g L h qt 42) (f_x_0 : h.2.2 x 0 = some qt) : Met l yX9_feed (Cond.code yX9_feed cX9_feed 6 (some .int) :: hx_all) ({ frames := 1, cells := 0, slots := 0, locals := 22 }) (va_Pc [.ref x, .int i1, .int i2, .int i3, .int i4, .int i5] (hx_B P_tb (P_ty dA) (dC, dI) vwCl L h sz)) (va_Qi (fun (r : Int32) (u : List Nat × hx_h) => (r = 20) ∧ hx_S P_tb [(9, 1), (42, 0)] L h u.1 u.2) (hx_E P_tb (P_ty dA) (dC, dI) vwCl (hx_A L sz)) (hx_A L sz)) 0 0 (hx_A L sz) := by
  refine hx_met (lv := [(0, .ref x), (1, .int i1), (2, .int i2), (3, .int i3), (4, .int i4), (5, .int i5)]) (by decide +kernel) rfl (Nat.le_of_ble_eq_true rfl) rfl ?_
  intro p e s m below meth c hx hb hml hr hlk hts0 hown hin hsz hW ls hl
  have hts : ∀ w ∈ hx_all, w.before _ s = true := fun w hw => hts0 w (List.mem_cons_of_mem _ hw)
  have hown : s.vm.findClass "SmallCourt" = some m.cls := hown
  have hM : hx_S P_tb [(9, 1), (42, 0)] L h L h := hx_S.rf
  refine lv_aload_n hx hb dX9_feed_0 rfl (lv_at hl 0 rfl) ?_
  refine hk_geti hx hb hts hC_9 hown hW gx td_9 1 (by decide) rfl kw_365 ⟨rfl, rfl, rfl⟩ f_x_1 dX9_feed_1 ?_
  refine lv_bipush (v := 20) hx hb dX9_feed_4 (by decide) ?_
  refine lv_iadd hx hb dX9_feed_6 ?_
  refine lv_topi (fun x_1 ex_1 => ?_)
  obtain rfl : x_1 = (20 : Int32) := ex_1.trans (by decide)
  refine lv_sipush (v := 400) hx hb dX9_feed_7 (by decide) ?_
  refine hb_icmp_le (zx := 20) (zy := 400) (tgt := 15) hx hb (by decide) (by decide) dX9_feed_10 (by decide) (fun c_2 => ?_) (fun c_2 => absurd c_2 (by decide))
  refine lv_aload_n hx hb dX9_feed_15 rfl (lv_at hl 0 rfl) ?_
  refine lv_iload_n hx hb dX9_feed_16 rfl (lv_at hl 1 rfl) ?_
  refine hx_gov (hx_runV (As := [.int i1]) (rest := []) ⟨hx, hb, hml, hown, hts⟩ hW gx td_9 (T := TX9) (N := 20) rfl (c_X9_feedBytes_0 l dC dI dA L h s.heap.size x i1 gx f_x_1 qt gqt f_x_0) (cwV 1 hts (hx_gV kw_442 kw_439 kw_441 kw_0 kw_94) rfl rfl rfl (by decide +kernel) ⟨Nat.le_of_ble_eq_true rfl, Nat.le_of_ble_eq_true rfl⟩) rfl hl.1 rfl (Nat.le_of_ble_eq_true rfl) dX9_feed_17 ⟨Nat.le_of_ble_eq_true rfl, Nat.le_of_ble_eq_true rfl⟩) hW (fun L_3 h_4 H locs p_6 hW => ?_)
  obtain ⟨hs, f_7⟩ := p_6
  have hs : hx_S P_tb [(9, 1), (42, 0)] L h L_3 h_4 := hs
  have f_7 : h_4.2.1 x 1 = _ := f_7
  have f_x_0 := (hs.o gx trivial rfl).2.trans f_x_0
  have hM := hM.tr (hs.mono (by decide))
  have gx := gx.S hs
  have gqt := gqt.S hs
  refine lv_aload_n hx hb dX9_feed_20 rfl (lv_at hl 0 rfl) ?_
  refine lv_iload_n hx hb dX9_feed_21 rfl (lv_at hl 2 rfl) ?_
  refine hx_gov (hx_runV (As := [.int i2]) (rest := []) ⟨hx, hb, hml, hown, hts⟩ hW gx td_9 (T := TX9) (N := 20) rfl (c_X9_feedBytes_4 l dC dI dA L_3 h_4 H.size x i2 gx f_7 qt gqt f_x_0) (cwV 1 hts (hx_gV kw_442 kw_439 kw_441 kw_0 kw_94) rfl rfl rfl (by decide +kernel) ⟨Nat.le_of_ble_eq_true rfl, Nat.le_of_ble_eq_true rfl⟩) rfl hl.1 rfl (Nat.le_of_ble_eq_true rfl) dX9_feed_22 ⟨Nat.le_of_ble_eq_true rfl, Nat.le_of_ble_eq_true rfl⟩) hW (fun L_8 h_9 H locs p_11 hW => ?_)
  obtain ⟨hs, f_12⟩ := p_11
  have hs : hx_S P_tb [(9, 1), (42, 0)] L_3 h_4 L_8 h_9 := hs
  have f_12 : h_9.2.1 x 1 = _ := f_12
  have f_x_0 := (hs.o gx trivial rfl).2.trans f_x_0
  have hM := hM.tr (hs.mono (by decide))
  have gx := gx.S hs
  have gqt := gqt.S hs
  refine lv_aload_n hx hb dX9_feed_25 rfl (lv_at hl 0 rfl) ?_
  refine lv_iload_n hx hb dX9_feed_26 rfl (lv_at hl 3 rfl) ?_
  refine hx_gov (hx_runV (As := [.int i3]) (rest := []) ⟨hx, hb, hml, hown, hts⟩ hW gx td_9 (T := TX9) (N := 20) rfl (c_X9_feedBytes_8 l dC dI dA L_8 h_9 H.size x i3 gx f_12 qt gqt f_x_0) (cwV 1 hts (hx_gV kw_442 kw_439 kw_441 kw_0 kw_94) rfl rfl rfl (by decide +kernel) ⟨Nat.le_of_ble_eq_true rfl, Nat.le_of_ble_eq_true rfl⟩) rfl hl.1 rfl (Nat.le_of_ble_eq_true rfl) dX9_feed_27 ⟨Nat.le_of_ble_eq_true rfl, Nat.le_of_ble_eq_true rfl⟩) hW (fun L_13 h_14 H locs p_16 hW => ?_)
  obtain ⟨hs, f_17⟩ := p_16
  have hs : hx_S P_tb [(9, 1), (42, 0)] L_8 h_9 L_13 h_14 := hs
  have f_17 : h_14.2.1 x 1 = _ := f_17
  have f_x_0 := (hs.o gx trivial rfl).2.trans f_x_0
  have hM := hM.tr (hs.mono (by decide))
  have gx := gx.S hs
  have gqt := gqt.S hs
  refine lv_aload_n hx hb dX9_feed_30 rfl (lv_at hl 0 rfl) ?_
  refine lv_iload hx hb dX9_feed_31 (lv_at hl 4 rfl) ?_
  refine hx_gov (hx_runV (As := [.int i4]) (rest := []) ⟨hx, hb, hml, hown, hts⟩ hW gx td_9 (T := TX9) (N := 20) rfl (c_X9_feedBytes_12 l dC dI dA L_13 h_14 H.size x i4 gx f_17 qt gqt f_x_0) (cwV 1 hts (hx_gV kw_442 kw_439 kw_441 kw_0 kw_94) rfl rfl rfl (by decide +kernel) ⟨Nat.le_of_ble_eq_true rfl, Nat.le_of_ble_eq_true rfl⟩) rfl hl.1 rfl (Nat.le_of_ble_eq_true rfl) dX9_feed_33 ⟨Nat.le_of_ble_eq_true rfl, Nat.le_of_ble_eq_true rfl⟩) hW (fun L_18 h_19 H locs p_21 hW => ?_)
  obtain ⟨hs, f_22⟩ := p_21
  have hs : hx_S P_tb [(9, 1), (42, 0)] L_13 h_14 L_18 h_19 := hs
  have f_22 : h_19.2.1 x 1 = _ := f_22
  have f_x_0 := (hs.o gx trivial rfl).2.trans f_x_0
  have hM := hM.tr (hs.mono (by decide))
  have gx := gx.S hs
  have gqt := gqt.S hs
  refine lv_aload_n hx hb dX9_feed_36 rfl (lv_at hl 0 rfl) ?_
  refine lv_iload hx hb dX9_feed_37 (lv_at hl 5 rfl) ?_
  refine hx_gov (hx_runV (As := [.int i5]) (rest := []) ⟨hx, hb, hml, hown, hts⟩ hW gx td_9 (T := TX9) (N := 20) rfl (c_X9_feedBytes_16 l dC dI dA L_18 h_19 H.size x i5 gx f_22 qt gqt f_x_0) (cwV 1 hts (hx_gV kw_442 kw_439 kw_441 kw_0 kw_94) rfl rfl rfl (by decide +kernel) ⟨Nat.le_of_ble_eq_true rfl, Nat.le_of_ble_eq_true rfl⟩) rfl hl.1 rfl (Nat.le_of_ble_eq_true rfl) dX9_feed_39 ⟨Nat.le_of_ble_eq_true rfl, Nat.le_of_ble_eq_true rfl⟩) hW (fun L_23 h_24 H locs p_26 hW => ?_)
  obtain ⟨hs, f_27⟩ := p_26
  have hs : hx_S P_tb [(9, 1), (42, 0)] L_18 h_19 L_23 h_24 := hs
  have f_27 : h_24.2.1 x 1 = _ := f_27
  have f_x_0 := (hs.o gx trivial rfl).2.trans f_x_0
  have hM := hM.tr (hs.mono (by decide))
  have gx := gx.S hs
  have gqt := gqt.S hs
  refine lv_aload_n hx hb dX9_feed_42 rfl (lv_at hl 0 rfl) ?_
  refine hk_geti hx hb hts hC_9 hown hW gx td_9 1 (by decide) rfl kw_365 ⟨rfl, rfl, rfl⟩ f_27 dX9_feed_43 ?_
  exact hx_reti hx hb hr hlk hW ⟨rfl, hM⟩ dX9_feed_46

theorem dX10_feed_0 : decode cX10_feed 0 = .ok (.aload_n 0, 1) := by decide +kernel
theorem dX10_feed_1 : decode cX10_feed 1 = .ok (.getfield 236, 3) := by decide +kernel
theorem dX10_feed_4 : decode cX10_feed 4 = .ok (.bipush 20, 2) := by decide +kernel
theorem dX10_feed_6 : decode cX10_feed 6 = .ok (.iadd, 1) := by decide +kernel
theorem dX10_feed_7 : decode cX10_feed 7 = .ok (.sipush 400, 3) := by decide +kernel
theorem dX10_feed_10 : decode cX10_feed 10 = .ok (.if_icmp .le 5, 3) := by decide +kernel
theorem dX10_feed_15 : decode cX10_feed 15 = .ok (.aload_n 0, 1) := by decide +kernel
theorem dX10_feed_16 : decode cX10_feed 16 = .ok (.iload_n 1, 1) := by decide +kernel
theorem dX10_feed_17 : decode cX10_feed 17 = .ok (.invokevirtual 239, 3) := by decide +kernel
theorem dX10_feed_20 : decode cX10_feed 20 = .ok (.aload_n 0, 1) := by decide +kernel
theorem dX10_feed_21 : decode cX10_feed 21 = .ok (.iload_n 2, 1) := by decide +kernel
theorem dX10_feed_22 : decode cX10_feed 22 = .ok (.invokevirtual 239, 3) := by decide +kernel
theorem dX10_feed_25 : decode cX10_feed 25 = .ok (.aload_n 0, 1) := by decide +kernel
theorem dX10_feed_26 : decode cX10_feed 26 = .ok (.iload_n 3, 1) := by decide +kernel
theorem dX10_feed_27 : decode cX10_feed 27 = .ok (.invokevirtual 239, 3) := by decide +kernel
theorem dX10_feed_30 : decode cX10_feed 30 = .ok (.aload_n 0, 1) := by decide +kernel
theorem dX10_feed_31 : decode cX10_feed 31 = .ok (.iload 4, 2) := by decide +kernel
theorem dX10_feed_33 : decode cX10_feed 33 = .ok (.invokevirtual 239, 3) := by decide +kernel
theorem dX10_feed_36 : decode cX10_feed 36 = .ok (.aload_n 0, 1) := by decide +kernel
theorem dX10_feed_37 : decode cX10_feed 37 = .ok (.iload 5, 2) := by decide +kernel
theorem dX10_feed_39 : decode cX10_feed 39 = .ok (.invokevirtual 239, 3) := by decide +kernel
theorem dX10_feed_42 : decode cX10_feed 42 = .ok (.aload_n 0, 1) := by decide +kernel
theorem dX10_feed_43 : decode cX10_feed 43 = .ok (.getfield 236, 3) := by decide +kernel
theorem dX10_feed_46 : decode cX10_feed 46 = .ok (.ireturn, 1) := by decide +kernel
set_option maxHeartbeats 4000000 in
set_option maxRecDepth 100000 in
theorem c_X10_feed (l : Launch) (dC : Nat → ClassId) (dI : Nat → Nat → Nat) (dA : Nat → ClassId) (L : List Nat) (h : hx_h) (sz : Nat) (y : Nat) (i1 : Int32) (i2 : Int32) (i3 : Int32) (i4 : Int32) (i5 : Int32) (gy : hx_g L h y 10) (f_y_7 : h.2.1 y 7 = 0) (qt : Nat) (gqt : hx_g L h qt 53) (f_y_6 : h.2.2 y 6 = some qt) : Met l yX10_feed (Cond.code yX10_feed cX10_feed 6 (some .int) :: hx_all) ({ frames := 1, cells := 0, slots := 0, locals := 22 }) (va_Pc [.ref y, .int i1, .int i2, .int i3, .int i4, .int i5] (hx_B P_tb (P_ty dA) (dC, dI) vwCl L h sz)) (va_Qi (fun (r : Int32) (u : List Nat × hx_h) => (r = 20) ∧ hx_S P_tb [(10, 7), (53, 0)] L h u.1 u.2) (hx_E P_tb (P_ty dA) (dC, dI) vwCl (hx_A L sz)) (hx_A L sz)) 0 0 (hx_A L sz) := by
  refine hx_met (lv := [(0, .ref y), (1, .int i1), (2, .int i2), (3, .int i3), (4, .int i4), (5, .int i5)]) (by decide +kernel) rfl (Nat.le_of_ble_eq_true rfl) rfl ?_
  intro p e s m below meth c hx hb hml hr hlk hts0 hown hin hsz hW ls hl
  have hts : ∀ w ∈ hx_all, w.before _ s = true := fun w hw => hts0 w (List.mem_cons_of_mem _ hw)
  have hown : s.vm.findClass "SmallCourtModel" = some m.cls := hown
  have hM : hx_S P_tb [(10, 7), (53, 0)] L h L h := hx_S.rf
  refine lv_aload_n hx hb dX10_feed_0 rfl (lv_at hl 0 rfl) ?_
  refine hk_geti hx hb hts hC_10 hown hW gy td_10 7 (by decide) rfl kw_1150 ⟨rfl, rfl, rfl⟩ f_y_7 dX10_feed_1 ?_
  refine lv_bipush (v := 20) hx hb dX10_feed_4 (by decide) ?_
  refine lv_iadd hx hb dX10_feed_6 ?_
  refine lv_topi (fun x_1 ex_1 => ?_)
  obtain rfl : x_1 = (20 : Int32) := ex_1.trans (by decide)
  refine lv_sipush (v := 400) hx hb dX10_feed_7 (by decide) ?_
  refine hb_icmp_le (zx := 20) (zy := 400) (tgt := 15) hx hb (by decide) (by decide) dX10_feed_10 (by decide) (fun c_2 => ?_) (fun c_2 => absurd c_2 (by decide))
  refine lv_aload_n hx hb dX10_feed_15 rfl (lv_at hl 0 rfl) ?_
  refine lv_iload_n hx hb dX10_feed_16 rfl (lv_at hl 1 rfl) ?_
  refine hx_gov (hx_runV (As := [.int i1]) (rest := []) ⟨hx, hb, hml, hown, hts⟩ hW gy td_10 (T := TX10) (N := 98) rfl (c_X10_four_0 l dC dI dA L h s.heap.size y i1 gy f_y_7 qt gqt f_y_6) (cwV 1 hts (hx_gV kw_1453 kw_1450 kw_1452 kw_52 kw_103) rfl rfl rfl (by decide +kernel) ⟨Nat.le_of_ble_eq_true rfl, Nat.le_of_ble_eq_true rfl⟩) rfl hl.1 rfl (Nat.le_of_ble_eq_true rfl) dX10_feed_17 ⟨Nat.le_of_ble_eq_true rfl, Nat.le_of_ble_eq_true rfl⟩) hW (fun L_3 h_4 H locs p_6 hW => ?_)
  obtain ⟨hs, f_7⟩ := p_6
  have hs : hx_S P_tb [(10, 7), (53, 0)] L h L_3 h_4 := hs
  have f_7 : h_4.2.1 y 7 = _ := f_7
  have f_y_6 := (hs.o gy trivial rfl).2.trans f_y_6
  have hM := hM.tr (hs.mono (by decide))
  have gy := gy.S hs
  have gqt := gqt.S hs
  refine lv_aload_n hx hb dX10_feed_20 rfl (lv_at hl 0 rfl) ?_
  refine lv_iload_n hx hb dX10_feed_21 rfl (lv_at hl 2 rfl) ?_
  refine hx_gov (hx_runV (As := [.int i2]) (rest := []) ⟨hx, hb, hml, hown, hts⟩ hW gy td_10 (T := TX10) (N := 98) rfl (c_X10_four_4 l dC dI dA L_3 h_4 H.size y i2 gy f_7 qt gqt f_y_6) (cwV 1 hts (hx_gV kw_1453 kw_1450 kw_1452 kw_52 kw_103) rfl rfl rfl (by decide +kernel) ⟨Nat.le_of_ble_eq_true rfl, Nat.le_of_ble_eq_true rfl⟩) rfl hl.1 rfl (Nat.le_of_ble_eq_true rfl) dX10_feed_22 ⟨Nat.le_of_ble_eq_true rfl, Nat.le_of_ble_eq_true rfl⟩) hW (fun L_8 h_9 H locs p_11 hW => ?_)
  obtain ⟨hs, f_12⟩ := p_11
  have hs : hx_S P_tb [(10, 7), (53, 0)] L_3 h_4 L_8 h_9 := hs
  have f_12 : h_9.2.1 y 7 = _ := f_12
  have f_y_6 := (hs.o gy trivial rfl).2.trans f_y_6
  have hM := hM.tr (hs.mono (by decide))
  have gy := gy.S hs
  have gqt := gqt.S hs
  refine lv_aload_n hx hb dX10_feed_25 rfl (lv_at hl 0 rfl) ?_
  refine lv_iload_n hx hb dX10_feed_26 rfl (lv_at hl 3 rfl) ?_
  refine hx_gov (hx_runV (As := [.int i3]) (rest := []) ⟨hx, hb, hml, hown, hts⟩ hW gy td_10 (T := TX10) (N := 98) rfl (c_X10_four_8 l dC dI dA L_8 h_9 H.size y i3 gy f_12 qt gqt f_y_6) (cwV 1 hts (hx_gV kw_1453 kw_1450 kw_1452 kw_52 kw_103) rfl rfl rfl (by decide +kernel) ⟨Nat.le_of_ble_eq_true rfl, Nat.le_of_ble_eq_true rfl⟩) rfl hl.1 rfl (Nat.le_of_ble_eq_true rfl) dX10_feed_27 ⟨Nat.le_of_ble_eq_true rfl, Nat.le_of_ble_eq_true rfl⟩) hW (fun L_13 h_14 H locs p_16 hW => ?_)
  obtain ⟨hs, f_17⟩ := p_16
  have hs : hx_S P_tb [(10, 7), (53, 0)] L_8 h_9 L_13 h_14 := hs
  have f_17 : h_14.2.1 y 7 = _ := f_17
  have f_y_6 := (hs.o gy trivial rfl).2.trans f_y_6
  have hM := hM.tr (hs.mono (by decide))
  have gy := gy.S hs
  have gqt := gqt.S hs
  refine lv_aload_n hx hb dX10_feed_30 rfl (lv_at hl 0 rfl) ?_
  refine lv_iload hx hb dX10_feed_31 (lv_at hl 4 rfl) ?_
  refine hx_gov (hx_runV (As := [.int i4]) (rest := []) ⟨hx, hb, hml, hown, hts⟩ hW gy td_10 (T := TX10) (N := 98) rfl (c_X10_four_12 l dC dI dA L_13 h_14 H.size y i4 gy f_17 qt gqt f_y_6) (cwV 1 hts (hx_gV kw_1453 kw_1450 kw_1452 kw_52 kw_103) rfl rfl rfl (by decide +kernel) ⟨Nat.le_of_ble_eq_true rfl, Nat.le_of_ble_eq_true rfl⟩) rfl hl.1 rfl (Nat.le_of_ble_eq_true rfl) dX10_feed_33 ⟨Nat.le_of_ble_eq_true rfl, Nat.le_of_ble_eq_true rfl⟩) hW (fun L_18 h_19 H locs p_21 hW => ?_)
  obtain ⟨hs, f_22⟩ := p_21
  have hs : hx_S P_tb [(10, 7), (53, 0)] L_13 h_14 L_18 h_19 := hs
  have f_22 : h_19.2.1 y 7 = _ := f_22
  have f_y_6 := (hs.o gy trivial rfl).2.trans f_y_6
  have hM := hM.tr (hs.mono (by decide))
  have gy := gy.S hs
  have gqt := gqt.S hs
  refine lv_aload_n hx hb dX10_feed_36 rfl (lv_at hl 0 rfl) ?_
  refine lv_iload hx hb dX10_feed_37 (lv_at hl 5 rfl) ?_
  refine hx_gov (hx_runV (As := [.int i5]) (rest := []) ⟨hx, hb, hml, hown, hts⟩ hW gy td_10 (T := TX10) (N := 98) rfl (c_X10_four_16 l dC dI dA L_18 h_19 H.size y i5 gy f_22 qt gqt f_y_6) (cwV 1 hts (hx_gV kw_1453 kw_1450 kw_1452 kw_52 kw_103) rfl rfl rfl (by decide +kernel) ⟨Nat.le_of_ble_eq_true rfl, Nat.le_of_ble_eq_true rfl⟩) rfl hl.1 rfl (Nat.le_of_ble_eq_true rfl) dX10_feed_39 ⟨Nat.le_of_ble_eq_true rfl, Nat.le_of_ble_eq_true rfl⟩) hW (fun L_23 h_24 H locs p_26 hW => ?_)
  obtain ⟨hs, f_27⟩ := p_26
  have hs : hx_S P_tb [(10, 7), (53, 0)] L_18 h_19 L_23 h_24 := hs
  have f_27 : h_24.2.1 y 7 = _ := f_27
  have f_y_6 := (hs.o gy trivial rfl).2.trans f_y_6
  have hM := hM.tr (hs.mono (by decide))
  have gy := gy.S hs
  have gqt := gqt.S hs
  refine lv_aload_n hx hb dX10_feed_42 rfl (lv_at hl 0 rfl) ?_
  refine hk_geti hx hb hts hC_10 hown hW gy td_10 7 (by decide) rfl kw_1150 ⟨rfl, rfl, rfl⟩ f_27 dX10_feed_43 ?_
  exact hx_reti hx hb hr hlk hW ⟨rfl, hM⟩ dX10_feed_46
end
section
theorem dX8_retrace_0 : decode cX8_retrace 0 = .ok (.iconst 0, 1) := by decide +kernel
theorem dX8_retrace_1 : decode cX8_retrace 1 = .ok (.istore_n 2, 1) := by decide +kernel
theorem dX8_retrace_2 : decode cX8_retrace 2 = .ok (.iconst (-1), 1) := by decide +kernel
theorem dX8_retrace_3 : decode cX8_retrace 3 = .ok (.istore_n 3, 1) := by decide +kernel
theorem dX8_retrace_4 : decode cX8_retrace 4 = .ok (.iload_n 1, 1) := by decide +kernel
theorem dX8_retrace_5 : decode cX8_retrace 5 = .ok (.istore 4, 2) := by decide +kernel
theorem dX8_retrace_7 : decode cX8_retrace 7 = .ok (.iconst 0, 1) := by decide +kernel
theorem dX8_retrace_8 : decode cX8_retrace 8 = .ok (.istore 5, 2) := by decide +kernel
theorem dX8_retrace_10 : decode cX8_retrace 10 = .ok (.iload 5, 2) := by decide +kernel
theorem dX8_retrace_12 : decode cX8_retrace 12 = .ok (.aload_n 0, 1) := by decide +kernel
theorem dX8_retrace_13 : decode cX8_retrace 13 = .ok (.getfield 24, 3) := by decide +kernel
theorem dX8_retrace_16 : decode cX8_retrace 16 = .ok (.if_icmp .ge 59, 3) := by decide +kernel
theorem dX8_retrace_75 : decode cX8_retrace 75 = .ok (.return_, 1) := by decide +kernel
set_option maxHeartbeats 4000000 in
set_option maxRecDepth 100000 in
theorem c_X8_retrace (l : Launch) (dC : Nat → ClassId) (dI : Nat → Nat → Nat) (dA : Nat → ClassId) (L : List Nat) (h : hx_h) (sz : Nat) (x : Nat) (gx : hx_g L h x 8) (f_x_0 : h.2.1 x 0 = 0) : Met l yX8_retrace (Cond.code yX8_retrace cX8_retrace 7 none :: hx_all) ({ frames := 0, cells := 0, slots := 0, locals := 0 }) (va_Pc [.ref x, .int (0 : Int32)] (hx_B P_tb (P_ty dA) (dC, dI) vwCl L h sz)) (va_Qv (fun (u : List Nat × hx_h) => hx_S P_tb [] L h u.1 u.2) (hx_E P_tb (P_ty dA) (dC, dI) vwCl (hx_A L sz)) (hx_A L sz)) 0 0 (hx_A L sz) := by
  refine hx_met (lv := [(0, .ref x), (1, .int (0 : Int32))]) (by decide +kernel) rfl (Nat.le_of_ble_eq_true rfl) rfl ?_
  intro p e s m below meth c hx hb hml hr hlk hts0 hown hin hsz hW ls hl
  have hts : ∀ w ∈ hx_all, w.before _ s = true := fun w hw => hts0 w (List.mem_cons_of_mem _ hw)
  have hown : s.vm.findClass "SmallCourt$Walk" = some m.cls := hown
  have hM : hx_S P_tb [] L h L h := hx_S.rf
  refine lv_iconst (v := 0) hx hb dX8_retrace_0 (by decide) ?_
  refine lv_istore_n (lv' := [(2, .int (0 : Int32)), (0, .ref x), (1, .int (0 : Int32))]) hx hb dX8_retrace_1 rfl hl (by decide) rfl (fun ls hl => ?_)
  refine lv_iconst (v := -1) hx hb dX8_retrace_2 (by decide) ?_
  refine lv_istore_n (lv' := [(3, .int (-1 : Int32)), (2, .int (0 : Int32)), (0, .ref x), (1, .int (0 : Int32))]) hx hb dX8_retrace_3 rfl hl (by decide) rfl (fun ls hl => ?_)
  refine lv_iload_n hx hb dX8_retrace_4 rfl (lv_at hl 3 rfl) ?_
  refine lv_istore (lv' := [(4, .int (0 : Int32)), (3, .int (-1 : Int32)), (2, .int (0 : Int32)), (0, .ref x), (1, .int (0 : Int32))]) hx hb dX8_retrace_5 hl (by decide) rfl (fun ls hl => ?_)
  refine lv_iconst (v := 0) hx hb dX8_retrace_7 (by decide) ?_
  refine lv_istore (lv' := [(5, .int (0 : Int32)), (4, .int (0 : Int32)), (3, .int (-1 : Int32)), (2, .int (0 : Int32)), (0, .ref x), (1, .int (0 : Int32))]) hx hb dX8_retrace_8 hl (by decide) rfl (fun ls hl => ?_)
  refine lv_iload hx hb dX8_retrace_10 (lv_at hl 0 rfl) ?_
  refine lv_aload_n hx hb dX8_retrace_12 rfl (lv_at hl 4 rfl) ?_
  refine hk_geti hx hb hts hC_8 hown hW gx td_8 0 (by decide) rfl kw_345 ⟨rfl, rfl, rfl⟩ f_x_0 dX8_retrace_13 ?_
  refine hb_icmp_ge (zx := 0) (zy := 0) (tgt := 75) hx hb (by decide) (by decide) dX8_retrace_16 (by decide) (fun c_1 => ?_) (fun c_1 => absurd c_1 (by decide))
  exact hx_retv hx hb hr hlk hW hM dX8_retrace_75

theorem dX8_walkList_0 : decode cX8_walkList 0 = .ok (.iconst 1, 1) := by decide +kernel
theorem dX8_walkList_1 : decode cX8_walkList 1 = .ok (.aload_n 0, 1) := by decide +kernel
theorem dX8_walkList_2 : decode cX8_walkList 2 = .ok (.getfield 24, 3) := by decide +kernel
theorem dX8_walkList_5 : decode cX8_walkList 5 = .ok (.ishl, 1) := by decide +kernel
theorem dX8_walkList_6 : decode cX8_walkList 6 = .ok (.iconst 1, 1) := by decide +kernel
theorem dX8_walkList_7 : decode cX8_walkList 7 = .ok (.isub, 1) := by decide +kernel
theorem dX8_walkList_8 : decode cX8_walkList 8 = .ok (.istore_n 1, 1) := by decide +kernel
theorem dX8_walkList_9 : decode cX8_walkList 9 = .ok (.iload_n 1, 1) := by decide +kernel
theorem dX8_walkList_10 : decode cX8_walkList 10 = .ok (.istore_n 2, 1) := by decide +kernel
theorem dX8_walkList_11 : decode cX8_walkList 11 = .ok (.iload_n 2, 1) := by decide +kernel
theorem dX8_walkList_12 : decode cX8_walkList 12 = .ok (.ifCond .le 63, 3) := by decide +kernel
theorem dX8_walkList_75 : decode cX8_walkList 75 = .ok (.aload_n 0, 1) := by decide +kernel
theorem dX8_walkList_76 : decode cX8_walkList 76 = .ok (.getfield 24, 3) := by decide +kernel
theorem dX8_walkList_79 : decode cX8_walkList 79 = .ok (.ifCond .ne 7, 3) := by decide +kernel
theorem dX8_walkList_82 : decode cX8_walkList 82 = .ok (.iconst 0, 1) := by decide +kernel
theorem dX8_walkList_83 : decode cX8_walkList 83 = .ok (.goto 9, 3) := by decide +kernel
theorem dX8_walkList_92 : decode cX8_walkList 92 = .ok (.istore_n 2, 1) := by decide +kernel
theorem dX8_walkList_93 : decode cX8_walkList 93 = .ok (.aload_n 0, 1) := by decide +kernel
theorem dX8_walkList_94 : decode cX8_walkList 94 = .ok (.iload_n 2, 1) := by decide +kernel
theorem dX8_walkList_95 : decode cX8_walkList 95 = .ok (.invokevirtual 43, 3) := by decide +kernel
theorem dX8_walkList_98 : decode cX8_walkList 98 = .ok (.aload_n 0, 1) := by decide +kernel
theorem dX8_walkList_99 : decode cX8_walkList 99 = .ok (.aload_n 0, 1) := by decide +kernel
theorem dX8_walkList_100 : decode cX8_walkList 100 = .ok (.getfield 24, 3) := by decide +kernel
theorem dX8_walkList_103 : decode cX8_walkList 103 = .ok (.putfield 47, 3) := by decide +kernel
theorem dX8_walkList_106 : decode cX8_walkList 106 = .ok (.aload_n 0, 1) := by decide +kernel
theorem dX8_walkList_107 : decode cX8_walkList 107 = .ok (.iconst 0, 1) := by decide +kernel
theorem dX8_walkList_108 : decode cX8_walkList 108 = .ok (.putfield 24, 3) := by decide +kernel
theorem dX8_walkList_111 : decode cX8_walkList 111 = .ok (.iload_n 2, 1) := by decide +kernel
theorem dX8_walkList_112 : decode cX8_walkList 112 = .ok (.ireturn, 1) := by decide +kernel
set_option maxHeartbeats 4000000 in
set_option maxRecDepth 100000 in
theorem c_X8_walkList (l : Launch) (dC : Nat → ClassId) (dI : Nat → Nat → Nat) (dA : Nat → ClassId) (L : List Nat) (h : hx_h) (sz : Nat) (x : Nat) (gx : hx_g L h x 8) (f_x_0 : h.2.1 x 0 = 0) : Met l yX8_walkList (Cond.code yX8_walkList cX8_walkList 4 (some .int) :: hx_all) ({ frames := 1, cells := 0, slots := 0, locals := 26 }) (va_Pc [.ref x] (hx_B P_tb (P_ty dA) (dC, dI) vwCl L h sz)) (va_Qi (fun (r : Int32) (u : List Nat × hx_h) => (r = 0) ∧ hx_S P_tb [(8, 0), (8, 1)] L h u.1 u.2) (hx_E P_tb (P_ty dA) (dC, dI) vwCl (hx_A L sz)) (hx_A L sz)) 0 0 (hx_A L sz) := by
  refine hx_met (lv := [(0, .ref x)]) (by decide +kernel) rfl (Nat.le_of_ble_eq_true rfl) rfl ?_
  intro p e s m below meth c hx hb hml hr hlk hts0 hown hin hsz hW ls hl
  have hts : ∀ w ∈ hx_all, w.before _ s = true := fun w hw => hts0 w (List.mem_cons_of_mem _ hw)
  have hown : s.vm.findClass "SmallCourt$Walk" = some m.cls := hown
  have hM : hx_S P_tb [(8, 0), (8, 1)] L h L h := hx_S.rf
  refine lv_iconst (v := 1) hx hb dX8_walkList_0 (by decide) ?_
  refine lv_aload_n hx hb dX8_walkList_1 rfl (lv_at hl 0 rfl) ?_
  refine hk_geti hx hb hts hC_8 hown hW gx td_8 0 (by decide) rfl kw_345 ⟨rfl, rfl, rfl⟩ f_x_0 dX8_walkList_2 ?_
  refine lv_ishl hx hb dX8_walkList_5 ?_
  refine lv_topi (fun x_1 ex_1 => ?_)
  obtain rfl : x_1 = (1 : Int32) := ex_1.trans (by decide)
  refine lv_iconst (v := 1) hx hb dX8_walkList_6 (by decide) ?_
  refine lv_isub hx hb dX8_walkList_7 ?_
  refine lv_topi (fun x_2 ex_2 => ?_)
  obtain rfl : x_2 = (0 : Int32) := ex_2.trans (by decide)
  refine lv_istore_n (lv' := [(1, .int (0 : Int32)), (0, .ref x)]) hx hb dX8_walkList_8 rfl hl (by decide) rfl (fun ls hl => ?_)
  refine lv_iload_n hx hb dX8_walkList_9 rfl (lv_at hl 0 rfl) ?_
  refine lv_istore_n (lv' := [(2, .int (0 : Int32)), (1, .int (0 : Int32)), (0, .ref x)]) hx hb dX8_walkList_10 rfl hl (by decide) rfl (fun ls hl => ?_)
  refine lv_iload_n hx hb dX8_walkList_11 rfl (lv_at hl 0 rfl) ?_
  refine hb_if_le (zx := 0) (tgt := 75) hx hb (by decide) dX8_walkList_12 (by decide) (fun c_3 => ?_) (fun c_3 => absurd c_3 (by decide))
  refine lv_aload_n hx hb dX8_walkList_75 rfl (lv_at hl 2 rfl) ?_
  refine hk_geti hx hb hts hC_8 hown hW gx td_8 0 (by decide) rfl kw_345 ⟨rfl, rfl, rfl⟩ f_x_0 dX8_walkList_76 ?_
  refine hb_if_ne (zx := 0) (tgt := 86) hx hb (by decide) dX8_walkList_79 (by decide) (fun c_4 => absurd c_4 (by decide)) (fun c_4 => ?_)
  refine lv_iconst (v := 0) hx hb dX8_walkList_82 (by decide) ?_
  refine lv_goto (tgt := 92) hx hb dX8_walkList_83 (by decide) ?_
  refine lv_istore_n (lv' := [(2, .int (0 : Int32)), (1, .int (0 : Int32)), (0, .ref x)]) hx hb dX8_walkList_92 rfl hl (by decide) rfl (fun ls hl => ?_)
  refine lv_aload_n hx hb dX8_walkList_93 rfl (lv_at hl 2 rfl) ?_
  refine lv_iload_n hx hb dX8_walkList_94 rfl (lv_at hl 0 rfl) ?_
  refine hx_gov (hx_runV (As := [.int (0 : Int32)]) (rest := []) ⟨hx, hb, hml, hown, hts⟩ hW gx td_8 (T := TX8) (N := 5) rfl (c_X8_retrace l dC dI dA L h s.heap.size x gx f_x_0) (cwV 1 hts (hx_gV kw_1080 kw_1077 kw_1079 kw_45 kw_102) rfl rfl rfl (by decide +kernel) ⟨Nat.le_of_ble_eq_true rfl, Nat.le_of_ble_eq_true rfl⟩) rfl hl.1 rfl (Nat.le_of_ble_eq_true rfl) dX8_walkList_95 ⟨Nat.le_of_ble_eq_true rfl, Nat.le_of_ble_eq_true rfl⟩) hW (fun L_5 h_6 H locs p_8 hW => ?_)
  have hs : hx_S P_tb [] L h L_5 h_6 := p_8
  have f_x_0 := (hs.o gx trivial rfl).1.trans f_x_0
  have hM := hM.tr (hs.mono (by decide))
  have gx := gx.S hs
  refine lv_aload_n hx hb dX8_walkList_98 rfl (lv_at hl 2 rfl) ?_
  refine lv_aload_n hx hb dX8_walkList_99 rfl (lv_at hl 2 rfl) ?_
  refine hk_geti hx hb hts hC_8 hown hW gx td_8 0 (by decide) rfl kw_345 ⟨rfl, rfl, rfl⟩ f_x_0 dX8_walkList_100 ?_
  refine hk_puti hx hb hts hC_8 hown hW gx td_8 1 (by decide) rfl kw_347 ⟨rfl, rfl, rfl⟩ rfl (x := (0 : Int32)) rfl rfl rfl dX8_walkList_103 (fun H locs h_9 eh_9 hW hs => ?_)
  have f_x_0 := (hs.o gx trivial rfl).1.trans f_x_0
  have hM := hM.tr (hs.mono (by decide))
  have gx := gx.S hs
  have f_10 : h_9.2.1 x 1 = (0 : Int32) := by rw [eh_9]; exact hx_pi_at _ _ _ _
  refine lv_aload_n hx hb dX8_walkList_106 rfl (lv_at hl 2 rfl) ?_
  refine lv_iconst (v := 0) hx hb dX8_walkList_107 (by decide) ?_
  refine hk_puti hx hb hts hC_8 hown hW gx td_8 0 (by decide) rfl kw_345 ⟨rfl, rfl, rfl⟩ rfl (x := (0 : Int32)) rfl rfl rfl dX8_walkList_108 (fun H locs h_11 eh_11 hW hs => ?_)
  have f_10 := (hs.o gx trivial rfl).1.trans f_10
  have hM := hM.tr (hs.mono (by decide))
  have gx := gx.S hs
  have f_12 : h_11.2.1 x 0 = (0 : Int32) := by rw [eh_11]; exact hx_pi_at _ _ _ _
  refine lv_iload_n hx hb dX8_walkList_111 rfl (lv_at hl 0 rfl) ?_
  exact hx_reti hx hb hr hlk hW ⟨rfl, hM⟩ dX8_walkList_112

theorem dX9_walk_0 : decode cX9_walk 0 = .ok (.aload_n 0, 1) := by decide +kernel
theorem dX9_walk_1 : decode cX9_walk 1 = .ok (.getfield 86, 3) := by decide +kernel
theorem dX9_walk_4 : decode cX9_walk 4 = .ok (.invokevirtual 388, 3) := by decide +kernel
theorem dX9_walk_7 : decode cX9_walk 7 = .ok (.ireturn, 1) := by decide +kernel
set_option maxHeartbeats 4000000 in
set_option maxRecDepth 100000 in
theorem c_X9_walk (l : Launch) (dC : Nat → ClassId) (dI : Nat → Nat → Nat) (dA : Nat → ClassId) (L : List Nat) (h : hx_h) (sz : Nat) (x : Nat) (gx : hx_g L h x 9) (qw : Nat) (gqw : hx_g L h qw 8) (f_x_19 : h.2.2 x 19 = some qw) (f_qw_0 : h.2.1 qw 0 = 0) : Met l yX9_walk (Cond.code yX9_walk cX9_walk 1 (some .int) :: hx_all) ({ frames := 2, cells := 0, slots := 0, locals := 49 }) (va_Pc [.ref x] (hx_B P_tb (P_ty dA) (dC, dI) vwCl L h sz)) (va_Qi (fun (r : Int32) (u : List Nat × hx_h) => (r = 0) ∧ hx_S P_tb [(8, 0), (8, 1)] L h u.1 u.2) (hx_E P_tb (P_ty dA) (dC, dI) vwCl (hx_A L sz)) (hx_A L sz)) 0 0 (hx_A L sz) := by
  refine hx_met (lv := [(0, .ref x)]) (by decide +kernel) rfl (Nat.le_of_ble_eq_true rfl) rfl ?_
  intro p e s m below meth c hx hb hml hr hlk hts0 hown hin hsz hW ls hl
  have hts : ∀ w ∈ hx_all, w.before _ s = true := fun w hw => hts0 w (List.mem_cons_of_mem _ hw)
  have hown : s.vm.findClass "SmallCourt" = some m.cls := hown
  have hM : hx_S P_tb [(8, 0), (8, 1)] L h L h := hx_S.rf
  refine lv_aload_n hx hb dX9_walk_0 rfl (lv_at hl 0 rfl) ?_
  refine hk_getr hx hb hts hC_9 hown hW gx td_9 19 (by decide) rfl kw_383 ⟨rfl, rfl, rfl⟩ f_x_19 dX9_walk_1 ?_
  refine hx_goi (hx_runV (As := []) (rest := []) ⟨hx, hb, hml, hown, hts⟩ hW gqw td_8 (T := TX8) (N := 5) rfl (c_X8_walkList l dC dI dA L h s.heap.size qw gqw f_qw_0) (cwV 0 hts (hx_gV kw_1055 kw_1052 kw_1053 kw_1054 kw_102) rfl rfl rfl (by decide +kernel) ⟨Nat.le_of_ble_eq_true rfl, Nat.le_of_ble_eq_true rfl⟩) rfl hl.1 rfl (Nat.le_of_ble_eq_true rfl) dX9_walk_4 ⟨Nat.le_of_ble_eq_true rfl, Nat.le_of_ble_eq_true rfl⟩) hW (fun r_3 L_1 h_2 H locs p_4 hW => ?_)
  obtain ⟨er, hs⟩ := p_4
  have hs : hx_S P_tb [(8, 0), (8, 1)] L h L_1 h_2 := hs
  have f_x_19 := (hs.o gx trivial rfl).2.trans f_x_19
  have hM := hM.tr (hs.mono (by decide))
  have gx := gx.S hs
  have gqw := gqw.S hs
  subst er
  exact hx_reti hx hb hr hlk hW ⟨rfl, hM⟩ dX9_walk_7

theorem dX10_stepsBetween_0 : decode cX10_stepsBetween 0 = .ok (.iload_n 0, 1) := by decide +kernel
theorem dX10_stepsBetween_1 : decode cX10_stepsBetween 1 = .ok (.iload_n 2, 1) := by decide +kernel
theorem dX10_stepsBetween_2 : decode cX10_stepsBetween 2 = .ok (.if_icmp .ge 9, 3) := by decide +kernel
theorem dX10_stepsBetween_11 : decode cX10_stepsBetween 11 = .ok (.iload_n 0, 1) := by decide +kernel
theorem dX10_stepsBetween_12 : decode cX10_stepsBetween 12 = .ok (.iload_n 2, 1) := by decide +kernel
theorem dX10_stepsBetween_13 : decode cX10_stepsBetween 13 = .ok (.isub, 1) := by decide +kernel
theorem dX10_stepsBetween_14 : decode cX10_stepsBetween 14 = .ok (.iload_n 1, 1) := by decide +kernel
theorem dX10_stepsBetween_15 : decode cX10_stepsBetween 15 = .ok (.iload_n 3, 1) := by decide +kernel
theorem dX10_stepsBetween_16 : decode cX10_stepsBetween 16 = .ok (.if_icmp .ge 9, 3) := by decide +kernel
theorem dX10_stepsBetween_25 : decode cX10_stepsBetween 25 = .ok (.iload_n 1, 1) := by decide +kernel
theorem dX10_stepsBetween_26 : decode cX10_stepsBetween 26 = .ok (.iload_n 3, 1) := by decide +kernel
theorem dX10_stepsBetween_27 : decode cX10_stepsBetween 27 = .ok (.isub, 1) := by decide +kernel
theorem dX10_stepsBetween_28 : decode cX10_stepsBetween 28 = .ok (.iadd, 1) := by decide +kernel
theorem dX10_stepsBetween_29 : decode cX10_stepsBetween 29 = .ok (.ireturn, 1) := by decide +kernel
set_option maxHeartbeats 4000000 in
set_option maxRecDepth 100000 in
theorem c_X10_stepsBetween (l : Launch) (dC : Nat → ClassId) (dI : Nat → Nat → Nat) (dA : Nat → ClassId) (L : List Nat) (h : hx_h) (sz : Nat)    : Met l yX10_stepsBetween (Cond.code yX10_stepsBetween cX10_stepsBetween 4 (some .int) :: hx_all) ({ frames := 0, cells := 0, slots := 0, locals := 0 }) (va_Pc [.int (50 : Int32), .int (50 : Int32), .int (50 : Int32), .int (50 : Int32)] (hx_B P_tb (P_ty dA) (dC, dI) vwCl L h sz)) (va_Qi (fun (r : Int32) (u : List Nat × hx_h) => r = 0 ∧ u = (L, h)) (hx_E P_tb (P_ty dA) (dC, dI) vwCl (hx_A L sz)) (hx_A L sz)) 0 0 (hx_A L sz) := by
  refine hx_met (lv := [(0, .int (50 : Int32)), (1, .int (50 : Int32)), (2, .int (50 : Int32)), (3, .int (50 : Int32))]) (by decide +kernel) rfl (Nat.le_of_ble_eq_true rfl) rfl ?_
  intro p e s m below meth c hx hb hml hr hlk hts0 hown hin hsz hW ls hl
  have hts : ∀ w ∈ hx_all, w.before _ s = true := fun w hw => hts0 w (List.mem_cons_of_mem _ hw)
  have hown : s.vm.findClass "SmallCourtModel" = some m.cls := hown
  refine lv_iload_n hx hb dX10_stepsBetween_0 rfl (lv_at hl 0 rfl) ?_
  refine lv_iload_n hx hb dX10_stepsBetween_1 rfl (lv_at hl 2 rfl) ?_
  refine hb_icmp_ge (zx := 50) (zy := 50) (tgt := 11) hx hb (by decide) (by decide) dX10_stepsBetween_2 (by decide) (fun c_1 => ?_) (fun c_1 => absurd c_1 (by decide))
  refine lv_iload_n hx hb dX10_stepsBetween_11 rfl (lv_at hl 0 rfl) ?_
  refine lv_iload_n hx hb dX10_stepsBetween_12 rfl (lv_at hl 2 rfl) ?_
  refine lv_isub hx hb dX10_stepsBetween_13 ?_
  refine lv_topi (fun x_2 ex_2 => ?_)
  obtain rfl : x_2 = (0 : Int32) := ex_2.trans (by decide)
  refine lv_iload_n hx hb dX10_stepsBetween_14 rfl (lv_at hl 1 rfl) ?_
  refine lv_iload_n hx hb dX10_stepsBetween_15 rfl (lv_at hl 3 rfl) ?_
  refine hb_icmp_ge (zx := 50) (zy := 50) (tgt := 25) hx hb (by decide) (by decide) dX10_stepsBetween_16 (by decide) (fun c_3 => ?_) (fun c_3 => absurd c_3 (by decide))
  refine lv_iload_n hx hb dX10_stepsBetween_25 rfl (lv_at hl 1 rfl) ?_
  refine lv_iload_n hx hb dX10_stepsBetween_26 rfl (lv_at hl 3 rfl) ?_
  refine lv_isub hx hb dX10_stepsBetween_27 ?_
  refine lv_topi (fun x_4 ex_4 => ?_)
  obtain rfl : x_4 = (0 : Int32) := ex_4.trans (by decide)
  refine lv_iadd hx hb dX10_stepsBetween_28 ?_
  refine lv_topi (fun x_5 ex_5 => ?_)
  obtain rfl : x_5 = (0 : Int32) := ex_5.trans (by decide)
  exact hx_reti hx hb hr hlk hW ⟨rfl, rfl⟩ dX10_stepsBetween_29

theorem dX10_far_0 : decode cX10_far 0 = .ok (.iload_n 1, 1) := by decide +kernel
theorem dX10_far_1 : decode cX10_far 1 = .ok (.aload_n 0, 1) := by decide +kernel
theorem dX10_far_2 : decode cX10_far 2 = .ok (.getfield 468, 3) := by decide +kernel
theorem dX10_far_5 : decode cX10_far 5 = .ok (.if_icmp .ne 8, 3) := by decide +kernel
theorem dX10_far_8 : decode cX10_far 8 = .ok (.bipush 50, 2) := by decide +kernel
theorem dX10_far_10 : decode cX10_far 10 = .ok (.goto 19, 3) := by decide +kernel
theorem dX10_far_29 : decode cX10_far 29 = .ok (.istore_n 3, 1) := by decide +kernel
theorem dX10_far_30 : decode cX10_far 30 = .ok (.iload_n 1, 1) := by decide +kernel
theorem dX10_far_31 : decode cX10_far 31 = .ok (.aload_n 0, 1) := by decide +kernel
theorem dX10_far_32 : decode cX10_far 32 = .ok (.getfield 468, 3) := by decide +kernel
theorem dX10_far_35 : decode cX10_far 35 = .ok (.if_icmp .ne 8, 3) := by decide +kernel
theorem dX10_far_38 : decode cX10_far 38 = .ok (.bipush 50, 2) := by decide +kernel
theorem dX10_far_40 : decode cX10_far 40 = .ok (.goto 19, 3) := by decide +kernel
theorem dX10_far_59 : decode cX10_far 59 = .ok (.istore 4, 2) := by decide +kernel
theorem dX10_far_61 : decode cX10_far 61 = .ok (.iload_n 2, 1) := by decide +kernel
theorem dX10_far_62 : decode cX10_far 62 = .ok (.aload_n 0, 1) := by decide +kernel
theorem dX10_far_63 : decode cX10_far 63 = .ok (.getfield 468, 3) := by decide +kernel
theorem dX10_far_66 : decode cX10_far 66 = .ok (.if_icmp .ne 8, 3) := by decide +kernel
theorem dX10_far_69 : decode cX10_far 69 = .ok (.bipush 50, 2) := by decide +kernel
theorem dX10_far_71 : decode cX10_far 71 = .ok (.goto 19, 3) := by decide +kernel
theorem dX10_far_90 : decode cX10_far 90 = .ok (.istore 5, 2) := by decide +kernel
theorem dX10_far_92 : decode cX10_far 92 = .ok (.iload_n 2, 1) := by decide +kernel
theorem dX10_far_93 : decode cX10_far 93 = .ok (.aload_n 0, 1) := by decide +kernel
theorem dX10_far_94 : decode cX10_far 94 = .ok (.getfield 468, 3) := by decide +kernel
theorem dX10_far_97 : decode cX10_far 97 = .ok (.if_icmp .ne 8, 3) := by decide +kernel
theorem dX10_far_100 : decode cX10_far 100 = .ok (.bipush 50, 2) := by decide +kernel
theorem dX10_far_102 : decode cX10_far 102 = .ok (.goto 19, 3) := by decide +kernel
theorem dX10_far_121 : decode cX10_far 121 = .ok (.istore 6, 2) := by decide +kernel
theorem dX10_far_123 : decode cX10_far 123 = .ok (.iload_n 3, 1) := by decide +kernel
theorem dX10_far_124 : decode cX10_far 124 = .ok (.iload 4, 2) := by decide +kernel
theorem dX10_far_126 : decode cX10_far 126 = .ok (.iload 5, 2) := by decide +kernel
theorem dX10_far_128 : decode cX10_far 128 = .ok (.iload 6, 2) := by decide +kernel
theorem dX10_far_130 : decode cX10_far 130 = .ok (.invokestatic 471, 3) := by decide +kernel
theorem dX10_far_133 : decode cX10_far 133 = .ok (.ireturn, 1) := by decide +kernel
set_option maxHeartbeats 4000000 in
set_option maxRecDepth 100000 in
theorem c_X10_far (l : Launch) (dC : Nat → ClassId) (dI : Nat → Nat → Nat) (dA : Nat → ClassId) (L : List Nat) (h : hx_h) (sz : Nat) (y : Nat) (gy : hx_g L h y 10) (f_y_90 : h.2.1 y 90 = 0) : Met l yX10_far (Cond.code yX10_far cX10_far 7 (some .int) :: hx_all) ({ frames := 1, cells := 0, slots := 0, locals := 23 }) (va_Pc [.ref y, .int (0 : Int32), .int (0 : Int32)] (hx_B P_tb (P_ty dA) (dC, dI) vwCl L h sz)) (va_Qi (fun (r : Int32) (u : List Nat × hx_h) => r = 0 ∧ u = (L, h)) (hx_E P_tb (P_ty dA) (dC, dI) vwCl (hx_A L sz)) (hx_A L sz)) 0 0 (hx_A L sz) := by
  refine hx_met (lv := [(0, .ref y), (1, .int (0 : Int32)), (2, .int (0 : Int32))]) (by decide +kernel) rfl (Nat.le_of_ble_eq_true rfl) rfl ?_
  intro p e s m below meth c hx hb hml hr hlk hts0 hown hin hsz hW ls hl
  have hts : ∀ w ∈ hx_all, w.before _ s = true := fun w hw => hts0 w (List.mem_cons_of_mem _ hw)
  have hown : s.vm.findClass "SmallCourtModel" = some m.cls := hown
  refine lv_iload_n hx hb dX10_far_0 rfl (lv_at hl 1 rfl) ?_
  refine lv_aload_n hx hb dX10_far_1 rfl (lv_at hl 0 rfl) ?_
  refine hk_geti hx hb hts hC_10 hown hW gy td_10 90 (by decide) rfl kw_1233 ⟨rfl, rfl, rfl⟩ f_y_90 dX10_far_2 ?_
  refine hb_icmp_ne (zx := 0) (zy := 0) (tgt := 13) hx hb (by decide) (by decide) dX10_far_5 (by decide) (fun c_1 => absurd c_1 (by decide)) (fun c_1 => ?_)
  refine lv_bipush (v := 50) hx hb dX10_far_8 (by decide) ?_
  refine lv_goto (tgt := 29) hx hb dX10_far_10 (by decide) ?_
  refine lv_istore_n (lv' := [(3, .int (50 : Int32)), (0, .ref y), (1, .int (0 : Int32)), (2, .int (0 : Int32))]) hx hb dX10_far_29 rfl hl (by decide) rfl (fun ls hl => ?_)
  refine lv_iload_n hx hb dX10_far_30 rfl (lv_at hl 2 rfl) ?_
  refine lv_aload_n hx hb dX10_far_31 rfl (lv_at hl 1 rfl) ?_
  refine hk_geti hx hb hts hC_10 hown hW gy td_10 90 (by decide) rfl kw_1233 ⟨rfl, rfl, rfl⟩ f_y_90 dX10_far_32 ?_
  refine hb_icmp_ne (zx := 0) (zy := 0) (tgt := 43) hx hb (by decide) (by decide) dX10_far_35 (by decide) (fun c_2 => absurd c_2 (by decide)) (fun c_2 => ?_)
  refine lv_bipush (v := 50) hx hb dX10_far_38 (by decide) ?_
  refine lv_goto (tgt := 59) hx hb dX10_far_40 (by decide) ?_
  refine lv_istore (lv' := [(4, .int (50 : Int32)), (3, .int (50 : Int32)), (0, .ref y), (1, .int (0 : Int32)), (2, .int (0 : Int32))]) hx hb dX10_far_59 hl (by decide) rfl (fun ls hl => ?_)
  refine lv_iload_n hx hb dX10_far_61 rfl (lv_at hl 4 rfl) ?_
  refine lv_aload_n hx hb dX10_far_62 rfl (lv_at hl 2 rfl) ?_
  refine hk_geti hx hb hts hC_10 hown hW gy td_10 90 (by decide) rfl kw_1233 ⟨rfl, rfl, rfl⟩ f_y_90 dX10_far_63 ?_
  refine hb_icmp_ne (zx := 0) (zy := 0) (tgt := 74) hx hb (by decide) (by decide) dX10_far_66 (by decide) (fun c_3 => absurd c_3 (by decide)) (fun c_3 => ?_)
  refine lv_bipush (v := 50) hx hb dX10_far_69 (by decide) ?_
  refine lv_goto (tgt := 90) hx hb dX10_far_71 (by decide) ?_
  refine lv_istore (lv' := [(5, .int (50 : Int32)), (4, .int (50 : Int32)), (3, .int (50 : Int32)), (0, .ref y), (1, .int (0 : Int32)), (2, .int (0 : Int32))]) hx hb dX10_far_90 hl (by decide) rfl (fun ls hl => ?_)
  refine lv_iload_n hx hb dX10_far_92 rfl (lv_at hl 5 rfl) ?_
  refine lv_aload_n hx hb dX10_far_93 rfl (lv_at hl 3 rfl) ?_
  refine hk_geti hx hb hts hC_10 hown hW gy td_10 90 (by decide) rfl kw_1233 ⟨rfl, rfl, rfl⟩ f_y_90 dX10_far_94 ?_
  refine hb_icmp_ne (zx := 0) (zy := 0) (tgt := 105) hx hb (by decide) (by decide) dX10_far_97 (by decide) (fun c_4 => absurd c_4 (by decide)) (fun c_4 => ?_)
  refine lv_bipush (v := 50) hx hb dX10_far_100 (by decide) ?_
  refine lv_goto (tgt := 121) hx hb dX10_far_102 (by decide) ?_
  refine lv_istore (lv' := [(6, .int (50 : Int32)), (5, .int (50 : Int32)), (4, .int (50 : Int32)), (3, .int (50 : Int32)), (0, .ref y), (1, .int (0 : Int32)), (2, .int (0 : Int32))]) hx hb dX10_far_121 hl (by decide) rfl (fun ls hl => ?_)
  refine lv_iload_n hx hb dX10_far_123 rfl (lv_at hl 3 rfl) ?_
  refine lv_iload hx hb dX10_far_124 (lv_at hl 2 rfl) ?_
  refine lv_iload hx hb dX10_far_126 (lv_at hl 1 rfl) ?_
  refine lv_iload hx hb dX10_far_128 (lv_at hl 0 rfl) ?_
  refine hx_goi (hx_runS (As := [.int (50 : Int32), .int (50 : Int32), .int (50 : Int32), .int (50 : Int32)]) (rest := []) ⟨hx, hb, hml, hown, hts⟩ hW (c_X10_stepsBetween l dC dI dA L h s.heap.size ) (va_cwS 4 hts (hx_gS kw_1728 kw_1726 kw_1727 kw_103) rfl rfl rfl (by decide +kernel) ⟨Nat.le_of_ble_eq_true rfl, Nat.le_of_ble_eq_true rfl⟩) rfl hl.1 rfl (Nat.le_of_ble_eq_true rfl) dX10_far_130 ⟨Nat.le_of_ble_eq_true rfl, Nat.le_of_ble_eq_true rfl⟩) hW (fun r_7 L_5 h_6 H locs p_8 hW => ?_)
  obtain ⟨rfl, eu⟩ := p_8
  cases eu
  exact hx_reti hx hb hr hlk hW ⟨rfl, rfl⟩ dX10_far_133

theorem dX10_walk_0 : decode cX10_walk 0 = .ok (.iconst 1, 1) := by decide +kernel
theorem dX10_walk_1 : decode cX10_walk 1 = .ok (.aload_n 0, 1) := by decide +kernel
theorem dX10_walk_2 : decode cX10_walk 2 = .ok (.getfield 468, 3) := by decide +kernel
theorem dX10_walk_5 : decode cX10_walk 5 = .ok (.ishl, 1) := by decide +kernel
theorem dX10_walk_6 : decode cX10_walk 6 = .ok (.istore_n 1, 1) := by decide +kernel
theorem dX10_walk_7 : decode cX10_walk 7 = .ok (.iconst 0, 1) := by decide +kernel
theorem dX10_walk_8 : decode cX10_walk 8 = .ok (.istore_n 2, 1) := by decide +kernel
theorem dX10_walk_9 : decode cX10_walk 9 = .ok (.iload_n 2, 1) := by decide +kernel
theorem dX10_walk_10 : decode cX10_walk 10 = .ok (.iload_n 1, 1) := by decide +kernel
theorem dX10_walk_11 : decode cX10_walk 11 = .ok (.if_icmp .ge 119, 3) := by decide +kernel
theorem dX10_walk_14 : decode cX10_walk 14 = .ok (.iconst 0, 1) := by decide +kernel
theorem dX10_walk_15 : decode cX10_walk 15 = .ok (.istore_n 3, 1) := by decide +kernel
theorem dX10_walk_16 : decode cX10_walk 16 = .ok (.iload_n 3, 1) := by decide +kernel
theorem dX10_walk_17 : decode cX10_walk 17 = .ok (.aload_n 0, 1) := by decide +kernel
theorem dX10_walk_18 : decode cX10_walk 18 = .ok (.getfield 468, 3) := by decide +kernel
theorem dX10_walk_21 : decode cX10_walk 21 = .ok (.if_icmp .gt 103, 3) := by decide +kernel
theorem dX10_walk_24 : decode cX10_walk 24 = .ok (.iload_n 2, 1) := by decide +kernel
theorem dX10_walk_25 : decode cX10_walk 25 = .ok (.ifCond .ne 15, 3) := by decide +kernel
theorem dX10_walk_28 : decode cX10_walk 28 = .ok (.aload_n 0, 1) := by decide +kernel
theorem dX10_walk_29 : decode cX10_walk 29 = .ok (.iload_n 3, 1) := by decide +kernel
theorem dX10_walk_30 : decode cX10_walk 30 = .ok (.aload_n 0, 1) := by decide +kernel
theorem dX10_walk_31 : decode cX10_walk 31 = .ok (.getfield 468, 3) := by decide +kernel
theorem dX10_walk_34 : decode cX10_walk 34 = .ok (.invokevirtual 475, 3) := by decide +kernel
theorem dX10_walk_37 : decode cX10_walk 37 = .ok (.goto 6, 3) := by decide +kernel
theorem dX10_walk_43 : decode cX10_walk 43 = .ok (.istore 4, 2) := by decide +kernel
theorem dX10_walk_45 : decode cX10_walk 45 = .ok (.iconst 0, 1) := by decide +kernel
theorem dX10_walk_46 : decode cX10_walk 46 = .ok (.istore 5, 2) := by decide +kernel
theorem dX10_walk_48 : decode cX10_walk 48 = .ok (.iload 5, 2) := by decide +kernel
theorem dX10_walk_50 : decode cX10_walk 50 = .ok (.aload_n 0, 1) := by decide +kernel
theorem dX10_walk_51 : decode cX10_walk 51 = .ok (.getfield 468, 3) := by decide +kernel
theorem dX10_walk_54 : decode cX10_walk 54 = .ok (.if_icmp .ge 51, 3) := by decide +kernel
theorem dX10_walk_105 : decode cX10_walk 105 = .ok (.aload_n 0, 1) := by decide +kernel
theorem dX10_walk_106 : decode cX10_walk 106 = .ok (.getfield 207, 3) := by decide +kernel
theorem dX10_walk_109 : decode cX10_walk 109 = .ok (.bipush 9, 2) := by decide +kernel
theorem dX10_walk_111 : decode cX10_walk 111 = .ok (.iload_n 2, 1) := by decide +kernel
theorem dX10_walk_112 : decode cX10_walk 112 = .ok (.imul, 1) := by decide +kernel
theorem dX10_walk_113 : decode cX10_walk 113 = .ok (.iload_n 3, 1) := by decide +kernel
theorem dX10_walk_114 : decode cX10_walk 114 = .ok (.iadd, 1) := by decide +kernel
theorem dX10_walk_115 : decode cX10_walk 115 = .ok (.iload 4, 2) := by decide +kernel
theorem dX10_walk_117 : decode cX10_walk 117 = .ok (.iastore, 1) := by decide +kernel
theorem dX10_walk_118 : decode cX10_walk 118 = .ok (.iinc 3 1, 3) := by decide +kernel
theorem dX10_walk_121 : decode cX10_walk 121 = .ok (.goto (-105), 3) := by decide +kernel
theorem dX10_walk_124 : decode cX10_walk 124 = .ok (.iinc 2 1, 3) := by decide +kernel
theorem dX10_walk_127 : decode cX10_walk 127 = .ok (.goto (-118), 3) := by decide +kernel
theorem dX10_walk_130 : decode cX10_walk 130 = .ok (.iload_n 1, 1) := by decide +kernel
theorem dX10_walk_131 : decode cX10_walk 131 = .ok (.iconst 1, 1) := by decide +kernel
theorem dX10_walk_132 : decode cX10_walk 132 = .ok (.isub, 1) := by decide +kernel
theorem dX10_walk_133 : decode cX10_walk 133 = .ok (.istore_n 2, 1) := by decide +kernel
theorem dX10_walk_134 : decode cX10_walk 134 = .ok (.aload_n 0, 1) := by decide +kernel
theorem dX10_walk_135 : decode cX10_walk 135 = .ok (.getfield 468, 3) := by decide +kernel
theorem dX10_walk_138 : decode cX10_walk 138 = .ok (.istore_n 3, 1) := by decide +kernel
theorem dX10_walk_139 : decode cX10_walk 139 = .ok (.aload_n 0, 1) := by decide +kernel
theorem dX10_walk_140 : decode cX10_walk 140 = .ok (.getfield 207, 3) := by decide +kernel
theorem dX10_walk_143 : decode cX10_walk 143 = .ok (.bipush 9, 2) := by decide +kernel
theorem dX10_walk_145 : decode cX10_walk 145 = .ok (.iload_n 2, 1) := by decide +kernel
theorem dX10_walk_146 : decode cX10_walk 146 = .ok (.imul, 1) := by decide +kernel
theorem dX10_walk_147 : decode cX10_walk 147 = .ok (.iload_n 3, 1) := by decide +kernel
theorem dX10_walk_148 : decode cX10_walk 148 = .ok (.iadd, 1) := by decide +kernel
theorem dX10_walk_149 : decode cX10_walk 149 = .ok (.iaload, 1) := by decide +kernel
theorem dX10_walk_150 : decode cX10_walk 150 = .ok (.istore 4, 2) := by decide +kernel
theorem dX10_walk_152 : decode cX10_walk 152 = .ok (.aload_n 0, 1) := by decide +kernel
theorem dX10_walk_153 : decode cX10_walk 153 = .ok (.iconst 0, 1) := by decide +kernel
theorem dX10_walk_154 : decode cX10_walk 154 = .ok (.putfield 478, 3) := by decide +kernel
theorem dX10_walk_157 : decode cX10_walk 157 = .ok (.iload_n 2, 1) := by decide +kernel
theorem dX10_walk_158 : decode cX10_walk 158 = .ok (.ifCond .eq 99, 3) := by decide +kernel
theorem dX10_walk_257 : decode cX10_walk 257 = .ok (.aload_n 0, 1) := by decide +kernel
theorem dX10_walk_258 : decode cX10_walk 258 = .ok (.iconst 0, 1) := by decide +kernel
theorem dX10_walk_259 : decode cX10_walk 259 = .ok (.putfield 468, 3) := by decide +kernel
theorem dX10_walk_262 : decode cX10_walk 262 = .ok (.iload 4, 2) := by decide +kernel
theorem dX10_walk_264 : decode cX10_walk 264 = .ok (.ireturn, 1) := by decide +kernel
set_option maxHeartbeats 4000000 in
set_option maxRecDepth 100000 in
theorem c_X10_walk (l : Launch) (dC : Nat → ClassId) (dI : Nat → Nat → Nat) (dA : Nat → ClassId) (L : List Nat) (h : hx_h) (sz : Nat) (y : Nat) (gy : hx_g L h y 10) (f_y_90 : h.2.1 y 90 = 0) (qh : Nat) (gqh : hx_g L h qh 114) (f_y_94 : h.2.2 y 94 = some qh) : Met l yX10_walk (Cond.code yX10_walk cX10_walk 6 (some .int) :: hx_all) ({ frames := 2, cells := 0, slots := 0, locals := 49 }) (va_Pc [.ref y] (hx_B P_tb (P_ty dA) (dC, dI) vwCl L h sz)) (va_Qi (fun (r : Int32) (u : List Nat × hx_h) => (r = 0) ∧ hx_S P_tb [(10, 90), (10, 92), (114, 0)] L h u.1 u.2) (hx_E P_tb (P_ty dA) (dC, dI) vwCl (hx_A L sz)) (hx_A L sz)) 0 0 (hx_A L sz) := by
  refine hx_met (lv := [(0, .ref y)]) (by decide +kernel) rfl (Nat.le_of_ble_eq_true rfl) rfl ?_
  intro p e s m below meth c hx hb hml hr hlk hts0 hown hin hsz hW ls hl
  have hts : ∀ w ∈ hx_all, w.before _ s = true := fun w hw => hts0 w (List.mem_cons_of_mem _ hw)
  have hown : s.vm.findClass "SmallCourtModel" = some m.cls := hown
  have hM : hx_S P_tb [(10, 90), (10, 92), (114, 0)] L h L h := hx_S.rf
  refine lv_iconst (v := 1) hx hb dX10_walk_0 (by decide) ?_
  refine lv_aload_n hx hb dX10_walk_1 rfl (lv_at hl 0 rfl) ?_
  refine hk_geti hx hb hts hC_10 hown hW gy td_10 90 (by decide) rfl kw_1233 ⟨rfl, rfl, rfl⟩ f_y_90 dX10_walk_2 ?_
  refine lv_ishl hx hb dX10_walk_5 ?_
  refine lv_topi (fun x_1 ex_1 => ?_)
  obtain rfl : x_1 = (1 : Int32) := ex_1.trans (by decide)
  refine lv_istore_n (lv' := [(1, .int (1 : Int32)), (0, .ref y)]) hx hb dX10_walk_6 rfl hl (by decide) rfl (fun ls hl => ?_)
  refine lv_iconst (v := 0) hx hb dX10_walk_7 (by decide) ?_
  refine lv_istore_n (lv' := [(2, .int (0 : Int32)), (1, .int (1 : Int32)), (0, .ref y)]) hx hb dX10_walk_8 rfl hl (by decide) rfl (fun ls hl => ?_)
  refine lv_iload_n hx hb dX10_walk_9 rfl (lv_at hl 0 rfl) ?_
  refine lv_iload_n hx hb dX10_walk_10 rfl (lv_at hl 1 rfl) ?_
  refine hb_icmp_ge (zx := 0) (zy := 1) (tgt := 130) hx hb (by decide) (by decide) dX10_walk_11 (by decide) (fun c_2 => absurd c_2 (by decide)) (fun c_2 => ?_)
  refine lv_iconst (v := 0) hx hb dX10_walk_14 (by decide) ?_
  refine lv_istore_n (lv' := [(3, .int (0 : Int32)), (2, .int (0 : Int32)), (1, .int (1 : Int32)), (0, .ref y)]) hx hb dX10_walk_15 rfl hl (by decide) rfl (fun ls hl => ?_)
  refine lv_iload_n hx hb dX10_walk_16 rfl (lv_at hl 0 rfl) ?_
  refine lv_aload_n hx hb dX10_walk_17 rfl (lv_at hl 3 rfl) ?_
  refine hk_geti hx hb hts hC_10 hown hW gy td_10 90 (by decide) rfl kw_1233 ⟨rfl, rfl, rfl⟩ f_y_90 dX10_walk_18 ?_
  refine hb_icmp_gt (zx := 0) (zy := 0) (tgt := 124) hx hb (by decide) (by decide) dX10_walk_21 (by decide) (fun c_3 => absurd c_3 (by decide)) (fun c_3 => ?_)
  refine lv_iload_n hx hb dX10_walk_24 rfl (lv_at hl 1 rfl) ?_
  refine hb_if_ne (zx := 0) (tgt := 40) hx hb (by decide) dX10_walk_25 (by decide) (fun c_4 => absurd c_4 (by decide)) (fun c_4 => ?_)
  refine lv_aload_n hx hb dX10_walk_28 rfl (lv_at hl 3 rfl) ?_
  refine lv_iload_n hx hb dX10_walk_29 rfl (lv_at hl 0 rfl) ?_
  refine lv_aload_n hx hb dX10_walk_30 rfl (lv_at hl 3 rfl) ?_
  refine hk_geti hx hb hts hC_10 hown hW gy td_10 90 (by decide) rfl kw_1233 ⟨rfl, rfl, rfl⟩ f_y_90 dX10_walk_31 ?_
  refine hx_goi (hx_runV (As := [.int (0 : Int32), .int (0 : Int32)]) (rest := []) ⟨hx, hb, hml, hown, hts⟩ hW gy td_10 (T := TX10) (N := 98) rfl (c_X10_far l dC dI dA L h s.heap.size y gy f_y_90) (cwV 2 hts (hx_gV kw_1725 kw_1722 kw_1724 kw_90 kw_103) rfl rfl rfl (by decide +kernel) ⟨Nat.le_of_ble_eq_true rfl, Nat.le_of_ble_eq_true rfl⟩) rfl hl.1 rfl (Nat.le_of_ble_eq_true rfl) dX10_walk_34 ⟨Nat.le_of_ble_eq_true rfl, Nat.le_of_ble_eq_true rfl⟩) hW (fun r_7 L_5 h_6 H locs p_8 hW => ?_)
  obtain ⟨rfl, eu⟩ := p_8
  cases eu
  refine lv_goto (tgt := 43) hx hb dX10_walk_37 (by decide) ?_
  refine lv_istore (lv' := [(4, .int (0 : Int32)), (3, .int (0 : Int32)), (2, .int (0 : Int32)), (1, .int (1 : Int32)), (0, .ref y)]) hx hb dX10_walk_43 hl (by decide) rfl (fun ls hl => ?_)
  refine lv_iconst (v := 0) hx hb dX10_walk_45 (by decide) ?_
  refine lv_istore (lv' := [(5, .int (0 : Int32)), (4, .int (0 : Int32)), (3, .int (0 : Int32)), (2, .int (0 : Int32)), (1, .int (1 : Int32)), (0, .ref y)]) hx hb dX10_walk_46 hl (by decide) rfl (fun ls hl => ?_)
  refine lv_iload hx hb dX10_walk_48 (lv_at hl 0 rfl) ?_
  refine lv_aload_n hx hb dX10_walk_50 rfl (lv_at hl 5 rfl) ?_
  refine hk_geti hx hb hts hC_10 hown hW gy td_10 90 (by decide) rfl kw_1233 ⟨rfl, rfl, rfl⟩ f_y_90 dX10_walk_51 ?_
  refine hb_icmp_ge (zx := 0) (zy := 0) (tgt := 105) hx hb (by decide) (by decide) dX10_walk_54 (by decide) (fun c_9 => ?_) (fun c_9 => absurd c_9 (by decide))
  refine lv_aload_n hx hb dX10_walk_105 rfl (lv_at hl 5 rfl) ?_
  refine hk_getr hx hb hts hC_10 hown hW gy td_10 94 (by decide) rfl kw_1237 ⟨rfl, rfl, rfl⟩ f_y_94 dX10_walk_106 ?_
  refine lv_bipush (v := 9) hx hb dX10_walk_109 (by decide) ?_
  refine lv_iload_n hx hb dX10_walk_111 rfl (lv_at hl 3 rfl) ?_
  refine lv_imul hx hb dX10_walk_112 ?_
  refine lv_topi (fun x_10 ex_10 => ?_)
  obtain rfl : x_10 = (0 : Int32) := ex_10.trans (by decide)
  refine lv_iload_n hx hb dX10_walk_113 rfl (lv_at hl 2 rfl) ?_
  refine lv_iadd hx hb dX10_walk_114 ?_
  refine lv_topi (fun x_11 ex_11 => ?_)
  obtain rfl : x_11 = (0 : Int32) := ex_11.trans (by decide)
  refine lv_iload hx hb dX10_walk_115 (lv_at hl 1 rfl) ?_
  refine hk_iast hx hb hW gqh td_114 rfl (by decide) rfl dX10_walk_117 (fun H locs h_12 eh_12 hW hs => ?_)
  have f_y_90 := (hs.o gy trivial rfl).1.trans f_y_90
  have f_y_94 := (hs.o gy trivial rfl).2.trans f_y_94
  have hM := hM.tr (hs.mono (by decide))
  have gy := gy.S hs
  have gqh := gqh.S hs
  have f_13 : h_12.2.1 qh (0 : Int32).toNatClampNeg = (0 : Int32) := by rw [eh_12]; exact hx_pi_at _ _ _ _
  refine lv_iinc (v := 1) (lv' := [(3, .int (1 : Int32)), (5, .int (0 : Int32)), (4, .int (0 : Int32)), (2, .int (0 : Int32)), (1, .int (1 : Int32)), (0, .ref y)]) hx hb dX10_walk_118 hl (k := 2) rfl (by decide) (by decide) rfl (fun ls hl => ?_)
  refine lv_goto (tgt := 16) hx hb dX10_walk_121 (by decide) ?_
  refine lv_iload_n hx hb dX10_walk_16 rfl (lv_at hl 0 rfl) ?_
  refine lv_aload_n hx hb dX10_walk_17 rfl (lv_at hl 5 rfl) ?_
  refine hk_geti hx hb hts hC_10 hown hW gy td_10 90 (by decide) rfl kw_1233 ⟨rfl, rfl, rfl⟩ f_y_90 dX10_walk_18 ?_
  refine hb_icmp_gt (zx := 1) (zy := 0) (tgt := 124) hx hb (by decide) (by decide) dX10_walk_21 (by decide) (fun c_14 => ?_) (fun c_14 => absurd c_14 (by decide))
  refine lv_iinc (v := 1) (lv' := [(2, .int (1 : Int32)), (3, .int (1 : Int32)), (5, .int (0 : Int32)), (4, .int (0 : Int32)), (1, .int (1 : Int32)), (0, .ref y)]) hx hb dX10_walk_124 hl (k := 3) rfl (by decide) (by decide) rfl (fun ls hl => ?_)
  refine lv_goto (tgt := 9) hx hb dX10_walk_127 (by decide) ?_
  refine lv_iload_n hx hb dX10_walk_9 rfl (lv_at hl 0 rfl) ?_
  refine lv_iload_n hx hb dX10_walk_10 rfl (lv_at hl 4 rfl) ?_
  refine hb_icmp_ge (zx := 1) (zy := 1) (tgt := 130) hx hb (by decide) (by decide) dX10_walk_11 (by decide) (fun c_15 => ?_) (fun c_15 => absurd c_15 (by decide))
  refine lv_iload_n hx hb dX10_walk_130 rfl (lv_at hl 4 rfl) ?_
  refine lv_iconst (v := 1) hx hb dX10_walk_131 (by decide) ?_
  refine lv_isub hx hb dX10_walk_132 ?_
  refine lv_topi (fun x_16 ex_16 => ?_)
  obtain rfl : x_16 = (0 : Int32) := ex_16.trans (by decide)
  refine lv_istore_n (lv' := [(2, .int (0 : Int32)), (3, .int (1 : Int32)), (5, .int (0 : Int32)), (4, .int (0 : Int32)), (1, .int (1 : Int32)), (0, .ref y)]) hx hb dX10_walk_133 rfl hl (by decide) rfl (fun ls hl => ?_)
  refine lv_aload_n hx hb dX10_walk_134 rfl (lv_at hl 5 rfl) ?_
  refine hk_geti hx hb hts hC_10 hown hW gy td_10 90 (by decide) rfl kw_1233 ⟨rfl, rfl, rfl⟩ f_y_90 dX10_walk_135 ?_
  refine lv_istore_n (lv' := [(3, .int (0 : Int32)), (2, .int (0 : Int32)), (5, .int (0 : Int32)), (4, .int (0 : Int32)), (1, .int (1 : Int32)), (0, .ref y)]) hx hb dX10_walk_138 rfl hl (by decide) rfl (fun ls hl => ?_)
  refine lv_aload_n hx hb dX10_walk_139 rfl (lv_at hl 5 rfl) ?_
  refine hk_getr hx hb hts hC_10 hown hW gy td_10 94 (by decide) rfl kw_1237 ⟨rfl, rfl, rfl⟩ f_y_94 dX10_walk_140 ?_
  refine lv_bipush (v := 9) hx hb dX10_walk_143 (by decide) ?_
  refine lv_iload_n hx hb dX10_walk_145 rfl (lv_at hl 1 rfl) ?_
  refine lv_imul hx hb dX10_walk_146 ?_
  refine lv_topi (fun x_17 ex_17 => ?_)
  obtain rfl : x_17 = (0 : Int32) := ex_17.trans (by decide)
  refine lv_iload_n hx hb dX10_walk_147 rfl (lv_at hl 0 rfl) ?_
  refine lv_iadd hx hb dX10_walk_148 ?_
  refine lv_topi (fun x_18 ex_18 => ?_)
  obtain rfl : x_18 = (0 : Int32) := ex_18.trans (by decide)
  refine hk_iald hx hb hW gqh td_114 rfl (by decide) f_13 dX10_walk_149 ?_
  refine lv_istore (lv' := [(4, .int (0 : Int32)), (3, .int (0 : Int32)), (2, .int (0 : Int32)), (5, .int (0 : Int32)), (1, .int (1 : Int32)), (0, .ref y)]) hx hb dX10_walk_150 hl (by decide) rfl (fun ls hl => ?_)
  refine lv_aload_n hx hb dX10_walk_152 rfl (lv_at hl 5 rfl) ?_
  refine lv_iconst (v := 0) hx hb dX10_walk_153 (by decide) ?_
  refine hk_puti hx hb hts hC_10 hown hW gy td_10 92 (by decide) rfl kw_1235 ⟨rfl, rfl, rfl⟩ rfl (x := (0 : Int32)) rfl rfl rfl dX10_walk_154 (fun H locs h_19 eh_19 hW hs => ?_)
  have f_y_90 := (hs.o gy trivial rfl).1.trans f_y_90
  have f_y_94 := (hs.o gy trivial rfl).2.trans f_y_94
  have f_13 := (hs.a gqh rfl _).1.trans f_13
  have hM := hM.tr (hs.mono (by decide))
  have gy := gy.S hs
  have gqh := gqh.S hs
  have f_20 : h_19.2.1 y 92 = (0 : Int32) := by rw [eh_19]; exact hx_pi_at _ _ _ _
  refine lv_iload_n hx hb dX10_walk_157 rfl (lv_at hl 2 rfl) ?_
  refine hb_if_eq (zx := 0) (tgt := 257) hx hb (by decide) dX10_walk_158 (by decide) (fun c_21 => ?_) (fun c_21 => absurd c_21 (by decide))
  refine lv_aload_n hx hb dX10_walk_257 rfl (lv_at hl 5 rfl) ?_
  refine lv_iconst (v := 0) hx hb dX10_walk_258 (by decide) ?_
  refine hk_puti hx hb hts hC_10 hown hW gy td_10 90 (by decide) rfl kw_1233 ⟨rfl, rfl, rfl⟩ rfl (x := (0 : Int32)) rfl rfl rfl dX10_walk_259 (fun H locs h_22 eh_22 hW hs => ?_)
  have f_y_94 := (hs.o gy trivial rfl).2.trans f_y_94
  have f_13 := (hs.a gqh rfl _).1.trans f_13
  have f_20 := (hs.o gy trivial rfl).1.trans f_20
  have hM := hM.tr (hs.mono (by decide))
  have gy := gy.S hs
  have gqh := gqh.S hs
  have f_23 : h_22.2.1 y 90 = (0 : Int32) := by rw [eh_22]; exact hx_pi_at _ _ _ _
  refine lv_iload hx hb dX10_walk_262 (lv_at hl 0 rfl) ?_
  exact hx_reti hx hb hr hlk hW ⟨rfl, hM⟩ dX10_walk_264
end
section
theorem dX7_clear_0 : decode cX7_clear 0 = .ok (.aload_n 0, 1) := by decide +kernel
theorem dX7_clear_1 : decode cX7_clear 1 = .ok (.iload_n 1, 1) := by decide +kernel
theorem dX7_clear_2 : decode cX7_clear 2 = .ok (.putfield 28, 3) := by decide +kernel
theorem dX7_clear_5 : decode cX7_clear 5 = .ok (.aload_n 0, 1) := by decide +kernel
theorem dX7_clear_6 : decode cX7_clear 6 = .ok (.iconst 0, 1) := by decide +kernel
theorem dX7_clear_7 : decode cX7_clear 7 = .ok (.putfield 9, 3) := by decide +kernel
theorem dX7_clear_10 : decode cX7_clear 10 = .ok (.iconst 0, 1) := by decide +kernel
theorem dX7_clear_11 : decode cX7_clear 11 = .ok (.istore_n 2, 1) := by decide +kernel
theorem dX7_clear_12 : decode cX7_clear 12 = .ok (.iload_n 2, 1) := by decide +kernel
theorem dX7_clear_13 : decode cX7_clear 13 = .ok (.aload_n 0, 1) := by decide +kernel
theorem dX7_clear_14 : decode cX7_clear 14 = .ok (.getfield 19, 3) := by decide +kernel
theorem dX7_clear_17 : decode cX7_clear 17 = .ok (.arraylength, 1) := by decide +kernel
theorem dX7_clear_18 : decode cX7_clear 18 = .ok (.if_icmp .ge 16, 3) := by decide +kernel
theorem dX7_clear_21 : decode cX7_clear 21 = .ok (.aload_n 0, 1) := by decide +kernel
theorem dX7_clear_22 : decode cX7_clear 22 = .ok (.getfield 19, 3) := by decide +kernel
theorem dX7_clear_25 : decode cX7_clear 25 = .ok (.iload_n 2, 1) := by decide +kernel
theorem dX7_clear_26 : decode cX7_clear 26 = .ok (.iconst 0, 1) := by decide +kernel
theorem dX7_clear_27 : decode cX7_clear 27 = .ok (.iastore, 1) := by decide +kernel
theorem dX7_clear_28 : decode cX7_clear 28 = .ok (.iinc 2 1, 3) := by decide +kernel
theorem dX7_clear_31 : decode cX7_clear 31 = .ok (.goto (-19), 3) := by decide +kernel
theorem dX7_clear_34 : decode cX7_clear 34 = .ok (.return_, 1) := by decide +kernel
set_option maxHeartbeats 4000000 in
set_option maxRecDepth 100000 in
theorem c_X7_clear (l : Launch) (dC : Nat → ClassId) (dI : Nat → Nat → Nat) (dA : Nat → ClassId) (L : List Nat) (h : hx_h) (sz : Nat) (x : Nat) (gx : hx_g L h x 7) (qo : Nat) (gqo : hx_g L h qo 36) (f_x_5 : h.2.2 x 5 = some qo) : Met l yX7_clear (Cond.code yX7_clear cX7_clear 3 none :: hx_all) ({ frames := 0, cells := 0, slots := 0, locals := 0 }) (va_Pc [.ref x, .int (0 : Int32)] (hx_B P_tb (P_ty dA) (dC, dI) vwCl L h sz)) (va_Qv (fun (u : List Nat × hx_h) => hx_S P_tb [(7, 0), (7, 4), (36, 0)] L h u.1 u.2 ∧ u.2.2.1 x 4 = (0 : Int32)) (hx_E P_tb (P_ty dA) (dC, dI) vwCl (hx_A L sz)) (hx_A L sz)) 0 0 (hx_A L sz) := by
  refine hx_met (lv := [(0, .ref x), (1, .int (0 : Int32))]) (by decide +kernel) rfl (Nat.le_of_ble_eq_true rfl) rfl ?_
  intro p e s m below meth c hx hb hml hr hlk hts0 hown hin hsz hW ls hl
  have hts : ∀ w ∈ hx_all, w.before _ s = true := fun w hw => hts0 w (List.mem_cons_of_mem _ hw)
  have hown : s.vm.findClass "SmallCourt$Rings" = some m.cls := hown
  have hM : hx_S P_tb [(7, 0), (7, 4), (36, 0)] L h L h := hx_S.rf
  refine lv_aload_n hx hb dX7_clear_0 rfl (lv_at hl 0 rfl) ?_
  refine lv_iload_n hx hb dX7_clear_1 rfl (lv_at hl 1 rfl) ?_
  refine hk_puti hx hb hts hC_7 hown hW gx td_7 4 (by decide) rfl kw_317 ⟨rfl, rfl, rfl⟩ rfl (x := (0 : Int32)) rfl rfl rfl dX7_clear_2 (fun H locs h_1 eh_1 hW hs => ?_)
  have f_x_5 := (hs.o gx trivial rfl).2.trans f_x_5
  have hM := hM.tr (hs.mono (by decide))
  have gx := gx.S hs
  have gqo := gqo.S hs
  have f_2 : h_1.2.1 x 4 = (0 : Int32) := by rw [eh_1]; exact hx_pi_at _ _ _ _
  refine lv_aload_n hx hb dX7_clear_5 rfl (lv_at hl 0 rfl) ?_
  refine lv_iconst (v := 0) hx hb dX7_clear_6 (by decide) ?_
  refine hk_puti hx hb hts hC_7 hown hW gx td_7 0 (by decide) rfl kw_309 ⟨rfl, rfl, rfl⟩ rfl (x := (0 : Int32)) rfl rfl rfl dX7_clear_7 (fun H locs h_3 eh_3 hW hs => ?_)
  have f_x_5 := (hs.o gx trivial rfl).2.trans f_x_5
  have f_2 := (hs.o gx trivial rfl).1.trans f_2
  have hM := hM.tr (hs.mono (by decide))
  have gx := gx.S hs
  have gqo := gqo.S hs
  have f_4 : h_3.2.1 x 0 = (0 : Int32) := by rw [eh_3]; exact hx_pi_at _ _ _ _
  refine lv_iconst (v := 0) hx hb dX7_clear_10 (by decide) ?_
  refine lv_istore_n (lv' := [(2, .int (0 : Int32)), (0, .ref x), (1, .int (0 : Int32))]) hx hb dX7_clear_11 rfl hl (by decide) rfl (fun ls hl => ?_)
  have loop : ∀ (n : Nat) (il : Int32) (H : Heap) (locs : List Loc) (hl1 : hx_h) (ls : Array Slot), 0 ≤ il.toInt → il.toInt ≤ 1600 → 1600 < il.toInt + n → hx_W P_tb (P_ty dA) (dC, dI) vwCl (hx_A L sz) s.heap L hl1 s H locs → hx_S P_tb [(7, 0), (7, 4), (36, 0)] L h L hl1 → hl1.2.2 x 5 = some qo → hl1.2.1 x 4 = (0 : Int32) → hl1.2.1 x 0 = (0 : Int32) → hx_g L hl1 x 7 → hx_g L hl1 qo 36 → lv_has ls 3 [(2, .int il), (0, .ref x), (1, .int (0 : Int32))] → W p l e ({ frames := 0, cells := 0, slots := 0, locals := 0 }) s m ([.ref x, .int (0 : Int32)] : List Value).toArray below meth c H locs 0 0 (MQ below (va_Qv (fun (u : List Nat × hx_h) => hx_S P_tb [(7, 0), (7, 4), (36, 0)] L h u.1 u.2 ∧ u.2.2.1 x 4 = (0 : Int32)) (hx_E P_tb (P_ty dA) (dC, dI) vwCl (hx_A L sz)) (hx_A L sz)) ([.ref x, .int (0 : Int32)] : List Value).toArray s 0 0 (hx_A L sz)) (F0 m 12 ls []) := by
    intro n
    induction n with
    | zero => intro il H locs hl1 ls hi1 hi2 hi3; exfalso; omega
    | succ n ih =>
      intro il H locs hl1 ls hi1 hi2 hi3 hW hM f_x_5 f_2 f_4 gx gqo hl
      refine lv_iload_n hx hb dX7_clear_12 rfl (lv_at hl 0 rfl) ?_
      refine lv_aload_n hx hb dX7_clear_13 rfl (lv_at hl 1 rfl) ?_
      refine hk_getr hx hb hts hC_7 hown hW gx td_7 5 (by decide) rfl kw_318 ⟨rfl, rfl, rfl⟩ f_x_5 dX7_clear_14 ?_
      refine hx_alen hx hb hW gqo td_36 rfl dX7_clear_17 ?_
      refine lv_topi (fun x_5 ex_5 => ?_)
      obtain rfl : x_5 = (1600 : Int32) := ex_5.trans (by decide)
      refine hb_icmp_ge (zx := il.toInt) (zy := 1600) (tgt := 34) hx hb rfl (by decide) dX7_clear_18 (by decide) (fun c_6 => ?_) (fun c_6 => ?_)
      · skip
        exact hx_retv hx hb hr hlk hW ⟨hM, f_2⟩ dX7_clear_34
      · skip
        refine lv_aload_n hx hb dX7_clear_21 rfl (lv_at hl 1 rfl) ?_
        refine hk_getr hx hb hts hC_7 hown hW gx td_7 5 (by decide) rfl kw_318 ⟨rfl, rfl, rfl⟩ f_x_5 dX7_clear_22 ?_
        refine lv_iload_n hx hb dX7_clear_25 rfl (lv_at hl 0 rfl) ?_
        refine lv_iconst (v := 0) hx hb dX7_clear_26 (by decide) ?_
        refine hk_iast hx hb hW gqo td_36 rfl ⟨by omega, by omega⟩ rfl dX7_clear_27 (fun H locs h_7 eh_7 hW hs => ?_)
        have f_x_5 := (hs.o gx trivial rfl).2.trans f_x_5
        have f_2 := (hs.o gx trivial rfl).1.trans f_2
        have f_4 := (hs.o gx trivial rfl).1.trans f_4
        have hM := hM.tr (hs.mono (by decide))
        have gx := gx.S hs
        have gqo := gqo.S hs
        obtain ⟨x_8, ex_8⟩ : ∃ y : Int32, y = il + Int32.ofInt 1 := ⟨_, rfl⟩
        have zx_8 : x_8.toInt = il.toInt + (1) := by rw [ex_8]; exact i32_add rfl (by decide) (by omega) (by omega)
        refine lv_iinc (v := x_8) (lv' := [(2, .int x_8), (0, .ref x), (1, .int (0 : Int32))]) hx hb dX7_clear_28 hl (k := 0) rfl ex_8.symm (by decide) rfl (fun ls hl => ?_)
        refine lv_goto (tgt := 12) hx hb dX7_clear_31 (by decide) ?_
        exact ih x_8 _ _ h_7 ls (by omega) (by omega) (by omega) hW hM f_x_5 f_2 f_4 gx gqo (lv_sub hl [0, 1, 2] rfl)
  exact loop 1601 (0 : Int32) _ _ h_3 ls (by decide) (by decide) (by decide) hW hM f_x_5 f_2 f_4 gx gqo hl

theorem dX7_findBest_0 : decode cX7_findBest 0 = .ok (.aload_n 0, 1) := by decide +kernel
theorem dX7_findBest_1 : decode cX7_findBest 1 = .ok (.iconst 0, 1) := by decide +kernel
theorem dX7_findBest_2 : decode cX7_findBest 2 = .ok (.putfield 31, 3) := by decide +kernel
theorem dX7_findBest_5 : decode cX7_findBest 5 = .ok (.aload_n 0, 1) := by decide +kernel
theorem dX7_findBest_6 : decode cX7_findBest 6 = .ok (.iconst 0, 1) := by decide +kernel
theorem dX7_findBest_7 : decode cX7_findBest 7 = .ok (.putfield 34, 3) := by decide +kernel
theorem dX7_findBest_10 : decode cX7_findBest 10 = .ok (.iconst 0, 1) := by decide +kernel
theorem dX7_findBest_11 : decode cX7_findBest 11 = .ok (.istore_n 1, 1) := by decide +kernel
theorem dX7_findBest_12 : decode cX7_findBest 12 = .ok (.iload_n 1, 1) := by decide +kernel
theorem dX7_findBest_13 : decode cX7_findBest 13 = .ok (.aload_n 0, 1) := by decide +kernel
theorem dX7_findBest_14 : decode cX7_findBest 14 = .ok (.getfield 28, 3) := by decide +kernel
theorem dX7_findBest_17 : decode cX7_findBest 17 = .ok (.if_icmp .ge 23, 3) := by decide +kernel
theorem dX7_findBest_40 : decode cX7_findBest 40 = .ok (.aload_n 0, 1) := by decide +kernel
theorem dX7_findBest_41 : decode cX7_findBest 41 = .ok (.getfield 31, 3) := by decide +kernel
theorem dX7_findBest_44 : decode cX7_findBest 44 = .ok (.ifCond .le 7, 3) := by decide +kernel
theorem dX7_findBest_51 : decode cX7_findBest 51 = .ok (.iconst 0, 1) := by decide +kernel
theorem dX7_findBest_52 : decode cX7_findBest 52 = .ok (.ireturn, 1) := by decide +kernel
set_option maxHeartbeats 4000000 in
set_option maxRecDepth 100000 in
theorem c_X7_findBest (l : Launch) (dC : Nat → ClassId) (dI : Nat → Nat → Nat) (dA : Nat → ClassId) (L : List Nat) (h : hx_h) (sz : Nat) (x : Nat) (gx : hx_g L h x 7) (f_x_4 : h.2.1 x 4 = 0) : Met l yX7_findBest (Cond.code yX7_findBest cX7_findBest 2 (some .boolean) :: hx_all) ({ frames := 0, cells := 0, slots := 0, locals := 0 }) (va_Pc [.ref x] (hx_B P_tb (P_ty dA) (dC, dI) vwCl L h sz)) (va_Qi (fun (r : Int32) (u : List Nat × hx_h) => (r = 0) ∧ hx_S P_tb [(7, 1), (7, 2)] L h u.1 u.2) (hx_E P_tb (P_ty dA) (dC, dI) vwCl (hx_A L sz)) (hx_A L sz)) 0 0 (hx_A L sz) := by
  refine hx_met (lv := [(0, .ref x)]) (by decide +kernel) rfl (Nat.le_of_ble_eq_true rfl) rfl ?_
  intro p e s m below meth c hx hb hml hr hlk hts0 hown hin hsz hW ls hl
  have hts : ∀ w ∈ hx_all, w.before _ s = true := fun w hw => hts0 w (List.mem_cons_of_mem _ hw)
  have hown : s.vm.findClass "SmallCourt$Rings" = some m.cls := hown
  have hM : hx_S P_tb [(7, 1), (7, 2)] L h L h := hx_S.rf
  refine lv_aload_n hx hb dX7_findBest_0 rfl (lv_at hl 0 rfl) ?_
  refine lv_iconst (v := 0) hx hb dX7_findBest_1 (by decide) ?_
  refine hk_puti hx hb hts hC_7 hown hW gx td_7 1 (by decide) rfl kw_311 ⟨rfl, rfl, rfl⟩ rfl (x := (0 : Int32)) rfl rfl rfl dX7_findBest_2 (fun H locs h_1 eh_1 hW hs => ?_)
  have f_x_4 := (hs.o gx trivial rfl).1.trans f_x_4
  have hM := hM.tr (hs.mono (by decide))
  have gx := gx.S hs
  have f_2 : h_1.2.1 x 1 = (0 : Int32) := by rw [eh_1]; exact hx_pi_at _ _ _ _
  refine lv_aload_n hx hb dX7_findBest_5 rfl (lv_at hl 0 rfl) ?_
  refine lv_iconst (v := 0) hx hb dX7_findBest_6 (by decide) ?_
  refine hk_puti hx hb hts hC_7 hown hW gx td_7 2 (by decide) rfl kw_313 ⟨rfl, rfl, rfl⟩ rfl (x := (0 : Int32)) rfl rfl rfl dX7_findBest_7 (fun H locs h_3 eh_3 hW hs => ?_)
  have f_x_4 := (hs.o gx trivial rfl).1.trans f_x_4
  have f_2 := (hs.o gx trivial rfl).1.trans f_2
  have hM := hM.tr (hs.mono (by decide))
  have gx := gx.S hs
  have f_4 : h_3.2.1 x 2 = (0 : Int32) := by rw [eh_3]; exact hx_pi_at _ _ _ _
  refine lv_iconst (v := 0) hx hb dX7_findBest_10 (by decide) ?_
  refine lv_istore_n (lv' := [(1, .int (0 : Int32)), (0, .ref x)]) hx hb dX7_findBest_11 rfl hl (by decide) rfl (fun ls hl => ?_)
  refine lv_iload_n hx hb dX7_findBest_12 rfl (lv_at hl 0 rfl) ?_
  refine lv_aload_n hx hb dX7_findBest_13 rfl (lv_at hl 1 rfl) ?_
  refine hk_geti hx hb hts hC_7 hown hW gx td_7 4 (by decide) rfl kw_317 ⟨rfl, rfl, rfl⟩ f_x_4 dX7_findBest_14 ?_
  refine hb_icmp_ge (zx := 0) (zy := 0) (tgt := 40) hx hb (by decide) (by decide) dX7_findBest_17 (by decide) (fun c_5 => ?_) (fun c_5 => absurd c_5 (by decide))
  refine lv_aload_n hx hb dX7_findBest_40 rfl (lv_at hl 1 rfl) ?_
  refine hk_geti hx hb hts hC_7 hown hW gx td_7 1 (by decide) rfl kw_311 ⟨rfl, rfl, rfl⟩ f_2 dX7_findBest_41 ?_
  refine hb_if_le (zx := 0) (tgt := 51) hx hb (by decide) dX7_findBest_44 (by decide) (fun c_6 => ?_) (fun c_6 => absurd c_6 (by decide))
  refine lv_iconst (v := 0) hx hb dX7_findBest_51 (by decide) ?_
  exact hx_retz hx hb hr rfl hlk hW ⟨rfl, hM⟩ dX7_findBest_52

theorem dX9_net_0 : decode cX9_net 0 = .ok (.aload_n 0, 1) := by decide +kernel
theorem dX9_net_1 : decode cX9_net 1 = .ok (.getfield 79, 3) := by decide +kernel
theorem dX9_net_4 : decode cX9_net 4 = .ok (.aload_n 0, 1) := by decide +kernel
theorem dX9_net_5 : decode cX9_net 5 = .ok (.getfield 125, 3) := by decide +kernel
theorem dX9_net_8 : decode cX9_net 8 = .ok (.invokevirtual 346, 3) := by decide +kernel
theorem dX9_net_11 : decode cX9_net 11 = .ok (.iconst 0, 1) := by decide +kernel
theorem dX9_net_12 : decode cX9_net 12 = .ok (.istore_n 1, 1) := by decide +kernel
theorem dX9_net_13 : decode cX9_net 13 = .ok (.iload_n 1, 1) := by decide +kernel
theorem dX9_net_14 : decode cX9_net 14 = .ok (.aload_n 0, 1) := by decide +kernel
theorem dX9_net_15 : decode cX9_net 15 = .ok (.getfield 181, 3) := by decide +kernel
theorem dX9_net_18 : decode cX9_net 18 = .ok (.if_icmp .ge 65, 3) := by decide +kernel
theorem dX9_net_83 : decode cX9_net 83 = .ok (.iconst 0, 1) := by decide +kernel
theorem dX9_net_84 : decode cX9_net 84 = .ok (.istore_n 1, 1) := by decide +kernel
theorem dX9_net_85 : decode cX9_net 85 = .ok (.iconst 0, 1) := by decide +kernel
theorem dX9_net_86 : decode cX9_net 86 = .ok (.istore_n 2, 1) := by decide +kernel
theorem dX9_net_87 : decode cX9_net 87 = .ok (.iload_n 2, 1) := by decide +kernel
theorem dX9_net_88 : decode cX9_net 88 = .ok (.bipush 100, 2) := by decide +kernel
theorem dX9_net_90 : decode cX9_net 90 = .ok (.if_icmp .ge 44, 3) := by decide +kernel
theorem dX9_net_93 : decode cX9_net 93 = .ok (.aload_n 0, 1) := by decide +kernel
theorem dX9_net_94 : decode cX9_net 94 = .ok (.getfield 79, 3) := by decide +kernel
theorem dX9_net_97 : decode cX9_net 97 = .ok (.invokevirtual 351, 3) := by decide +kernel
theorem dX9_net_100 : decode cX9_net 100 = .ok (.ifCond .eq 34, 3) := by decide +kernel
theorem dX9_net_134 : decode cX9_net 134 = .ok (.iload_n 1, 1) := by decide +kernel
theorem dX9_net_135 : decode cX9_net 135 = .ok (.ireturn, 1) := by decide +kernel
set_option maxHeartbeats 4000000 in
set_option maxRecDepth 100000 in
theorem c_X9_net (l : Launch) (dC : Nat → ClassId) (dI : Nat → Nat → Nat) (dA : Nat → ClassId) (L : List Nat) (h : hx_h) (sz : Nat) (x : Nat) (gx : hx_g L h x 9) (f_x_8 : h.2.1 x 8 = 0) (f_x_11 : h.2.1 x 11 = 0) (qr : Nat) (gqr : hx_g L h qr 7) (f_x_18 : h.2.2 x 18 = some qr) (qo : Nat) (gqo : hx_g L h qo 36) (f_qr_5 : h.2.2 qr 5 = some qo) : Met l yX9_net (Cond.code yX9_net cX9_net 3 (some .int) :: hx_all) ({ frames := 1, cells := 0, slots := 0, locals := 22 }) (va_Pc [.ref x] (hx_B P_tb (P_ty dA) (dC, dI) vwCl L h sz)) (va_Qi (fun (r : Int32) (u : List Nat × hx_h) => (r = 0) ∧ hx_S P_tb [(7, 0), (7, 1), (7, 2), (7, 4), (36, 0)] L h u.1 u.2) (hx_E P_tb (P_ty dA) (dC, dI) vwCl (hx_A L sz)) (hx_A L sz)) 0 0 (hx_A L sz) := by
  refine hx_met (lv := [(0, .ref x)]) (by decide +kernel) rfl (Nat.le_of_ble_eq_true rfl) rfl ?_
  intro p e s m below meth c hx hb hml hr hlk hts0 hown hin hsz hW ls hl
  have hts : ∀ w ∈ hx_all, w.before _ s = true := fun w hw => hts0 w (List.mem_cons_of_mem _ hw)
  have hown : s.vm.findClass "SmallCourt" = some m.cls := hown
  have hM : hx_S P_tb [(7, 0), (7, 1), (7, 2), (7, 4), (36, 0)] L h L h := hx_S.rf
  refine lv_aload_n hx hb dX9_net_0 rfl (lv_at hl 0 rfl) ?_
  refine hk_getr hx hb hts hC_9 hown hW gx td_9 18 (by decide) rfl kw_382 ⟨rfl, rfl, rfl⟩ f_x_18 dX9_net_1 ?_
  refine lv_aload_n hx hb dX9_net_4 rfl (lv_at hl 0 rfl) ?_
  refine hk_geti hx hb hts hC_9 hown hW gx td_9 8 (by decide) rfl kw_372 ⟨rfl, rfl, rfl⟩ f_x_8 dX9_net_5 ?_
  refine hx_gov (hx_runV (As := [.int (0 : Int32)]) (rest := []) ⟨hx, hb, hml, hown, hts⟩ hW gqr td_7 (T := TX7) (N := 8) rfl (c_X7_clear l dC dI dA L h s.heap.size qr gqr qo gqo f_qr_5) (cwV 1 hts (hx_gV kw_988 kw_985 kw_986 kw_987 kw_101) rfl rfl rfl (by decide +kernel) ⟨Nat.le_of_ble_eq_true rfl, Nat.le_of_ble_eq_true rfl⟩) rfl hl.1 rfl (Nat.le_of_ble_eq_true rfl) dX9_net_8 ⟨Nat.le_of_ble_eq_true rfl, Nat.le_of_ble_eq_true rfl⟩) hW (fun L_1 h_2 H locs p_4 hW => ?_)
  obtain ⟨hs, f_5⟩ := p_4
  have hs : hx_S P_tb [(7, 0), (7, 4), (36, 0)] L h L_1 h_2 := hs
  have f_5 : h_2.2.1 qr 4 = _ := f_5
  have f_x_8 := (hs.o gx trivial rfl).1.trans f_x_8
  have f_x_11 := (hs.o gx trivial rfl).1.trans f_x_11
  have f_x_18 := (hs.o gx trivial rfl).2.trans f_x_18
  have f_qr_5 := (hs.o gqr trivial rfl).2.trans f_qr_5
  have hM := hM.tr (hs.mono (by decide))
  have gx := gx.S hs
  have gqr := gqr.S hs
  have gqo := gqo.S hs
  refine lv_iconst (v := 0) hx hb dX9_net_11 (by decide) ?_
  refine lv_istore_n (lv' := [(1, .int (0 : Int32)), (0, .ref x)]) hx hb dX9_net_12 rfl hl (by decide) rfl (fun ls hl => ?_)
  refine lv_iload_n hx hb dX9_net_13 rfl (lv_at hl 0 rfl) ?_
  refine lv_aload_n hx hb dX9_net_14 rfl (lv_at hl 1 rfl) ?_
  refine hk_geti hx hb hts hC_9 hown hW gx td_9 11 (by decide) rfl kw_375 ⟨rfl, rfl, rfl⟩ f_x_11 dX9_net_15 ?_
  refine hb_icmp_ge (zx := 0) (zy := 0) (tgt := 83) hx hb (by decide) (by decide) dX9_net_18 (by decide) (fun c_6 => ?_) (fun c_6 => absurd c_6 (by decide))
  refine lv_iconst (v := 0) hx hb dX9_net_83 (by decide) ?_
  refine lv_istore_n (lv' := [(1, .int (0 : Int32)), (0, .ref x)]) hx hb dX9_net_84 rfl hl (by decide) rfl (fun ls hl => ?_)
  refine lv_iconst (v := 0) hx hb dX9_net_85 (by decide) ?_
  refine lv_istore_n (lv' := [(2, .int (0 : Int32)), (1, .int (0 : Int32)), (0, .ref x)]) hx hb dX9_net_86 rfl hl (by decide) rfl (fun ls hl => ?_)
  refine lv_iload_n hx hb dX9_net_87 rfl (lv_at hl 0 rfl) ?_
  refine lv_bipush (v := 100) hx hb dX9_net_88 (by decide) ?_
  refine hb_icmp_ge (zx := 0) (zy := 100) (tgt := 134) hx hb (by decide) (by decide) dX9_net_90 (by decide) (fun c_7 => absurd c_7 (by decide)) (fun c_7 => ?_)
  refine lv_aload_n hx hb dX9_net_93 rfl (lv_at hl 2 rfl) ?_
  refine hk_getr hx hb hts hC_9 hown hW gx td_9 18 (by decide) rfl kw_382 ⟨rfl, rfl, rfl⟩ f_x_18 dX9_net_94 ?_
  refine hx_goi (hx_runV (As := []) (rest := []) ⟨hx, hb, hml, hown, hts⟩ hW gqr td_7 (T := TX7) (N := 8) rfl (c_X7_findBest l dC dI dA L_1 h_2 H.size qr gqr f_5) (cwV 0 hts (hx_gV kw_996 kw_993 kw_994 kw_995 kw_101) rfl rfl rfl (by decide +kernel) ⟨Nat.le_of_ble_eq_true rfl, Nat.le_of_ble_eq_true rfl⟩) rfl hl.1 rfl (Nat.le_of_ble_eq_true rfl) dX9_net_97 ⟨Nat.le_of_ble_eq_true rfl, Nat.le_of_ble_eq_true rfl⟩) hW (fun r_10 L_8 h_9 H locs p_11 hW => ?_)
  obtain ⟨er, hs⟩ := p_11
  have hs : hx_S P_tb [(7, 1), (7, 2)] L_1 h_2 L_8 h_9 := hs
  have f_x_8 := (hs.o gx trivial rfl).1.trans f_x_8
  have f_x_11 := (hs.o gx trivial rfl).1.trans f_x_11
  have f_x_18 := (hs.o gx trivial rfl).2.trans f_x_18
  have f_qr_5 := (hs.o gqr trivial rfl).2.trans f_qr_5
  have f_5 := (hs.o gqr trivial rfl).1.trans f_5
  have hM := hM.tr (hs.mono (by decide))
  have gx := gx.S hs
  have gqr := gqr.S hs
  have gqo := gqo.S hs
  subst er
  refine hb_if_eq (zx := 0) (tgt := 134) hx hb (by decide) dX9_net_100 (by decide) (fun c_12 => ?_) (fun c_12 => absurd c_12 (by decide))
  refine lv_iload_n hx hb dX9_net_134 rfl (lv_at hl 1 rfl) ?_
  exact hx_reti hx hb hr hlk hW ⟨rfl, hM⟩ dX9_net_135

theorem dX10_debts_0 : decode cX10_debts 0 = .ok (.iconst 0, 1) := by decide +kernel
theorem dX10_debts_1 : decode cX10_debts 1 = .ok (.istore_n 1, 1) := by decide +kernel
theorem dX10_debts_2 : decode cX10_debts 2 = .ok (.iload_n 1, 1) := by decide +kernel
theorem dX10_debts_3 : decode cX10_debts 3 = .ok (.sipush 1600, 3) := by decide +kernel
theorem dX10_debts_6 : decode cX10_debts 6 = .ok (.if_icmp .ge 16, 3) := by decide +kernel
theorem dX10_debts_9 : decode cX10_debts 9 = .ok (.aload_n 0, 1) := by decide +kernel
theorem dX10_debts_10 : decode cX10_debts 10 = .ok (.getfield 189, 3) := by decide +kernel
theorem dX10_debts_13 : decode cX10_debts 13 = .ok (.iload_n 1, 1) := by decide +kernel
theorem dX10_debts_14 : decode cX10_debts 14 = .ok (.iconst 0, 1) := by decide +kernel
theorem dX10_debts_15 : decode cX10_debts 15 = .ok (.iastore, 1) := by decide +kernel
theorem dX10_debts_16 : decode cX10_debts 16 = .ok (.iinc 1 1, 3) := by decide +kernel
theorem dX10_debts_19 : decode cX10_debts 19 = .ok (.goto (-17), 3) := by decide +kernel
theorem dX10_debts_22 : decode cX10_debts 22 = .ok (.iconst 0, 1) := by decide +kernel
theorem dX10_debts_23 : decode cX10_debts 23 = .ok (.istore_n 1, 1) := by decide +kernel
theorem dX10_debts_24 : decode cX10_debts 24 = .ok (.iload_n 1, 1) := by decide +kernel
theorem dX10_debts_25 : decode cX10_debts 25 = .ok (.aload_n 0, 1) := by decide +kernel
theorem dX10_debts_26 : decode cX10_debts 26 = .ok (.getfield 367, 3) := by decide +kernel
theorem dX10_debts_29 : decode cX10_debts 29 = .ok (.if_icmp .ge 45, 3) := by decide +kernel
theorem dX10_debts_74 : decode cX10_debts 74 = .ok (.return_, 1) := by decide +kernel
set_option maxHeartbeats 4000000 in
set_option maxRecDepth 100000 in
theorem c_X10_debts (l : Launch) (dC : Nat → ClassId) (dI : Nat → Nat → Nat) (dA : Nat → ClassId) (L : List Nat) (h : hx_h) (sz : Nat) (y : Nat) (gy : hx_g L h y 10) (qd : Nat) (gqd : hx_g L h qd 108) (f_y_82 : h.2.2 y 82 = some qd) (f_y_36 : h.2.1 y 36 = 0) : Met l yX10_debts (Cond.code yX10_debts cX10_debts 2 none :: hx_all) ({ frames := 0, cells := 0, slots := 0, locals := 0 }) (va_Pc [.ref y] (hx_B P_tb (P_ty dA) (dC, dI) vwCl L h sz)) (va_Qv (fun (u : List Nat × hx_h) => hx_S P_tb [(108, 0)] L h u.1 u.2) (hx_E P_tb (P_ty dA) (dC, dI) vwCl (hx_A L sz)) (hx_A L sz)) 0 0 (hx_A L sz) := by
  refine hx_met (lv := [(0, .ref y)]) (by decide +kernel) rfl (Nat.le_of_ble_eq_true rfl) rfl ?_
  intro p e s m below meth c hx hb hml hr hlk hts0 hown hin hsz hW ls hl
  have hts : ∀ w ∈ hx_all, w.before _ s = true := fun w hw => hts0 w (List.mem_cons_of_mem _ hw)
  have hown : s.vm.findClass "SmallCourtModel" = some m.cls := hown
  have hM : hx_S P_tb [(108, 0)] L h L h := hx_S.rf
  refine lv_iconst (v := 0) hx hb dX10_debts_0 (by decide) ?_
  refine lv_istore_n (lv' := [(1, .int (0 : Int32)), (0, .ref y)]) hx hb dX10_debts_1 rfl hl (by decide) rfl (fun ls hl => ?_)
  have loop : ∀ (n : Nat) (il : Int32) (H : Heap) (locs : List Loc) (hl1 : hx_h) (ls : Array Slot), 0 ≤ il.toInt → il.toInt ≤ 1600 → 1600 < il.toInt + n → hx_W P_tb (P_ty dA) (dC, dI) vwCl (hx_A L sz) s.heap L hl1 s H locs → hx_S P_tb [(108, 0)] L h L hl1 → hl1.2.2 y 82 = some qd → hl1.2.1 y 36 = (0 : Int32) → hx_g L hl1 y 10 → hx_g L hl1 qd 108 → lv_has ls 2 [(1, .int il), (0, .ref y)] → W p l e ({ frames := 0, cells := 0, slots := 0, locals := 0 }) s m ([.ref y] : List Value).toArray below meth c H locs 0 0 (MQ below (va_Qv (fun (u : List Nat × hx_h) => hx_S P_tb [(108, 0)] L h u.1 u.2) (hx_E P_tb (P_ty dA) (dC, dI) vwCl (hx_A L sz)) (hx_A L sz)) ([.ref y] : List Value).toArray s 0 0 (hx_A L sz)) (F0 m 2 ls []) := by
    intro n
    induction n with
    | zero => intro il H locs hl1 ls hi1 hi2 hi3; exfalso; omega
    | succ n ih =>
      intro il H locs hl1 ls hi1 hi2 hi3 hW hM f_y_82 f_y_36 gy gqd hl
      refine lv_iload_n hx hb dX10_debts_2 rfl (lv_at hl 0 rfl) ?_
      refine lv_sipush (v := 1600) hx hb dX10_debts_3 (by decide) ?_
      refine hb_icmp_ge (zx := il.toInt) (zy := 1600) (tgt := 22) hx hb rfl (by decide) dX10_debts_6 (by decide) (fun c_1 => ?_) (fun c_1 => ?_)
      · skip
        refine lv_iconst (v := 0) hx hb dX10_debts_22 (by decide) ?_
        refine lv_istore_n (lv' := [(1, .int (0 : Int32)), (0, .ref y)]) hx hb dX10_debts_23 rfl hl (by decide) rfl (fun ls hl => ?_)
        refine lv_iload_n hx hb dX10_debts_24 rfl (lv_at hl 0 rfl) ?_
        refine lv_aload_n hx hb dX10_debts_25 rfl (lv_at hl 1 rfl) ?_
        refine hk_geti hx hb hts hC_10 hown hW gy td_10 36 (by decide) rfl kw_1179 ⟨rfl, rfl, rfl⟩ f_y_36 dX10_debts_26 ?_
        refine hb_icmp_ge (zx := 0) (zy := 0) (tgt := 74) hx hb (by decide) (by decide) dX10_debts_29 (by decide) (fun c_2 => ?_) (fun c_2 => absurd c_2 (by decide))
        exact hx_retv hx hb hr hlk hW hM dX10_debts_74
      · skip
        refine lv_aload_n hx hb dX10_debts_9 rfl (lv_at hl 1 rfl) ?_
        refine hk_getr hx hb hts hC_10 hown hW gy td_10 82 (by decide) rfl kw_1225 ⟨rfl, rfl, rfl⟩ f_y_82 dX10_debts_10 ?_
        refine lv_iload_n hx hb dX10_debts_13 rfl (lv_at hl 0 rfl) ?_
        refine lv_iconst (v := 0) hx hb dX10_debts_14 (by decide) ?_
        refine hk_iast hx hb hW gqd td_108 rfl ⟨by omega, by omega⟩ rfl dX10_debts_15 (fun H locs h_3 eh_3 hW hs => ?_)
        have f_y_82 := (hs.o gy trivial rfl).2.trans f_y_82
        have f_y_36 := (hs.o gy trivial rfl).1.trans f_y_36
        have hM := hM.tr (hs.mono (by decide))
        have gy := gy.S hs
        have gqd := gqd.S hs
        obtain ⟨x_4, ex_4⟩ : ∃ y : Int32, y = il + Int32.ofInt 1 := ⟨_, rfl⟩
        have zx_4 : x_4.toInt = il.toInt + (1) := by rw [ex_4]; exact i32_add rfl (by decide) (by omega) (by omega)
        refine lv_iinc (v := x_4) (lv' := [(1, .int x_4), (0, .ref y)]) hx hb dX10_debts_16 hl (k := 0) rfl ex_4.symm (by decide) rfl (fun ls hl => ?_)
        refine lv_goto (tgt := 2) hx hb dX10_debts_19 (by decide) ?_
        exact ih x_4 _ _ h_3 ls (by omega) (by omega) (by omega) hW hM f_y_82 f_y_36 gy gqd (lv_sub hl [0, 1] rfl)
  exact loop 1601 (0 : Int32) _ _ h ls (by decide) (by decide) (by decide) hW hM f_y_82 f_y_36 gy gqd hl

theorem dX10_finds_0 : decode cX10_finds 0 = .ok (.aload_n 0, 1) := by decide +kernel
theorem dX10_finds_1 : decode cX10_finds 1 = .ok (.iconst 0, 1) := by decide +kernel
theorem dX10_finds_2 : decode cX10_finds 2 = .ok (.putfield 438, 3) := by decide +kernel
theorem dX10_finds_5 : decode cX10_finds 5 = .ok (.aload_n 0, 1) := by decide +kernel
theorem dX10_finds_6 : decode cX10_finds 6 = .ok (.iconst 0, 1) := by decide +kernel
theorem dX10_finds_7 : decode cX10_finds 7 = .ok (.putfield 441, 3) := by decide +kernel
theorem dX10_finds_10 : decode cX10_finds 10 = .ok (.iconst 0, 1) := by decide +kernel
theorem dX10_finds_11 : decode cX10_finds 11 = .ok (.istore_n 1, 1) := by decide +kernel
theorem dX10_finds_12 : decode cX10_finds 12 = .ok (.iload_n 1, 1) := by decide +kernel
theorem dX10_finds_13 : decode cX10_finds 13 = .ok (.aload_n 0, 1) := by decide +kernel
theorem dX10_finds_14 : decode cX10_finds 14 = .ok (.getfield 337, 3) := by decide +kernel
theorem dX10_finds_17 : decode cX10_finds 17 = .ok (.if_icmp .ge 209, 3) := by decide +kernel
theorem dX10_finds_226 : decode cX10_finds 226 = .ok (.return_, 1) := by decide +kernel
set_option maxHeartbeats 4000000 in
set_option maxRecDepth 100000 in
theorem c_X10_finds (l : Launch) (dC : Nat → ClassId) (dI : Nat → Nat → Nat) (dA : Nat → ClassId) (L : List Nat) (h : hx_h) (sz : Nat) (y : Nat) (gy : hx_g L h y 10) (f_y_20 : h.2.1 y 20 = 0) : Met l yX10_finds (Cond.code yX10_finds cX10_finds 8 none :: hx_all) ({ frames := 0, cells := 0, slots := 0, locals := 0 }) (va_Pc [.ref y] (hx_B P_tb (P_ty dA) (dC, dI) vwCl L h sz)) (va_Qv (fun (u : List Nat × hx_h) => hx_S P_tb [(10, 86), (10, 87)] L h u.1 u.2 ∧ u.2.2.1 y 87 = (0 : Int32)) (hx_E P_tb (P_ty dA) (dC, dI) vwCl (hx_A L sz)) (hx_A L sz)) 0 0 (hx_A L sz) := by
  refine hx_met (lv := [(0, .ref y)]) (by decide +kernel) rfl (Nat.le_of_ble_eq_true rfl) rfl ?_
  intro p e s m below meth c hx hb hml hr hlk hts0 hown hin hsz hW ls hl
  have hts : ∀ w ∈ hx_all, w.before _ s = true := fun w hw => hts0 w (List.mem_cons_of_mem _ hw)
  have hown : s.vm.findClass "SmallCourtModel" = some m.cls := hown
  have hM : hx_S P_tb [(10, 86), (10, 87)] L h L h := hx_S.rf
  refine lv_aload_n hx hb dX10_finds_0 rfl (lv_at hl 0 rfl) ?_
  refine lv_iconst (v := 0) hx hb dX10_finds_1 (by decide) ?_
  refine hk_puti hx hb hts hC_10 hown hW gy td_10 86 (by decide) rfl kw_1229 ⟨rfl, rfl, rfl⟩ rfl (x := (0 : Int32)) rfl rfl rfl dX10_finds_2 (fun H locs h_1 eh_1 hW hs => ?_)
  have f_y_20 := (hs.o gy trivial rfl).1.trans f_y_20
  have hM := hM.tr (hs.mono (by decide))
  have gy := gy.S hs
  have f_2 : h_1.2.1 y 86 = (0 : Int32) := by rw [eh_1]; exact hx_pi_at _ _ _ _
  refine lv_aload_n hx hb dX10_finds_5 rfl (lv_at hl 0 rfl) ?_
  refine lv_iconst (v := 0) hx hb dX10_finds_6 (by decide) ?_
  refine hk_puti hx hb hts hC_10 hown hW gy td_10 87 (by decide) rfl kw_1230 ⟨rfl, rfl, rfl⟩ rfl (x := (0 : Int32)) rfl rfl rfl dX10_finds_7 (fun H locs h_3 eh_3 hW hs => ?_)
  have f_y_20 := (hs.o gy trivial rfl).1.trans f_y_20
  have f_2 := (hs.o gy trivial rfl).1.trans f_2
  have hM := hM.tr (hs.mono (by decide))
  have gy := gy.S hs
  have f_4 : h_3.2.1 y 87 = (0 : Int32) := by rw [eh_3]; exact hx_pi_at _ _ _ _
  refine lv_iconst (v := 0) hx hb dX10_finds_10 (by decide) ?_
  refine lv_istore_n (lv' := [(1, .int (0 : Int32)), (0, .ref y)]) hx hb dX10_finds_11 rfl hl (by decide) rfl (fun ls hl => ?_)
  refine lv_iload_n hx hb dX10_finds_12 rfl (lv_at hl 0 rfl) ?_
  refine lv_aload_n hx hb dX10_finds_13 rfl (lv_at hl 1 rfl) ?_
  refine hk_geti hx hb hts hC_10 hown hW gy td_10 20 (by decide) rfl kw_1163 ⟨rfl, rfl, rfl⟩ f_y_20 dX10_finds_14 ?_
  refine hb_icmp_ge (zx := 0) (zy := 0) (tgt := 226) hx hb (by decide) (by decide) dX10_finds_17 (by decide) (fun c_5 => ?_) (fun c_5 => absurd c_5 (by decide))
  exact hx_retv hx hb hr hlk hW ⟨hM, f_4⟩ dX10_finds_226

theorem dX10_net_0 : decode cX10_net 0 = .ok (.aload_n 0, 1) := by decide +kernel
theorem dX10_net_1 : decode cX10_net 1 = .ok (.iconst 1, 1) := by decide +kernel
theorem dX10_net_2 : decode cX10_net 2 = .ok (.putfield 451, 3) := by decide +kernel
theorem dX10_net_5 : decode cX10_net 5 = .ok (.aload_n 0, 1) := by decide +kernel
theorem dX10_net_6 : decode cX10_net 6 = .ok (.iconst 0, 1) := by decide +kernel
theorem dX10_net_7 : decode cX10_net 7 = .ok (.putfield 455, 3) := by decide +kernel
theorem dX10_net_10 : decode cX10_net 10 = .ok (.iconst 0, 1) := by decide +kernel
theorem dX10_net_11 : decode cX10_net 11 = .ok (.istore_n 1, 1) := by decide +kernel
theorem dX10_net_12 : decode cX10_net 12 = .ok (.iconst 1, 1) := by decide +kernel
theorem dX10_net_13 : decode cX10_net 13 = .ok (.istore_n 2, 1) := by decide +kernel
theorem dX10_net_14 : decode cX10_net 14 = .ok (.iload_n 2, 1) := by decide +kernel
theorem dX10_net_15 : decode cX10_net 15 = .ok (.ifCond .eq 183, 3) := by decide +kernel
theorem dX10_net_18 : decode cX10_net 18 = .ok (.aload_n 0, 1) := by decide +kernel
theorem dX10_net_19 : decode cX10_net 19 = .ok (.invokevirtual 458, 3) := by decide +kernel
theorem dX10_net_22 : decode cX10_net 22 = .ok (.aload_n 0, 1) := by decide +kernel
theorem dX10_net_23 : decode cX10_net 23 = .ok (.invokevirtual 461, 3) := by decide +kernel
theorem dX10_net_26 : decode cX10_net 26 = .ok (.iconst 0, 1) := by decide +kernel
theorem dX10_net_27 : decode cX10_net 27 = .ok (.istore_n 3, 1) := by decide +kernel
theorem dX10_net_28 : decode cX10_net 28 = .ok (.iconst 0, 1) := by decide +kernel
theorem dX10_net_29 : decode cX10_net 29 = .ok (.istore 4, 2) := by decide +kernel
theorem dX10_net_31 : decode cX10_net 31 = .ok (.iload 4, 2) := by decide +kernel
theorem dX10_net_33 : decode cX10_net 33 = .ok (.aload_n 0, 1) := by decide +kernel
theorem dX10_net_34 : decode cX10_net 34 = .ok (.getfield 441, 3) := by decide +kernel
theorem dX10_net_37 : decode cX10_net 37 = .ok (.if_icmp .ge 42, 3) := by decide +kernel
theorem dX10_net_79 : decode cX10_net 79 = .ok (.aload_n 0, 1) := by decide +kernel
theorem dX10_net_80 : decode cX10_net 80 = .ok (.getfield 441, 3) := by decide +kernel
theorem dX10_net_83 : decode cX10_net 83 = .ok (.ifCond .le 19, 3) := by decide +kernel
theorem dX10_net_102 : decode cX10_net 102 = .ok (.iconst 0, 1) := by decide +kernel
theorem dX10_net_103 : decode cX10_net 103 = .ok (.istore_n 2, 1) := by decide +kernel
theorem dX10_net_104 : decode cX10_net 104 = .ok (.iload_n 2, 1) := by decide +kernel
theorem dX10_net_105 : decode cX10_net 105 = .ok (.ifCond .ne 6, 3) := by decide +kernel
theorem dX10_net_108 : decode cX10_net 108 = .ok (.goto 90, 3) := by decide +kernel
theorem dX10_net_198 : decode cX10_net 198 = .ok (.iload_n 1, 1) := by decide +kernel
theorem dX10_net_199 : decode cX10_net 199 = .ok (.ireturn, 1) := by decide +kernel
set_option maxHeartbeats 4000000 in
set_option maxRecDepth 100000 in
theorem c_X10_net (l : Launch) (dC : Nat → ClassId) (dI : Nat → Nat → Nat) (dA : Nat → ClassId) (L : List Nat) (h : hx_h) (sz : Nat) (y : Nat) (gy : hx_g L h y 10) (qd : Nat) (gqd : hx_g L h qd 108) (f_y_82 : h.2.2 y 82 = some qd) (f_y_36 : h.2.1 y 36 = 0) (f_y_20 : h.2.1 y 20 = 0) : Met l yX10_net (Cond.code yX10_net cX10_net 5 (some .int) :: hx_all) ({ frames := 1, cells := 0, slots := 0, locals := 27 }) (va_Pc [.ref y] (hx_B P_tb (P_ty dA) (dC, dI) vwCl L h sz)) (va_Qi (fun (r : Int32) (u : List Nat × hx_h) => (r = 0) ∧ hx_S P_tb [(10, 83), (10, 84), (10, 86), (10, 87), (108, 0)] L h u.1 u.2) (hx_E P_tb (P_ty dA) (dC, dI) vwCl (hx_A L sz)) (hx_A L sz)) 0 0 (hx_A L sz) := by
  refine hx_met (lv := [(0, .ref y)]) (by decide +kernel) rfl (Nat.le_of_ble_eq_true rfl) rfl ?_
  intro p e s m below meth c hx hb hml hr hlk hts0 hown hin hsz hW ls hl
  have hts : ∀ w ∈ hx_all, w.before _ s = true := fun w hw => hts0 w (List.mem_cons_of_mem _ hw)
  have hown : s.vm.findClass "SmallCourtModel" = some m.cls := hown
  have hM : hx_S P_tb [(10, 83), (10, 84), (10, 86), (10, 87), (108, 0)] L h L h := hx_S.rf
  refine lv_aload_n hx hb dX10_net_0 rfl (lv_at hl 0 rfl) ?_
  refine lv_iconst (v := 1) hx hb dX10_net_1 (by decide) ?_
  refine hk_puti hx hb hts hC_10 hown hW gy td_10 83 (by decide) rfl kw_1226 ⟨rfl, rfl, rfl⟩ rfl (x := (1 : Int32)) rfl (by decide) (by decide) dX10_net_2 (fun H locs h_1 eh_1 hW hs => ?_)
  have f_y_82 := (hs.o gy trivial rfl).2.trans f_y_82
  have f_y_36 := (hs.o gy trivial rfl).1.trans f_y_36
  have f_y_20 := (hs.o gy trivial rfl).1.trans f_y_20
  have hM := hM.tr (hs.mono (by decide))
  have gy := gy.S hs
  have gqd := gqd.S hs
  have f_2 : h_1.2.1 y 83 = (1 : Int32) := by rw [eh_1]; exact hx_pi_at _ _ _ _
  refine lv_aload_n hx hb dX10_net_5 rfl (lv_at hl 0 rfl) ?_
  refine lv_iconst (v := 0) hx hb dX10_net_6 (by decide) ?_
  refine hk_puti hx hb hts hC_10 hown hW gy td_10 84 (by decide) rfl kw_1227 ⟨rfl, rfl, rfl⟩ rfl (x := (0 : Int32)) rfl rfl rfl dX10_net_7 (fun H locs h_3 eh_3 hW hs => ?_)
  have f_y_82 := (hs.o gy trivial rfl).2.trans f_y_82
  have f_y_36 := (hs.o gy trivial rfl).1.trans f_y_36
  have f_y_20 := (hs.o gy trivial rfl).1.trans f_y_20
  have f_2 := (hs.o gy trivial rfl).1.trans f_2
  have hM := hM.tr (hs.mono (by decide))
  have gy := gy.S hs
  have gqd := gqd.S hs
  have f_4 : h_3.2.1 y 84 = (0 : Int32) := by rw [eh_3]; exact hx_pi_at _ _ _ _
  refine lv_iconst (v := 0) hx hb dX10_net_10 (by decide) ?_
  refine lv_istore_n (lv' := [(1, .int (0 : Int32)), (0, .ref y)]) hx hb dX10_net_11 rfl hl (by decide) rfl (fun ls hl => ?_)
  refine lv_iconst (v := 1) hx hb dX10_net_12 (by decide) ?_
  refine lv_istore_n (lv' := [(2, .int (1 : Int32)), (1, .int (0 : Int32)), (0, .ref y)]) hx hb dX10_net_13 rfl hl (by decide) rfl (fun ls hl => ?_)
  refine lv_iload_n hx hb dX10_net_14 rfl (lv_at hl 0 rfl) ?_
  refine hb_if_eq (zx := 1) (tgt := 198) hx hb (by decide) dX10_net_15 (by decide) (fun c_5 => absurd c_5 (by decide)) (fun c_5 => ?_)
  refine lv_aload_n hx hb dX10_net_18 rfl (lv_at hl 2 rfl) ?_
  refine hx_gov (hx_runV (As := []) (rest := []) ⟨hx, hb, hml, hown, hts⟩ hW gy td_10 (T := TX10) (N := 98) rfl (c_X10_debts l dC dI dA L h_3 H.size y gy qd gqd f_y_82 f_y_36) (cwV 0 hts (hx_gV kw_1694 kw_1691 kw_1693 kw_86 kw_103) rfl rfl rfl (by decide +kernel) ⟨Nat.le_of_ble_eq_true rfl, Nat.le_of_ble_eq_true rfl⟩) rfl hl.1 rfl (Nat.le_of_ble_eq_true rfl) dX10_net_19 ⟨Nat.le_of_ble_eq_true rfl, Nat.le_of_ble_eq_true rfl⟩) hW (fun L_6 h_7 H locs p_9 hW => ?_)
  have hs : hx_S P_tb [(108, 0)] L h_3 L_6 h_7 := p_9
  have f_y_82 := (hs.o gy trivial rfl).2.trans f_y_82
  have f_y_36 := (hs.o gy trivial rfl).1.trans f_y_36
  have f_y_20 := (hs.o gy trivial rfl).1.trans f_y_20
  have f_2 := (hs.o gy trivial rfl).1.trans f_2
  have f_4 := (hs.o gy trivial rfl).1.trans f_4
  have hM := hM.tr (hs.mono (by decide))
  have gy := gy.S hs
  have gqd := gqd.S hs
  refine lv_aload_n hx hb dX10_net_22 rfl (lv_at hl 2 rfl) ?_
  refine hx_gov (hx_runV (As := []) (rest := []) ⟨hx, hb, hml, hown, hts⟩ hW gy td_10 (T := TX10) (N := 98) rfl (c_X10_finds l dC dI dA L_6 h_7 H.size y gy f_y_20) (cwV 0 hts (hx_gV kw_1698 kw_1695 kw_1697 kw_87 kw_103) rfl rfl rfl (by decide +kernel) ⟨Nat.le_of_ble_eq_true rfl, Nat.le_of_ble_eq_true rfl⟩) rfl hl.1 rfl (Nat.le_of_ble_eq_true rfl) dX10_net_23 ⟨Nat.le_of_ble_eq_true rfl, Nat.le_of_ble_eq_true rfl⟩) hW (fun L_10 h_11 H locs p_13 hW => ?_)
  obtain ⟨hs, f_14⟩ := p_13
  have hs : hx_S P_tb [(10, 86), (10, 87)] L_6 h_7 L_10 h_11 := hs
  have f_14 : h_11.2.1 y 87 = _ := f_14
  have f_y_82 := (hs.o gy trivial rfl).2.trans f_y_82
  have f_y_36 := (hs.o gy trivial rfl).1.trans f_y_36
  have f_y_20 := (hs.o gy trivial rfl).1.trans f_y_20
  have f_2 := (hs.o gy trivial rfl).1.trans f_2
  have f_4 := (hs.o gy trivial rfl).1.trans f_4
  have hM := hM.tr (hs.mono (by decide))
  have gy := gy.S hs
  have gqd := gqd.S hs
  refine lv_iconst (v := 0) hx hb dX10_net_26 (by decide) ?_
  refine lv_istore_n (lv' := [(3, .int (0 : Int32)), (2, .int (1 : Int32)), (1, .int (0 : Int32)), (0, .ref y)]) hx hb dX10_net_27 rfl hl (by decide) rfl (fun ls hl => ?_)
  refine lv_iconst (v := 0) hx hb dX10_net_28 (by decide) ?_
  refine lv_istore (lv' := [(4, .int (0 : Int32)), (3, .int (0 : Int32)), (2, .int (1 : Int32)), (1, .int (0 : Int32)), (0, .ref y)]) hx hb dX10_net_29 hl (by decide) rfl (fun ls hl => ?_)
  refine lv_iload hx hb dX10_net_31 (lv_at hl 0 rfl) ?_
  refine lv_aload_n hx hb dX10_net_33 rfl (lv_at hl 4 rfl) ?_
  refine hk_geti hx hb hts hC_10 hown hW gy td_10 87 (by decide) rfl kw_1230 ⟨rfl, rfl, rfl⟩ f_14 dX10_net_34 ?_
  refine hb_icmp_ge (zx := 0) (zy := 0) (tgt := 79) hx hb (by decide) (by decide) dX10_net_37 (by decide) (fun c_15 => ?_) (fun c_15 => absurd c_15 (by decide))
  refine lv_aload_n hx hb dX10_net_79 rfl (lv_at hl 4 rfl) ?_
  refine hk_geti hx hb hts hC_10 hown hW gy td_10 87 (by decide) rfl kw_1230 ⟨rfl, rfl, rfl⟩ f_14 dX10_net_80 ?_
  refine hb_if_le (zx := 0) (tgt := 102) hx hb (by decide) dX10_net_83 (by decide) (fun c_16 => ?_) (fun c_16 => absurd c_16 (by decide))
  refine lv_iconst (v := 0) hx hb dX10_net_102 (by decide) ?_
  refine lv_istore_n (lv' := [(2, .int (0 : Int32)), (4, .int (0 : Int32)), (3, .int (0 : Int32)), (1, .int (0 : Int32)), (0, .ref y)]) hx hb dX10_net_103 rfl hl (by decide) rfl (fun ls hl => ?_)
  refine lv_iload_n hx hb dX10_net_104 rfl (lv_at hl 0 rfl) ?_
  refine hb_if_ne (zx := 0) (tgt := 111) hx hb (by decide) dX10_net_105 (by decide) (fun c_17 => absurd c_17 (by decide)) (fun c_17 => ?_)
  refine lv_goto (tgt := 198) hx hb dX10_net_108 (by decide) ?_
  refine lv_iload_n hx hb dX10_net_198 rfl (lv_at hl 3 rfl) ?_
  exact hx_reti hx hb hr hlk hW ⟨rfl, hM⟩ dX10_net_199
end
section
theorem dX9_inForce_0 : decode cX9_inForce 0 = .ok (.aload_n 0, 1) := by decide +kernel
theorem dX9_inForce_1 : decode cX9_inForce 1 = .ok (.getfield 25, 3) := by decide +kernel
theorem dX9_inForce_4 : decode cX9_inForce 4 = .ok (.astore_n 2, 1) := by decide +kernel
theorem dX9_inForce_5 : decode cX9_inForce 5 = .ok (.iconst 0, 1) := by decide +kernel
theorem dX9_inForce_6 : decode cX9_inForce 6 = .ok (.istore_n 3, 1) := by decide +kernel
theorem dX9_inForce_7 : decode cX9_inForce 7 = .ok (.iload_n 3, 1) := by decide +kernel
theorem dX9_inForce_8 : decode cX9_inForce 8 = .ok (.aload_n 0, 1) := by decide +kernel
theorem dX9_inForce_9 : decode cX9_inForce 9 = .ok (.getfield 105, 3) := by decide +kernel
theorem dX9_inForce_12 : decode cX9_inForce 12 = .ok (.if_icmp .ge 45, 3) := by decide +kernel
theorem dX9_inForce_57 : decode cX9_inForce 57 = .ok (.aload_n 2, 1) := by decide +kernel
theorem dX9_inForce_58 : decode cX9_inForce 58 = .ok (.areturn, 1) := by decide +kernel
set_option maxHeartbeats 4000000 in
set_option maxRecDepth 100000 in
theorem c_X9_inForce (l : Launch) (dC : Nat → ClassId) (dI : Nat → Nat → Nat) (dA : Nat → ClassId) (L : List Nat) (h : hx_h) (sz : Nat) (x : Nat) (d : Int32) (gx : hx_g L h x 9) (f_x_6 : h.2.1 x 6 = 0) (qa : Nat) (gqa : hx_g L h qa 0) (f_x_4 : h.2.2 x 4 = some qa) : Met l yX9_inForce (Cond.code yX9_inForce cX9_inForce 4 (some (.object "SmallCourt$Act")) :: hx_all) ({ frames := 0, cells := 0, slots := 0, locals := 0 }) (va_Pc [.ref x, .int d] (hx_B P_tb (P_ty dA) (dC, dI) vwCl L h sz)) (va_Qq (fun (r : Option Nat) (u : List Nat × hx_h) => (r = some qa) ∧ u = (L, h)) (hx_E P_tb (P_ty dA) (dC, dI) vwCl (hx_A L sz)) (hx_A L sz)) 0 0 (hx_A L sz) := by
  refine hx_met (lv := [(0, .ref x), (1, .int d)]) (by decide +kernel) rfl (Nat.le_of_ble_eq_true rfl) rfl ?_
  intro p e s m below meth c hx hb hml hr hlk hts0 hown hin hsz hW ls hl
  have hts : ∀ w ∈ hx_all, w.before _ s = true := fun w hw => hts0 w (List.mem_cons_of_mem _ hw)
  have hown : s.vm.findClass "SmallCourt" = some m.cls := hown
  refine lv_aload_n hx hb dX9_inForce_0 rfl (lv_at hl 0 rfl) ?_
  refine hk_getr hx hb hts hC_9 hown hW gx td_9 4 (by decide) rfl kw_368 ⟨rfl, rfl, rfl⟩ f_x_4 dX9_inForce_1 ?_
  refine lv_astore_n (lv' := [(2, .ref qa), (0, .ref x), (1, .int d)]) hx hb dX9_inForce_4 rfl hl (by decide) rfl (fun ls hl => ?_)
  refine lv_iconst (v := 0) hx hb dX9_inForce_5 (by decide) ?_
  refine lv_istore_n (lv' := [(3, .int (0 : Int32)), (2, .ref qa), (0, .ref x), (1, .int d)]) hx hb dX9_inForce_6 rfl hl (by decide) rfl (fun ls hl => ?_)
  refine lv_iload_n hx hb dX9_inForce_7 rfl (lv_at hl 0 rfl) ?_
  refine lv_aload_n hx hb dX9_inForce_8 rfl (lv_at hl 2 rfl) ?_
  refine hk_geti hx hb hts hC_9 hown hW gx td_9 6 (by decide) rfl kw_370 ⟨rfl, rfl, rfl⟩ f_x_6 dX9_inForce_9 ?_
  refine hb_icmp_ge (zx := 0) (zy := 0) (tgt := 57) hx hb (by decide) (by decide) dX9_inForce_12 (by decide) (fun c_1 => ?_) (fun c_1 => absurd c_1 (by decide))
  refine lv_aload_n hx hb dX9_inForce_57 rfl (lv_at hl 1 rfl) ?_
  exact hx_retq (v := (some qa)) hx hb hr (Or.inl ⟨_, rfl⟩) hlk hW ⟨rfl, rfl⟩ dX9_inForce_58

theorem dX9_force_0 : decode cX9_force 0 = .ok (.iload_n 1, 1) := by decide +kernel
theorem dX9_force_1 : decode cX9_force 1 = .ok (.invokestatic 90, 3) := by decide +kernel
theorem dX9_force_4 : decode cX9_force 4 = .ok (.ifCond .eq 13, 3) := by decide +kernel
theorem dX9_force_7 : decode cX9_force 7 = .ok (.iload_n 2, 1) := by decide +kernel
theorem dX9_force_8 : decode cX9_force 8 = .ok (.ifCond .lt 9, 3) := by decide +kernel
theorem dX9_force_11 : decode cX9_force 11 = .ok (.iload_n 2, 1) := by decide +kernel
theorem dX9_force_12 : decode cX9_force 12 = .ok (.bipush 14, 2) := by decide +kernel
theorem dX9_force_14 : decode cX9_force 14 = .ok (.if_icmp .lt 5, 3) := by decide +kernel
theorem dX9_force_17 : decode cX9_force 17 = .ok (.iconst (-1), 1) := by decide +kernel
theorem dX9_force_18 : decode cX9_force 18 = .ok (.ireturn, 1) := by decide +kernel
theorem dX9_force_19 : decode cX9_force 19 = .ok (.aload_n 0, 1) := by decide +kernel
theorem dX9_force_20 : decode cX9_force 20 = .ok (.iload_n 1, 1) := by decide +kernel
theorem dX9_force_21 : decode cX9_force 21 = .ok (.invokevirtual 115, 3) := by decide +kernel
theorem dX9_force_24 : decode cX9_force 24 = .ok (.astore_n 3, 1) := by decide +kernel
theorem dX9_force_25 : decode cX9_force 25 = .ok (.iload_n 2, 1) := by decide +kernel
theorem dX9_force_26 : decode cX9_force 26 = .ok (.ifCond .ne 10, 3) := by decide +kernel
theorem dX9_force_29 : decode cX9_force 29 = .ok (.aload_n 3, 1) := by decide +kernel
theorem dX9_force_30 : decode cX9_force 30 = .ok (.getfield 112, 3) := by decide +kernel
theorem dX9_force_33 : decode cX9_force 33 = .ok (.goto 9, 3) := by decide +kernel
theorem dX9_force_36 : decode cX9_force 36 = .ok (.aload_n 3, 1) := by decide +kernel
theorem dX9_force_37 : decode cX9_force 37 = .ok (.getfield 119, 3) := by decide +kernel
theorem dX9_force_40 : decode cX9_force 40 = .ok (.iload_n 2, 1) := by decide +kernel
theorem dX9_force_41 : decode cX9_force 41 = .ok (.iaload, 1) := by decide +kernel
theorem dX9_force_42 : decode cX9_force 42 = .ok (.ireturn, 1) := by decide +kernel
set_option maxHeartbeats 4000000 in
set_option maxRecDepth 100000 in
theorem c_X9_force (l : Launch) (dC : Nat → ClassId) (dI : Nat → Nat → Nat) (dA : Nat → ClassId) (L : List Nat) (h : hx_h) (sz : Nat) (x : Nat) (d : Int32) (i2 : Int32) (gx : hx_g L h x 9) (f_x_6 : h.2.1 x 6 = 0) (qa : Nat) (gqa : hx_g L h qa 0) (f_x_4 : h.2.2 x 4 = some qa) (f_qa_0 : h.2.1 qa 0 = -1) (qt : Nat) (gqt : hx_g L h qt 11) (f_qa_2 : h.2.2 qa 2 = some qt) (fa_qt : ∀ j, j < 14 → h.2.1 qt j = P_wo j) : Met l yX9_force (Cond.code yX9_force cX9_force 4 (some .int) :: hx_all) ({ frames := 2, cells := 0, slots := 0, locals := 42 }) (va_Pc [.ref x, .int d, .int i2] (hx_B P_tb (P_ty dA) (dC, dI) vwCl L h sz)) (va_Qi (fun (r : Int32) (u : List Nat × hx_h) => (((0 ≤ d.toInt ∧ d.toInt ≤ 7999) ∧ (0 ≤ i2.toInt ∧ i2.toInt ≤ 13)) ∧ r = P_fr i2 ∨ ¬ ((0 ≤ d.toInt ∧ d.toInt ≤ 7999) ∧ (0 ≤ i2.toInt ∧ i2.toInt ≤ 13)) ∧ r = -1) ∧ hx_S P_tb [] L h u.1 u.2) (hx_E P_tb (P_ty dA) (dC, dI) vwCl (hx_A L sz)) (hx_A L sz)) 0 0 (hx_A L sz) := by
  refine hx_met (lv := [(0, .ref x), (1, .int d), (2, .int i2)]) (by decide +kernel) rfl (Nat.le_of_ble_eq_true rfl) rfl ?_
  intro p e s m below meth c hx hb hml hr hlk hts0 hown hin hsz hW ls hl
  have hts : ∀ w ∈ hx_all, w.before _ s = true := fun w hw => hts0 w (List.mem_cons_of_mem _ hw)
  have hown : s.vm.findClass "SmallCourt" = some m.cls := hown
  have hM : hx_S P_tb [] L h L h := hx_S.rf
  refine lv_iload_n hx hb dX9_force_0 rfl (lv_at hl 1 rfl) ?_
  refine hx_goi (hx_runS (As := [.int d]) (rest := []) ⟨hx, hb, hml, hown, hts⟩ hW (c_X9_isDay l dC dI dA L h s.heap.size d) (va_cwS 1 hts (hx_gS kw_431 kw_429 kw_430 kw_94) rfl rfl rfl (by decide +kernel) ⟨Nat.le_of_ble_eq_true rfl, Nat.le_of_ble_eq_true rfl⟩) rfl hl.1 rfl (Nat.le_of_ble_eq_true rfl) dX9_force_1 ⟨Nat.le_of_ble_eq_true rfl, Nat.le_of_ble_eq_true rfl⟩) hW (fun r_3 L_1 h_2 H locs p_4 hW => ?_)
  obtain ⟨p_4, eu⟩ := p_4
  cases eu
  rcases p_4 with ⟨kp_4, rfl⟩ | ⟨kp_4, rfl⟩
  · skip
    refine hb_if_eq (zx := 1) (tgt := 17) hx hb (by decide) dX9_force_4 (by decide) (fun c_5 => absurd c_5 (by decide)) (fun c_5 => ?_)
    refine lv_iload_n hx hb dX9_force_7 rfl (lv_at hl 2 rfl) ?_
    refine hb_if_lt (zx := i2.toInt) (tgt := 17) hx hb rfl dX9_force_8 (by decide) (fun c_6 => ?_) (fun c_6 => ?_)
    · skip
      refine lv_iconst (v := -1) hx hb dX9_force_17 (by decide) ?_
      exact hx_reti hx hb hr hlk hW ⟨by first | exact Or.inr ⟨by omega, rfl⟩ | exact Or.inl ⟨by omega, by unfold P_fr; rw [if_pos (by omega)]⟩ | exact Or.inl ⟨by omega, by unfold P_fr; rw [if_neg (by omega)]; rfl⟩, hM⟩ dX9_force_18
    · skip
      refine lv_iload_n hx hb dX9_force_11 rfl (lv_at hl 2 rfl) ?_
      refine lv_bipush (v := 14) hx hb dX9_force_12 (by decide) ?_
      refine hb_icmp_lt (zx := i2.toInt) (zy := 14) (tgt := 19) hx hb rfl (by decide) dX9_force_14 (by decide) (fun c_7 => ?_) (fun c_7 => ?_)
      · skip
        refine lv_aload_n hx hb dX9_force_19 rfl (lv_at hl 0 rfl) ?_
        refine lv_iload_n hx hb dX9_force_20 rfl (lv_at hl 1 rfl) ?_
        refine hx_goq (hx_runV (As := [.int d]) (rest := []) ⟨hx, hb, hml, hown, hts⟩ hW gx td_9 (T := TX9) (N := 20) rfl (c_X9_inForce l dC dI dA L h H.size x d gx f_x_6 qa gqa f_x_4) (cwV 1 hts (hx_gV kw_597 kw_594 kw_596 kw_19 kw_94) rfl rfl rfl (by decide +kernel) ⟨Nat.le_of_ble_eq_true rfl, Nat.le_of_ble_eq_true rfl⟩) rfl hl.1 rfl (Nat.le_of_ble_eq_true rfl) dX9_force_21 ⟨Nat.le_of_ble_eq_true rfl, Nat.le_of_ble_eq_true rfl⟩) hW (fun r_10 L_8 h_9 H locs p_11 hW => ?_)
        obtain ⟨p_11, eu⟩ := p_11
        cases eu
        subst p_11
        refine lv_astore_n (lv' := [(3, .ref qa), (0, .ref x), (1, .int d), (2, .int i2)]) hx hb dX9_force_24 rfl hl (by decide) rfl (fun ls hl => ?_)
        refine lv_iload_n hx hb dX9_force_25 rfl (lv_at hl 3 rfl) ?_
        refine hb_if_ne (zx := i2.toInt) (tgt := 36) hx hb rfl dX9_force_26 (by decide) (fun c_12 => ?_) (fun c_12 => ?_)
        · skip
          refine lv_aload_n hx hb dX9_force_36 rfl (lv_at hl 0 rfl) ?_
          refine hk_getr hx hb hts hC_0 hown hW gqa td_0 2 (by decide) rfl kw_170 ⟨rfl, rfl, rfl⟩ f_qa_2 dX9_force_37 ?_
          refine lv_iload_n hx hb dX9_force_40 rfl (lv_at hl 3 rfl) ?_
          refine hk_iald hx hb hW gqt td_11 rfl ⟨by omega, by omega⟩ (fa_qt _ (hx_tn (by omega) (by omega))) dX9_force_41 ?_
          exact hx_reti hx hb hr hlk hW ⟨by first | exact Or.inr ⟨by omega, rfl⟩ | exact Or.inl ⟨by omega, by unfold P_fr; rw [if_pos (by omega)]⟩ | exact Or.inl ⟨by omega, by unfold P_fr; rw [if_neg (by omega)]; rfl⟩, hM⟩ dX9_force_42
        · skip
          refine lv_aload_n hx hb dX9_force_29 rfl (lv_at hl 0 rfl) ?_
          refine hk_geti hx hb hts hC_0 hown hW gqa td_0 0 (by decide) rfl kw_163 ⟨rfl, rfl, rfl⟩ f_qa_0 dX9_force_30 ?_
          refine lv_goto (tgt := 42) hx hb dX9_force_33 (by decide) ?_
          exact hx_reti hx hb hr hlk hW ⟨by first | exact Or.inr ⟨by omega, rfl⟩ | exact Or.inl ⟨by omega, by unfold P_fr; rw [if_pos (by omega)]⟩ | exact Or.inl ⟨by omega, by unfold P_fr; rw [if_neg (by omega)]; rfl⟩, hM⟩ dX9_force_42
      · skip
        refine lv_iconst (v := -1) hx hb dX9_force_17 (by decide) ?_
        exact hx_reti hx hb hr hlk hW ⟨by first | exact Or.inr ⟨by omega, rfl⟩ | exact Or.inl ⟨by omega, by unfold P_fr; rw [if_pos (by omega)]⟩ | exact Or.inl ⟨by omega, by unfold P_fr; rw [if_neg (by omega)]; rfl⟩, hM⟩ dX9_force_18
  · skip
    refine hb_if_eq (zx := 0) (tgt := 17) hx hb (by decide) dX9_force_4 (by decide) (fun c_13 => ?_) (fun c_13 => absurd c_13 (by decide))
    refine lv_iconst (v := -1) hx hb dX9_force_17 (by decide) ?_
    exact hx_reti hx hb hr hlk hW ⟨by first | exact Or.inr ⟨by omega, rfl⟩ | exact Or.inl ⟨by omega, by unfold P_fr; rw [if_pos (by omega)]⟩ | exact Or.inl ⟨by omega, by unfold P_fr; rw [if_neg (by omega)]; rfl⟩, hM⟩ dX9_force_18

theorem dX10_inForce_0 : decode cX10_inForce 0 = .ok (.iconst 0, 1) := by decide +kernel
theorem dX10_inForce_1 : decode cX10_inForce 1 = .ok (.istore_n 2, 1) := by decide +kernel
theorem dX10_inForce_2 : decode cX10_inForce 2 = .ok (.iconst 1, 1) := by decide +kernel
theorem dX10_inForce_3 : decode cX10_inForce 3 = .ok (.istore_n 3, 1) := by decide +kernel
theorem dX10_inForce_4 : decode cX10_inForce 4 = .ok (.iload_n 3, 1) := by decide +kernel
theorem dX10_inForce_5 : decode cX10_inForce 5 = .ok (.aload_n 0, 1) := by decide +kernel
theorem dX10_inForce_6 : decode cX10_inForce 6 = .ok (.getfield 321, 3) := by decide +kernel
theorem dX10_inForce_9 : decode cX10_inForce 9 = .ok (.if_icmp .gt 40, 3) := by decide +kernel
theorem dX10_inForce_49 : decode cX10_inForce 49 = .ok (.iload_n 2, 1) := by decide +kernel
theorem dX10_inForce_50 : decode cX10_inForce 50 = .ok (.ireturn, 1) := by decide +kernel
set_option maxHeartbeats 4000000 in
set_option maxRecDepth 100000 in
theorem c_X10_inForce (l : Launch) (dC : Nat → ClassId) (dI : Nat → Nat → Nat) (dA : Nat → ClassId) (L : List Nat) (h : hx_h) (sz : Nat) (y : Nat) (d : Int32) (gy : hx_g L h y 10) (f_y_1 : h.2.1 y 1 = 0) : Met l yX10_inForce (Cond.code yX10_inForce cX10_inForce 4 (some .int) :: hx_all) ({ frames := 0, cells := 0, slots := 0, locals := 0 }) (va_Pc [.ref y, .int d] (hx_B P_tb (P_ty dA) (dC, dI) vwCl L h sz)) (va_Qi (fun (r : Int32) (u : List Nat × hx_h) => r = 0 ∧ u = (L, h)) (hx_E P_tb (P_ty dA) (dC, dI) vwCl (hx_A L sz)) (hx_A L sz)) 0 0 (hx_A L sz) := by
  refine hx_met (lv := [(0, .ref y), (1, .int d)]) (by decide +kernel) rfl (Nat.le_of_ble_eq_true rfl) rfl ?_
  intro p e s m below meth c hx hb hml hr hlk hts0 hown hin hsz hW ls hl
  have hts : ∀ w ∈ hx_all, w.before _ s = true := fun w hw => hts0 w (List.mem_cons_of_mem _ hw)
  have hown : s.vm.findClass "SmallCourtModel" = some m.cls := hown
  refine lv_iconst (v := 0) hx hb dX10_inForce_0 (by decide) ?_
  refine lv_istore_n (lv' := [(2, .int (0 : Int32)), (0, .ref y), (1, .int d)]) hx hb dX10_inForce_1 rfl hl (by decide) rfl (fun ls hl => ?_)
  refine lv_iconst (v := 1) hx hb dX10_inForce_2 (by decide) ?_
  refine lv_istore_n (lv' := [(3, .int (1 : Int32)), (2, .int (0 : Int32)), (0, .ref y), (1, .int d)]) hx hb dX10_inForce_3 rfl hl (by decide) rfl (fun ls hl => ?_)
  refine lv_iload_n hx hb dX10_inForce_4 rfl (lv_at hl 0 rfl) ?_
  refine lv_aload_n hx hb dX10_inForce_5 rfl (lv_at hl 2 rfl) ?_
  refine hk_geti hx hb hts hC_10 hown hW gy td_10 1 (by decide) rfl kw_1144 ⟨rfl, rfl, rfl⟩ f_y_1 dX10_inForce_6 ?_
  refine hb_icmp_gt (zx := 1) (zy := 0) (tgt := 49) hx hb (by decide) (by decide) dX10_inForce_9 (by decide) (fun c_1 => ?_) (fun c_1 => absurd c_1 (by decide))
  refine lv_iload_n hx hb dX10_inForce_49 rfl (lv_at hl 1 rfl) ?_
  exact hx_reti hx hb hr hlk hW ⟨rfl, rfl⟩ dX10_inForce_50

theorem dX10_ruleOf_0 : decode cX10_ruleOf 0 = .ok (.aload_n 0, 1) := by decide +kernel
theorem dX10_ruleOf_1 : decode cX10_ruleOf 1 = .ok (.getfield 13, 3) := by decide +kernel
theorem dX10_ruleOf_4 : decode cX10_ruleOf 4 = .ok (.bipush 13, 2) := by decide +kernel
theorem dX10_ruleOf_6 : decode cX10_ruleOf 6 = .ok (.iload_n 1, 1) := by decide +kernel
theorem dX10_ruleOf_7 : decode cX10_ruleOf 7 = .ok (.imul, 1) := by decide +kernel
theorem dX10_ruleOf_8 : decode cX10_ruleOf 8 = .ok (.iload_n 2, 1) := by decide +kernel
theorem dX10_ruleOf_9 : decode cX10_ruleOf 9 = .ok (.iadd, 1) := by decide +kernel
theorem dX10_ruleOf_10 : decode cX10_ruleOf 10 = .ok (.iaload, 1) := by decide +kernel
theorem dX10_ruleOf_11 : decode cX10_ruleOf 11 = .ok (.ireturn, 1) := by decide +kernel
set_option maxHeartbeats 4000000 in
set_option maxRecDepth 100000 in
theorem c_X10_ruleOf (l : Launch) (dC : Nat → ClassId) (dI : Nat → Nat → Nat) (dA : Nat → ClassId) (L : List Nat) (h : hx_h) (sz : Nat) (y : Nat) (i2 : Int32) (gy : hx_g L h y 10) (hi : 0 ≤ i2.toInt ∧ i2.toInt ≤ 12) (qr : Nat) (gqr : hx_g L h qr 50) (f_y_3 : h.2.2 y 3 = some qr) (fa_qr : ∀ j, j < 13 → h.2.1 qr j = P_w1 j) : Met l yX10_ruleOf (Cond.code yX10_ruleOf cX10_ruleOf 3 (some .int) :: hx_all) ({ frames := 0, cells := 0, slots := 0, locals := 0 }) (va_Pc [.ref y, .int (0 : Int32), .int i2] (hx_B P_tb (P_ty dA) (dC, dI) vwCl L h sz)) (va_Qi (fun (r : Int32) (u : List Nat × hx_h) => (r = P_wo (i2.toInt.toNat + 1)) ∧ u = (L, h)) (hx_E P_tb (P_ty dA) (dC, dI) vwCl (hx_A L sz)) (hx_A L sz)) 0 0 (hx_A L sz) := by
  refine hx_met (lv := [(0, .ref y), (1, .int (0 : Int32)), (2, .int i2)]) (by decide +kernel) rfl (Nat.le_of_ble_eq_true rfl) rfl ?_
  intro p e s m below meth c hx hb hml hr hlk hts0 hown hin hsz hW ls hl
  have hts : ∀ w ∈ hx_all, w.before _ s = true := fun w hw => hts0 w (List.mem_cons_of_mem _ hw)
  have hown : s.vm.findClass "SmallCourtModel" = some m.cls := hown
  refine lv_aload_n hx hb dX10_ruleOf_0 rfl (lv_at hl 0 rfl) ?_
  refine hk_getr hx hb hts hC_10 hown hW gy td_10 3 (by decide) rfl kw_1146 ⟨rfl, rfl, rfl⟩ f_y_3 dX10_ruleOf_1 ?_
  refine lv_bipush (v := 13) hx hb dX10_ruleOf_4 (by decide) ?_
  refine lv_iload_n hx hb dX10_ruleOf_6 rfl (lv_at hl 1 rfl) ?_
  refine lv_imul hx hb dX10_ruleOf_7 ?_
  refine lv_topi (fun x_1 ex_1 => ?_)
  obtain rfl : x_1 = (0 : Int32) := ex_1.trans (by decide)
  refine lv_iload_n hx hb dX10_ruleOf_8 rfl (lv_at hl 2 rfl) ?_
  refine lv_iadd hx hb dX10_ruleOf_9 ?_
  refine lv_topi (fun x_2 ex_2 => ?_)
  have zx_2 : x_2.toInt = 0 + i2.toInt := by rw [ex_2]; exact i32_add (by decide) rfl (by omega) (by omega)
  refine hk_iald hx hb hW gqr td_50 rfl ⟨by omega, by omega⟩ (fa_qr _ (hx_tn (by omega) (by omega))) dX10_ruleOf_10 ?_
  exact hx_reti hx hb hr hlk hW ⟨by show P_wo _ = P_wo _; congr 1; unfold Int32.toNatClampNeg; omega, rfl⟩ dX10_ruleOf_11

theorem dX10_force_0 : decode cX10_force 0 = .ok (.iload_n 1, 1) := by decide +kernel
theorem dX10_force_1 : decode cX10_force 1 = .ok (.invokestatic 324, 3) := by decide +kernel
theorem dX10_force_4 : decode cX10_force 4 = .ok (.ifCond .eq 13, 3) := by decide +kernel
theorem dX10_force_7 : decode cX10_force 7 = .ok (.iload_n 2, 1) := by decide +kernel
theorem dX10_force_8 : decode cX10_force 8 = .ok (.iconst 0, 1) := by decide +kernel
theorem dX10_force_9 : decode cX10_force 9 = .ok (.bipush 13, 2) := by decide +kernel
theorem dX10_force_11 : decode cX10_force 11 = .ok (.invokestatic 228, 3) := by decide +kernel
theorem dX10_force_14 : decode cX10_force 14 = .ok (.ifCond .ne 5, 3) := by decide +kernel
theorem dX10_force_17 : decode cX10_force 17 = .ok (.iconst (-1), 1) := by decide +kernel
theorem dX10_force_18 : decode cX10_force 18 = .ok (.ireturn, 1) := by decide +kernel
theorem dX10_force_19 : decode cX10_force 19 = .ok (.aload_n 0, 1) := by decide +kernel
theorem dX10_force_20 : decode cX10_force 20 = .ok (.iload_n 1, 1) := by decide +kernel
theorem dX10_force_21 : decode cX10_force 21 = .ok (.invokevirtual 330, 3) := by decide +kernel
theorem dX10_force_24 : decode cX10_force 24 = .ok (.istore_n 3, 1) := by decide +kernel
theorem dX10_force_25 : decode cX10_force 25 = .ok (.iload_n 2, 1) := by decide +kernel
theorem dX10_force_26 : decode cX10_force 26 = .ok (.ifCond .ne 9, 3) := by decide +kernel
theorem dX10_force_29 : decode cX10_force 29 = .ok (.iload_n 3, 1) := by decide +kernel
theorem dX10_force_30 : decode cX10_force 30 = .ok (.iconst 1, 1) := by decide +kernel
theorem dX10_force_31 : decode cX10_force 31 = .ok (.isub, 1) := by decide +kernel
theorem dX10_force_32 : decode cX10_force 32 = .ok (.goto 11, 3) := by decide +kernel
theorem dX10_force_35 : decode cX10_force 35 = .ok (.aload_n 0, 1) := by decide +kernel
theorem dX10_force_36 : decode cX10_force 36 = .ok (.iload_n 3, 1) := by decide +kernel
theorem dX10_force_37 : decode cX10_force 37 = .ok (.iload_n 2, 1) := by decide +kernel
theorem dX10_force_38 : decode cX10_force 38 = .ok (.iconst 1, 1) := by decide +kernel
theorem dX10_force_39 : decode cX10_force 39 = .ok (.isub, 1) := by decide +kernel
theorem dX10_force_40 : decode cX10_force 40 = .ok (.invokevirtual 333, 3) := by decide +kernel
theorem dX10_force_43 : decode cX10_force 43 = .ok (.ireturn, 1) := by decide +kernel
set_option maxHeartbeats 4000000 in
set_option maxRecDepth 100000 in
theorem c_X10_force (l : Launch) (dC : Nat → ClassId) (dI : Nat → Nat → Nat) (dA : Nat → ClassId) (L : List Nat) (h : hx_h) (sz : Nat) (y : Nat) (d : Int32) (i2 : Int32) (gy : hx_g L h y 10) (f_y_1 : h.2.1 y 1 = 0) (qr : Nat) (gqr : hx_g L h qr 50) (f_y_3 : h.2.2 y 3 = some qr) (fa_qr : ∀ j, j < 13 → h.2.1 qr j = P_w1 j) : Met l yX10_force (Cond.code yX10_force cX10_force 4 (some .int) :: hx_all) ({ frames := 2, cells := 0, slots := 0, locals := 42 }) (va_Pc [.ref y, .int d, .int i2] (hx_B P_tb (P_ty dA) (dC, dI) vwCl L h sz)) (va_Qi (fun (r : Int32) (u : List Nat × hx_h) => (((0 ≤ d.toInt ∧ d.toInt ≤ 7999) ∧ (0 ≤ i2.toInt ∧ i2.toInt ≤ 13)) ∧ r = P_fr i2 ∨ ¬ ((0 ≤ d.toInt ∧ d.toInt ≤ 7999) ∧ (0 ≤ i2.toInt ∧ i2.toInt ≤ 13)) ∧ r = -1) ∧ hx_S P_tb [] L h u.1 u.2) (hx_E P_tb (P_ty dA) (dC, dI) vwCl (hx_A L sz)) (hx_A L sz)) 0 0 (hx_A L sz) := by
  refine hx_met (lv := [(0, .ref y), (1, .int d), (2, .int i2)]) (by decide +kernel) rfl (Nat.le_of_ble_eq_true rfl) rfl ?_
  intro p e s m below meth c hx hb hml hr hlk hts0 hown hin hsz hW ls hl
  have hts : ∀ w ∈ hx_all, w.before _ s = true := fun w hw => hts0 w (List.mem_cons_of_mem _ hw)
  have hown : s.vm.findClass "SmallCourtModel" = some m.cls := hown
  have hM : hx_S P_tb [] L h L h := hx_S.rf
  refine lv_iload_n hx hb dX10_force_0 rfl (lv_at hl 1 rfl) ?_
  refine hx_goi (hx_runS (As := [.int d]) (rest := []) ⟨hx, hb, hml, hown, hts⟩ hW (c_X10_isDay l dC dI dA L h s.heap.size d) (va_cwS 1 hts (hx_gS kw_1464 kw_1462 kw_1463 kw_103) rfl rfl rfl (by decide +kernel) ⟨Nat.le_of_ble_eq_true rfl, Nat.le_of_ble_eq_true rfl⟩) rfl hl.1 rfl (Nat.le_of_ble_eq_true rfl) dX10_force_1 ⟨Nat.le_of_ble_eq_true rfl, Nat.le_of_ble_eq_true rfl⟩) hW (fun r_3 L_1 h_2 H locs p_4 hW => ?_)
  obtain ⟨p_4, eu⟩ := p_4
  cases eu
  rcases p_4 with ⟨kp_4, rfl⟩ | ⟨kp_4, rfl⟩
  · skip
    refine hb_if_eq (zx := 1) (tgt := 17) hx hb (by decide) dX10_force_4 (by decide) (fun c_5 => absurd c_5 (by decide)) (fun c_5 => ?_)
    refine lv_iload_n hx hb dX10_force_7 rfl (lv_at hl 2 rfl) ?_
    refine lv_iconst (v := 0) hx hb dX10_force_8 (by decide) ?_
    refine lv_bipush (v := 13) hx hb dX10_force_9 (by decide) ?_
    refine hx_goi (hx_runS (As := [.int i2, .int (0 : Int32), .int (13 : Int32)]) (rest := []) ⟨hx, hb, hml, hown, hts⟩ hW (c_X10_in l dC dI dA L h H.size i2 (0 : Int32) (13 : Int32)) (va_cwS 3 hts (hx_gS kw_1445 kw_1443 kw_1444 kw_103) rfl rfl rfl (by decide +kernel) ⟨Nat.le_of_ble_eq_true rfl, Nat.le_of_ble_eq_true rfl⟩) rfl hl.1 rfl (Nat.le_of_ble_eq_true rfl) dX10_force_11 ⟨Nat.le_of_ble_eq_true rfl, Nat.le_of_ble_eq_true rfl⟩) hW (fun r_8 L_6 h_7 H locs p_9 hW => ?_)
    obtain ⟨p_9, eu⟩ := p_9
    cases eu
    rcases p_9 with ⟨kp_9, rfl⟩ | ⟨kp_9, rfl⟩
    · skip
      have zc1 : (0 : Int32).toInt = 0 := by decide
      have zc2 : (13 : Int32).toInt = 13 := by decide
      refine hb_if_ne (zx := 1) (tgt := 19) hx hb (by decide) dX10_force_14 (by decide) (fun c_10 => ?_) (fun c_10 => absurd c_10 (by decide))
      refine lv_aload_n hx hb dX10_force_19 rfl (lv_at hl 0 rfl) ?_
      refine lv_iload_n hx hb dX10_force_20 rfl (lv_at hl 1 rfl) ?_
      refine hx_goi (hx_runV (As := [.int d]) (rest := []) ⟨hx, hb, hml, hown, hts⟩ hW gy td_10 (T := TX10) (N := 98) rfl (c_X10_inForce l dC dI dA L h H.size y d gy f_y_1) (cwV 1 hts (hx_gV kw_1529 kw_1526 kw_1528 kw_65 kw_103) rfl rfl rfl (by decide +kernel) ⟨Nat.le_of_ble_eq_true rfl, Nat.le_of_ble_eq_true rfl⟩) rfl hl.1 rfl (Nat.le_of_ble_eq_true rfl) dX10_force_21 ⟨Nat.le_of_ble_eq_true rfl, Nat.le_of_ble_eq_true rfl⟩) hW (fun r_13 L_11 h_12 H locs p_14 hW => ?_)
      obtain ⟨rfl, eu⟩ := p_14
      cases eu
      refine lv_istore_n (lv' := [(3, .int (0 : Int32)), (0, .ref y), (1, .int d), (2, .int i2)]) hx hb dX10_force_24 rfl hl (by decide) rfl (fun ls hl => ?_)
      refine lv_iload_n hx hb dX10_force_25 rfl (lv_at hl 3 rfl) ?_
      refine hb_if_ne (zx := i2.toInt) (tgt := 35) hx hb rfl dX10_force_26 (by decide) (fun c_15 => ?_) (fun c_15 => ?_)
      · skip
        refine lv_aload_n hx hb dX10_force_35 rfl (lv_at hl 1 rfl) ?_
        refine lv_iload_n hx hb dX10_force_36 rfl (lv_at hl 0 rfl) ?_
        refine lv_iload_n hx hb dX10_force_37 rfl (lv_at hl 3 rfl) ?_
        refine lv_iconst (v := 1) hx hb dX10_force_38 (by decide) ?_
        refine lv_isub hx hb dX10_force_39 ?_
        refine lv_topi (fun x_16 ex_16 => ?_)
        have zx_16 : x_16.toInt = i2.toInt - 1 := by rw [ex_16]; exact i32_sub rfl (by decide) (by omega) (by omega)
        refine hx_goi (hx_runV (As := [.int (0 : Int32), .int x_16]) (rest := []) ⟨hx, hb, hml, hown, hts⟩ hW gy td_10 (T := TX10) (N := 98) rfl (c_X10_ruleOf l dC dI dA L h H.size y x_16 gy ⟨by omega, by omega⟩ qr gqr f_y_3 fa_qr) (cwV 2 hts (hx_gV kw_1533 kw_1530 kw_1532 kw_66 kw_103) rfl rfl rfl (by decide +kernel) ⟨Nat.le_of_ble_eq_true rfl, Nat.le_of_ble_eq_true rfl⟩) rfl hl.1 rfl (Nat.le_of_ble_eq_true rfl) dX10_force_40 ⟨Nat.le_of_ble_eq_true rfl, Nat.le_of_ble_eq_true rfl⟩) hW (fun r_19 L_17 h_18 H locs p_20 hW => ?_)
        obtain ⟨p_20, eu⟩ := p_20
        cases eu
        exact hx_reti hx hb hr hlk hW ⟨by first | exact Or.inr ⟨by omega, rfl⟩ | exact Or.inl ⟨by omega, by unfold P_fr; rw [if_pos (by omega)]⟩ | exact Or.inl ⟨by omega, by unfold P_fr; rw [if_neg (by omega)]; refine Eq.trans (by assumption) (congrArg P_wo (by omega))⟩, hM⟩ dX10_force_43
      · skip
        refine lv_iload_n hx hb dX10_force_29 rfl (lv_at hl 0 rfl) ?_
        refine lv_iconst (v := 1) hx hb dX10_force_30 (by decide) ?_
        refine lv_isub hx hb dX10_force_31 ?_
        refine lv_topi (fun x_21 ex_21 => ?_)
        obtain rfl : x_21 = (-1 : Int32) := ex_21.trans (by decide)
        refine lv_goto (tgt := 43) hx hb dX10_force_32 (by decide) ?_
        exact hx_reti hx hb hr hlk hW ⟨by first | exact Or.inr ⟨by omega, rfl⟩ | exact Or.inl ⟨by omega, by unfold P_fr; rw [if_pos (by omega)]⟩ | exact Or.inl ⟨by omega, by unfold P_fr; rw [if_neg (by omega)]; refine Eq.trans (by assumption) (congrArg P_wo (by omega))⟩, hM⟩ dX10_force_43
    · skip
      have zc1 : (0 : Int32).toInt = 0 := by decide
      have zc2 : (13 : Int32).toInt = 13 := by decide
      refine hb_if_ne (zx := 0) (tgt := 19) hx hb (by decide) dX10_force_14 (by decide) (fun c_22 => absurd c_22 (by decide)) (fun c_22 => ?_)
      refine lv_iconst (v := -1) hx hb dX10_force_17 (by decide) ?_
      exact hx_reti hx hb hr hlk hW ⟨by first | exact Or.inr ⟨by omega, rfl⟩ | exact Or.inl ⟨by omega, by unfold P_fr; rw [if_pos (by omega)]⟩ | exact Or.inl ⟨by omega, by unfold P_fr; rw [if_neg (by omega)]; refine Eq.trans (by assumption) (congrArg P_wo (by omega))⟩, hM⟩ dX10_force_18
  · skip
    refine hb_if_eq (zx := 0) (tgt := 17) hx hb (by decide) dX10_force_4 (by decide) (fun c_23 => ?_) (fun c_23 => absurd c_23 (by decide))
    refine lv_iconst (v := -1) hx hb dX10_force_17 (by decide) ?_
    exact hx_reti hx hb hr hlk hW ⟨by first | exact Or.inr ⟨by omega, rfl⟩ | exact Or.inl ⟨by omega, by unfold P_fr; rw [if_pos (by omega)]⟩ | exact Or.inl ⟨by omega, by unfold P_fr; rw [if_neg (by omega)]; refine Eq.trans (by assumption) (congrArg P_wo (by omega))⟩, hM⟩ dX10_force_18
end
section
theorem dX0_term_0 : decode cX0_term 0 = .ok (.iload_n 0, 1) := by decide +kernel
theorem dX0_term_1 : decode cX0_term 1 = .ok (.iload_n 1, 1) := by decide +kernel
theorem dX0_term_2 : decode cX0_term 2 = .ok (.iconst 3, 1) := by decide +kernel
theorem dX0_term_3 : decode cX0_term 3 = .ok (.ishl, 1) := by decide +kernel
theorem dX0_term_4 : decode cX0_term 4 = .ok (.ior, 1) := by decide +kernel
theorem dX0_term_5 : decode cX0_term 5 = .ok (.iload_n 2, 1) := by decide +kernel
theorem dX0_term_6 : decode cX0_term 6 = .ok (.ifCond .eq 7, 3) := by decide +kernel
theorem dX0_term_13 : decode cX0_term 13 = .ok (.iconst 0, 1) := by decide +kernel
theorem dX0_term_14 : decode cX0_term 14 = .ok (.bipush 6, 2) := by decide +kernel
theorem dX0_term_16 : decode cX0_term 16 = .ok (.ishl, 1) := by decide +kernel
theorem dX0_term_17 : decode cX0_term 17 = .ok (.ior, 1) := by decide +kernel
theorem dX0_term_18 : decode cX0_term 18 = .ok (.iload_n 3, 1) := by decide +kernel
theorem dX0_term_19 : decode cX0_term 19 = .ok (.bipush 7, 2) := by decide +kernel
theorem dX0_term_21 : decode cX0_term 21 = .ok (.ishl, 1) := by decide +kernel
theorem dX0_term_22 : decode cX0_term 22 = .ok (.ior, 1) := by decide +kernel
theorem dX0_term_23 : decode cX0_term 23 = .ok (.ireturn, 1) := by decide +kernel
set_option maxHeartbeats 4000000 in
set_option maxRecDepth 100000 in
theorem c_X0_term_144 (l : Launch) (dC : Nat → ClassId) (dI : Nat → Nat → Nat) (dA : Nat → ClassId) (L : List Nat) (h : hx_h) (sz : Nat)    : Met l yX0_term (Cond.code yX0_term cX0_term 4 (some .int) :: hx_all) ({ frames := 0, cells := 0, slots := 0, locals := 0 }) (va_Pc [.int (0 : Int32), .int (2 : Int32), .int (0 : Int32), .int (1 : Int32)] (hx_B P_tb (P_ty dA) (dC, dI) vwCl L h sz)) (va_Qi (fun (r : Int32) (u : List Nat × hx_h) => r = 144 ∧ u = (L, h)) (hx_E P_tb (P_ty dA) (dC, dI) vwCl (hx_A L sz)) (hx_A L sz)) 0 0 (hx_A L sz) := by
  refine hx_met (lv := [(0, .int (0 : Int32)), (1, .int (2 : Int32)), (2, .int (0 : Int32)), (3, .int (1 : Int32))]) (by decide +kernel) rfl (Nat.le_of_ble_eq_true rfl) rfl ?_
  intro p e s m below meth c hx hb hml hr hlk hts0 hown hin hsz hW ls hl
  have hts : ∀ w ∈ hx_all, w.before _ s = true := fun w hw => hts0 w (List.mem_cons_of_mem _ hw)
  have hown : s.vm.findClass "SmallCourt$Act" = some m.cls := hown
  refine lv_iload_n hx hb dX0_term_0 rfl (lv_at hl 0 rfl) ?_
  refine lv_iload_n hx hb dX0_term_1 rfl (lv_at hl 1 rfl) ?_
  refine lv_iconst (v := 3) hx hb dX0_term_2 (by decide) ?_
  refine lv_ishl hx hb dX0_term_3 ?_
  refine lv_topi (fun x_1 ex_1 => ?_)
  obtain rfl : x_1 = (16 : Int32) := ex_1.trans (by decide)
  refine lv_ior hx hb dX0_term_4 ?_
  refine lv_topi (fun x_2 ex_2 => ?_)
  obtain rfl : x_2 = (16 : Int32) := ex_2.trans (by decide)
  refine lv_iload_n hx hb dX0_term_5 rfl (lv_at hl 2 rfl) ?_
  refine hb_if_eq (zx := 0) (tgt := 13) hx hb (by decide) dX0_term_6 (by decide) (fun c_3 => ?_) (fun c_3 => absurd c_3 (by decide))
  refine lv_iconst (v := 0) hx hb dX0_term_13 (by decide) ?_
  refine lv_bipush (v := 6) hx hb dX0_term_14 (by decide) ?_
  refine lv_ishl hx hb dX0_term_16 ?_
  refine lv_topi (fun x_4 ex_4 => ?_)
  obtain rfl : x_4 = (0 : Int32) := ex_4.trans (by decide)
  refine lv_ior hx hb dX0_term_17 ?_
  refine lv_topi (fun x_5 ex_5 => ?_)
  obtain rfl : x_5 = (16 : Int32) := ex_5.trans (by decide)
  refine lv_iload_n hx hb dX0_term_18 rfl (lv_at hl 3 rfl) ?_
  refine lv_bipush (v := 7) hx hb dX0_term_19 (by decide) ?_
  refine lv_ishl hx hb dX0_term_21 ?_
  refine lv_topi (fun x_6 ex_6 => ?_)
  obtain rfl : x_6 = (128 : Int32) := ex_6.trans (by decide)
  refine lv_ior hx hb dX0_term_22 ?_
  refine lv_topi (fun x_7 ex_7 => ?_)
  obtain rfl : x_7 = (144 : Int32) := ex_7.trans (by decide)
  exact hx_reti hx hb hr hlk hW ⟨rfl, rfl⟩ dX0_term_23


set_option maxHeartbeats 4000000 in
set_option maxRecDepth 100000 in
theorem c_X0_term_17 (l : Launch) (dC : Nat → ClassId) (dI : Nat → Nat → Nat) (dA : Nat → ClassId) (L : List Nat) (h : hx_h) (sz : Nat)    : Met l yX0_term (Cond.code yX0_term cX0_term 4 (some .int) :: hx_all) ({ frames := 0, cells := 0, slots := 0, locals := 0 }) (va_Pc [.int (1 : Int32), .int (2 : Int32), .int (0 : Int32), .int (0 : Int32)] (hx_B P_tb (P_ty dA) (dC, dI) vwCl L h sz)) (va_Qi (fun (r : Int32) (u : List Nat × hx_h) => r = 17 ∧ u = (L, h)) (hx_E P_tb (P_ty dA) (dC, dI) vwCl (hx_A L sz)) (hx_A L sz)) 0 0 (hx_A L sz) := by
  refine hx_met (lv := [(0, .int (1 : Int32)), (1, .int (2 : Int32)), (2, .int (0 : Int32)), (3, .int (0 : Int32))]) (by decide +kernel) rfl (Nat.le_of_ble_eq_true rfl) rfl ?_
  intro p e s m below meth c hx hb hml hr hlk hts0 hown hin hsz hW ls hl
  have hts : ∀ w ∈ hx_all, w.before _ s = true := fun w hw => hts0 w (List.mem_cons_of_mem _ hw)
  have hown : s.vm.findClass "SmallCourt$Act" = some m.cls := hown
  refine lv_iload_n hx hb dX0_term_0 rfl (lv_at hl 0 rfl) ?_
  refine lv_iload_n hx hb dX0_term_1 rfl (lv_at hl 1 rfl) ?_
  refine lv_iconst (v := 3) hx hb dX0_term_2 (by decide) ?_
  refine lv_ishl hx hb dX0_term_3 ?_
  refine lv_topi (fun x_1 ex_1 => ?_)
  obtain rfl : x_1 = (16 : Int32) := ex_1.trans (by decide)
  refine lv_ior hx hb dX0_term_4 ?_
  refine lv_topi (fun x_2 ex_2 => ?_)
  obtain rfl : x_2 = (17 : Int32) := ex_2.trans (by decide)
  refine lv_iload_n hx hb dX0_term_5 rfl (lv_at hl 2 rfl) ?_
  refine hb_if_eq (zx := 0) (tgt := 13) hx hb (by decide) dX0_term_6 (by decide) (fun c_3 => ?_) (fun c_3 => absurd c_3 (by decide))
  refine lv_iconst (v := 0) hx hb dX0_term_13 (by decide) ?_
  refine lv_bipush (v := 6) hx hb dX0_term_14 (by decide) ?_
  refine lv_ishl hx hb dX0_term_16 ?_
  refine lv_topi (fun x_4 ex_4 => ?_)
  obtain rfl : x_4 = (0 : Int32) := ex_4.trans (by decide)
  refine lv_ior hx hb dX0_term_17 ?_
  refine lv_topi (fun x_5 ex_5 => ?_)
  obtain rfl : x_5 = (17 : Int32) := ex_5.trans (by decide)
  refine lv_iload_n hx hb dX0_term_18 rfl (lv_at hl 3 rfl) ?_
  refine lv_bipush (v := 7) hx hb dX0_term_19 (by decide) ?_
  refine lv_ishl hx hb dX0_term_21 ?_
  refine lv_topi (fun x_6 ex_6 => ?_)
  obtain rfl : x_6 = (0 : Int32) := ex_6.trans (by decide)
  refine lv_ior hx hb dX0_term_22 ?_
  refine lv_topi (fun x_7 ex_7 => ?_)
  obtain rfl : x_7 = (17 : Int32) := ex_7.trans (by decide)
  exact hx_reti hx hb hr hlk hW ⟨rfl, rfl⟩ dX0_term_23

theorem dX0_init_0 : decode cX0_init 0 = .ok (.aload_n 0, 1) := by decide +kernel
theorem dX0_init_1 : decode cX0_init 1 = .ok (.invokespecial 3, 3) := by decide +kernel
theorem dX0_init_4 : decode cX0_init 4 = .ok (.aload_n 0, 1) := by decide +kernel
theorem dX0_init_5 : decode cX0_init 5 = .ok (.bipush 14, 2) := by decide +kernel
theorem dX0_init_7 : decode cX0_init 7 = .ok (.newarray .int, 2) := by decide +kernel
theorem dX0_init_9 : decode cX0_init 9 = .ok (.putfield 9, 3) := by decide +kernel
theorem dX0_init_12 : decode cX0_init 12 = .ok (.aload_n 0, 1) := by decide +kernel
theorem dX0_init_13 : decode cX0_init 13 = .ok (.sipush 160, 3) := by decide +kernel
theorem dX0_init_16 : decode cX0_init 16 = .ok (.newarray .int, 2) := by decide +kernel
theorem dX0_init_18 : decode cX0_init 18 = .ok (.putfield 15, 3) := by decide +kernel
theorem dX0_init_21 : decode cX0_init 21 = .ok (.aload_n 0, 1) := by decide +kernel
theorem dX0_init_22 : decode cX0_init 22 = .ok (.iload_n 1, 1) := by decide +kernel
theorem dX0_init_23 : decode cX0_init 23 = .ok (.putfield 18, 3) := by decide +kernel
theorem dX0_init_26 : decode cX0_init 26 = .ok (.aload_n 0, 1) := by decide +kernel
theorem dX0_init_27 : decode cX0_init 27 = .ok (.iload_n 2, 1) := by decide +kernel
theorem dX0_init_28 : decode cX0_init 28 = .ok (.putfield 22, 3) := by decide +kernel
theorem dX0_init_31 : decode cX0_init 31 = .ok (.getstatic 25, 3) := by decide +kernel
theorem dX0_init_34 : decode cX0_init 34 = .ok (.iconst 0, 1) := by decide +kernel
theorem dX0_init_35 : decode cX0_init 35 = .ok (.aload_n 0, 1) := by decide +kernel
theorem dX0_init_36 : decode cX0_init 36 = .ok (.getfield 9, 3) := by decide +kernel
theorem dX0_init_39 : decode cX0_init 39 = .ok (.iconst 0, 1) := by decide +kernel
theorem dX0_init_40 : decode cX0_init 40 = .ok (.bipush 14, 2) := by decide +kernel
theorem dX0_init_42 : decode cX0_init 42 = .ok (.invokestatic 28, 3) := by decide +kernel
theorem dX0_init_45 : decode cX0_init 45 = .ok (.aload_n 0, 1) := by decide +kernel
theorem dX0_init_46 : decode cX0_init 46 = .ok (.getfield 15, 3) := by decide +kernel
theorem dX0_init_49 : decode cX0_init 49 = .ok (.iconst 0, 1) := by decide +kernel
theorem dX0_init_50 : decode cX0_init 50 = .ok (.iconst 0, 1) := by decide +kernel
theorem dX0_init_51 : decode cX0_init 51 = .ok (.iconst 2, 1) := by decide +kernel
theorem dX0_init_52 : decode cX0_init 52 = .ok (.iconst 0, 1) := by decide +kernel
theorem dX0_init_53 : decode cX0_init 53 = .ok (.iconst 1, 1) := by decide +kernel
theorem dX0_init_54 : decode cX0_init 54 = .ok (.invokestatic 34, 3) := by decide +kernel
theorem dX0_init_57 : decode cX0_init 57 = .ok (.iastore, 1) := by decide +kernel
theorem dX0_init_58 : decode cX0_init 58 = .ok (.aload_n 0, 1) := by decide +kernel
theorem dX0_init_59 : decode cX0_init 59 = .ok (.getfield 15, 3) := by decide +kernel
theorem dX0_init_62 : decode cX0_init 62 = .ok (.iconst 1, 1) := by decide +kernel
theorem dX0_init_63 : decode cX0_init 63 = .ok (.iconst 1, 1) := by decide +kernel
theorem dX0_init_64 : decode cX0_init 64 = .ok (.iconst 2, 1) := by decide +kernel
theorem dX0_init_65 : decode cX0_init 65 = .ok (.iconst 0, 1) := by decide +kernel
theorem dX0_init_66 : decode cX0_init 66 = .ok (.iconst 0, 1) := by decide +kernel
theorem dX0_init_67 : decode cX0_init 67 = .ok (.invokestatic 34, 3) := by decide +kernel
theorem dX0_init_70 : decode cX0_init 70 = .ok (.iastore, 1) := by decide +kernel
theorem dX0_init_71 : decode cX0_init 71 = .ok (.aload_n 0, 1) := by decide +kernel
theorem dX0_init_72 : decode cX0_init 72 = .ok (.getfield 15, 3) := by decide +kernel
theorem dX0_init_75 : decode cX0_init 75 = .ok (.iconst 2, 1) := by decide +kernel
theorem dX0_init_76 : decode cX0_init 76 = .ok (.iconst (-1), 1) := by decide +kernel
theorem dX0_init_77 : decode cX0_init 77 = .ok (.iastore, 1) := by decide +kernel
theorem dX0_init_78 : decode cX0_init 78 = .ok (.aload_n 0, 1) := by decide +kernel
theorem dX0_init_79 : decode cX0_init 79 = .ok (.iconst 3, 1) := by decide +kernel
theorem dX0_init_80 : decode cX0_init 80 = .ok (.putfield 38, 3) := by decide +kernel
theorem dX0_init_83 : decode cX0_init 83 = .ok (.return_, 1) := by decide +kernel
set_option maxHeartbeats 4000000 in
set_option maxRecDepth 100000 in
theorem c_X0_init (l : Launch) (dC : Nat → ClassId) (dI : Nat → Nat → Nat) (dA : Nat → ClassId) (L : List Nat) (h : hx_h) (sz : Nat) (b0 : Nat) (x : Nat) (i1 : Int32) (i2 : Int32) (gx : hx_g L h x 0)  : Met l yX0_init (Cond.code yX0_init cX0_init 3 none :: hx_all) ({ frames := 1, cells := 2, slots := 174, locals := 40 }) (va_Pc [.ref x, .int i1, .int i2] (hx_BX P_tb (P_ty dA) (dC, dI) vwCl L h sz b0)) (va_Qv (fun (u : List Nat × hx_h) => hx_S P_tb [(0, 0), (0, 1), (0, 2), (0, 3), (0, 4), (11, 0), (12, 0)] L h u.1 u.2 ∧ u.2.2.1 x 0 = i1 ∧ u.2.2.1 x 1 = i2 ∧ ∃ qt, u.2.2.2 x 2 = some qt ∧ hx_g u.1 u.2 qt 11 ∧ ∀ j, j < 14 → u.2.2.1 qt j = P_wo j) (hx_E P_tb (P_ty dA) (dC, dI) vwCl (hx_A L sz)) (hx_A L sz)) 2 174 (hx_A L sz) := by
  refine hx_metX (lv := [(0, .ref x), (1, .int i1), (2, .int i2)]) (by decide +kernel) rfl (Nat.le_of_ble_eq_true rfl) rfl ?_
  intro p e s m below meth c hx hb hml hr hlk hts0 hown hin hsz hW hZ ls hl
  have hts : ∀ w ∈ hx_all, w.before _ s = true := fun w hw => hts0 w (List.mem_cons_of_mem _ hw)
  have hown : s.vm.findClass "SmallCourt$Act" = some m.cls := hown
  have hin : meth.name = "<init>" := hin
  have hM : hx_S P_tb [(0, 0), (0, 1), (0, 2), (0, 3), (0, 4), (11, 0), (12, 0)] L h L h := hx_S.rf
  refine lv_aload_n hx hb dX0_init_0 rfl (lv_at hl 0 rfl) ?_
  refine W.objInit hx hb hown (hts _ kw_153) (hts _ kw_117) (hts _ kw_118) rfl (by rw [hml]; exact hl.1) rfl dX0_init_1 (Nat.le_of_ble_eq_true rfl) (Nat.le_of_ble_eq_true rfl) ?_
  refine W.eq (g2 := F0 m 4 ls []) rfl ?_
  refine lv_aload_n hx hb dX0_init_4 rfl (lv_at hl 0 rfl) ?_
  refine lv_bipush (v := 14) hx hb dX0_init_5 (by decide) ?_
  refine hk_newa hx hb hts hW 11 td_11 (atype := .int) rfl kw_186 (tys := P_ty dA) (t0 := 0) rfl (fun _ => Iff.rfl) rfl (i := (14 : Int32)) (by decide) (Nat.le_of_ble_eq_true rfl) (Nat.le_of_ble_eq_true rfl) (Nat.le_of_ble_eq_true rfl) dX0_init_7 (fun q_2 H h_1 eh_1 hqq_2 hW hs gq_2 => ?_)
  have hM := hM.tr (hs.mono (by decide))
  have gx := gx.S hs
  have f_3 : (∀ j, h_1.2.1 q_2 j = 0) ∧ ∀ j, h_1.2.2 q_2 j = none := by rw [eh_1]; exact ⟨fun _ => hx_nw_i, fun _ => hx_nw_r⟩
  refine hk_putrF hx hb hts hC_0 hown hW gx td_0 2 (by decide) rfl kw_166 ⟨rfl, rfl, rfl⟩ rfl hin rfl (x := (some q_2)) rfl rfl rfl dX0_init_9 (fun H locs h_4 eh_4 hW hs => ?_)
  have f_3 : _ ∧ _ := ⟨fun j => (hs.a gq_2 rfl j).1.trans (f_3.1 j), fun j => (hs.a gq_2 rfl j).2.trans (f_3.2 j)⟩
  have hM := hM.tr (hs.mono (by decide))
  have gx := gx.S hs
  have gq_2 := gq_2.S hs
  have f_5 : h_4.2.2 x 2 = (some q_2) := by rw [eh_4]; exact hx_pr_at _ _ _ _
  refine lv_aload_n hx hb dX0_init_12 rfl (lv_at hl 0 rfl) ?_
  refine lv_sipush (v := 160) hx hb dX0_init_13 (by decide) ?_
  refine hk_newa hx hb hts hW 12 td_12 (atype := .int) rfl kw_186 (tys := P_ty dA) (t0 := 0) rfl (fun _ => Iff.rfl) rfl (i := (160 : Int32)) (by decide) (Nat.le_of_ble_eq_true rfl) (Nat.le_of_ble_eq_true rfl) (Nat.le_of_ble_eq_true rfl) dX0_init_16 (fun q_7 H h_6 eh_6 hqq_7 hW hs gq_7 => ?_)
  have f_5 := (hs.o gx trivial rfl).2.trans f_5
  have f_3 : _ ∧ _ := ⟨fun j => (hs.a gq_2 rfl j).1.trans (f_3.1 j), fun j => (hs.a gq_2 rfl j).2.trans (f_3.2 j)⟩
  have hM := hM.tr (hs.mono (by decide))
  have gx := gx.S hs
  have gq_2 := gq_2.S hs
  have f_8 : (∀ j, h_6.2.1 q_7 j = 0) ∧ ∀ j, h_6.2.2 q_7 j = none := by rw [eh_6]; exact ⟨fun _ => hx_nw_i, fun _ => hx_nw_r⟩
  refine hk_putrF hx hb hts hC_0 hown hW gx td_0 3 (by decide) rfl kw_172 ⟨rfl, rfl, rfl⟩ rfl hin rfl (x := (some q_7)) rfl rfl rfl dX0_init_18 (fun H locs h_9 eh_9 hW hs => ?_)
  have f_5 := (hs.o gx trivial rfl).2.trans f_5
  have f_3 : _ ∧ _ := ⟨fun j => (hs.a gq_2 rfl j).1.trans (f_3.1 j), fun j => (hs.a gq_2 rfl j).2.trans (f_3.2 j)⟩
  have f_8 : _ ∧ _ := ⟨fun j => (hs.a gq_7 rfl j).1.trans (f_8.1 j), fun j => (hs.a gq_7 rfl j).2.trans (f_8.2 j)⟩
  have hM := hM.tr (hs.mono (by decide))
  have gx := gx.S hs
  have gq_2 := gq_2.S hs
  have gq_7 := gq_7.S hs
  have f_10 : h_9.2.2 x 3 = (some q_7) := by rw [eh_9]; exact hx_pr_at _ _ _ _
  refine lv_aload_n hx hb dX0_init_21 rfl (lv_at hl 0 rfl) ?_
  refine lv_iload_n hx hb dX0_init_22 rfl (lv_at hl 1 rfl) ?_
  refine hk_putiF hx hb hts hC_0 hown hW gx td_0 0 (by decide) rfl kw_162 ⟨rfl, rfl, rfl⟩ rfl hin rfl (x := i1) rfl rfl rfl dX0_init_23 (fun H locs h_11 eh_11 hW hs => ?_)
  have f_5 := (hs.o gx trivial rfl).2.trans f_5
  have f_10 := (hs.o gx trivial rfl).2.trans f_10
  have f_3 : _ ∧ _ := ⟨fun j => (hs.a gq_2 rfl j).1.trans (f_3.1 j), fun j => (hs.a gq_2 rfl j).2.trans (f_3.2 j)⟩
  have f_8 : _ ∧ _ := ⟨fun j => (hs.a gq_7 rfl j).1.trans (f_8.1 j), fun j => (hs.a gq_7 rfl j).2.trans (f_8.2 j)⟩
  have hM := hM.tr (hs.mono (by decide))
  have gx := gx.S hs
  have gq_2 := gq_2.S hs
  have gq_7 := gq_7.S hs
  have f_12 : h_11.2.1 x 0 = i1 := by rw [eh_11]; exact hx_pi_at _ _ _ _
  refine lv_aload_n hx hb dX0_init_26 rfl (lv_at hl 0 rfl) ?_
  refine lv_iload_n hx hb dX0_init_27 rfl (lv_at hl 2 rfl) ?_
  refine hk_putiF hx hb hts hC_0 hown hW gx td_0 1 (by decide) rfl kw_164 ⟨rfl, rfl, rfl⟩ rfl hin rfl (x := i2) rfl rfl rfl dX0_init_28 (fun H locs h_13 eh_13 hW hs => ?_)
  have f_5 := (hs.o gx trivial rfl).2.trans f_5
  have f_10 := (hs.o gx trivial rfl).2.trans f_10
  have f_12 := (hs.o gx trivial rfl).1.trans f_12
  have f_3 : _ ∧ _ := ⟨fun j => (hs.a gq_2 rfl j).1.trans (f_3.1 j), fun j => (hs.a gq_2 rfl j).2.trans (f_3.2 j)⟩
  have f_8 : _ ∧ _ := ⟨fun j => (hs.a gq_7 rfl j).1.trans (f_8.1 j), fun j => (hs.a gq_7 rfl j).2.trans (f_8.2 j)⟩
  have hM := hM.tr (hs.mono (by decide))
  have gx := gx.S hs
  have gq_2 := gq_2.S hs
  have gq_7 := gq_7.S hs
  have f_14 : h_13.2.1 x 1 = i2 := by rw [eh_13]; exact hx_pi_at _ _ _ _
  refine va_getsN hx hb hZ.2.2.1 hW.2.2.2.1 hown (va_Nw.use rfl (hZ.1 _ (List.mem_of_getElem? (i := 1) rfl))) (fun _ h9 => h9) dX0_init_31 ?_
  refine lv_iconst (v := 0) hx hb dX0_init_34 (by decide) ?_
  refine lv_aload_n hx hb dX0_init_35 rfl (lv_at hl 0 rfl) ?_
  refine hk_getr hx hb hts hC_0 hown hW gx td_0 2 (by decide) rfl kw_166 ⟨rfl, rfl, rfl⟩ f_5 dX0_init_36 ?_
  refine lv_iconst (v := 0) hx hb dX0_init_39 (by decide) ?_
  refine lv_bipush (v := 14) hx hb dX0_init_40 (by decide) ?_
  refine hk_copyx hx hb (hml.trans hl.1.symm) hown (hts _ kw_156) (hts _ kw_158) (hts _ kw_157) (hts _ kw_97) hW hZ.2.2.2.1 hZ.2.2.2.2.1 hZ.2.2.2.2.2 gq_2 td_11 rfl (by decide) rfl rfl (by decide) (Nat.le_of_ble_eq_true rfl) (Nat.le_of_ble_eq_true rfl) dX0_init_42 (fun H locs h_15 fa_16 hW hs => ?_)
  have f_5 := (hs.o gx trivial rfl).2.trans f_5
  have f_10 := (hs.o gx trivial rfl).2.trans f_10
  have f_12 := (hs.o gx trivial rfl).1.trans f_12
  have f_14 := (hs.o gx trivial rfl).1.trans f_14
  have f_8 : _ ∧ _ := ⟨fun j => (hs.a gq_7 rfl j).1.trans (f_8.1 j), fun j => (hs.a gq_7 rfl j).2.trans (f_8.2 j)⟩
  have hM := hM.tr (hs.mono (by decide))
  have gx := gx.S hs
  have gq_2 := gq_2.S hs
  have gq_7 := gq_7.S hs
  refine lv_aload_n hx hb dX0_init_45 rfl (lv_at hl 0 rfl) ?_
  refine hk_getr hx hb hts hC_0 hown hW gx td_0 3 (by decide) rfl kw_172 ⟨rfl, rfl, rfl⟩ f_10 dX0_init_46 ?_
  refine lv_iconst (v := 0) hx hb dX0_init_49 (by decide) ?_
  refine lv_iconst (v := 0) hx hb dX0_init_50 (by decide) ?_
  refine lv_iconst (v := 2) hx hb dX0_init_51 (by decide) ?_
  refine lv_iconst (v := 0) hx hb dX0_init_52 (by decide) ?_
  refine lv_iconst (v := 1) hx hb dX0_init_53 (by decide) ?_
  refine hx_goi (hx_runS (As := [.int (0 : Int32), .int (2 : Int32), .int (0 : Int32), .int (1 : Int32)]) (rest := [.int (0 : Int32), .ref q_7]) ⟨hx, hb, hml, hown, hts⟩ hW (c_X0_term_144 l dC dI dA ((L ++ [q_2]) ++ [q_7]) h_15 H.size ) (va_cwS 4 hts (hx_gS kw_161 kw_159 kw_160 kw_96) rfl rfl rfl (by decide +kernel) ⟨Nat.le_of_ble_eq_true rfl, Nat.le_of_ble_eq_true rfl⟩) rfl hl.1 rfl (Nat.le_of_ble_eq_true rfl) dX0_init_54 ⟨Nat.le_of_ble_eq_true rfl, Nat.le_of_ble_eq_true rfl⟩) hW (fun r_19 L_17 h_18 H locs p_20 hW => ?_)
  obtain ⟨rfl, eu⟩ := p_20
  cases eu
  refine hk_iast hx hb hW gq_7 td_12 rfl (by decide) rfl dX0_init_57 (fun H locs h_21 eh_21 hW hs => ?_)
  have f_5 := (hs.o gx trivial rfl).2.trans f_5
  have f_10 := (hs.o gx trivial rfl).2.trans f_10
  have f_12 := (hs.o gx trivial rfl).1.trans f_12
  have f_14 := (hs.o gx trivial rfl).1.trans f_14
  have fa_16 : ∀ j, j < 14 → _ = P_wo j := fun j hj => (hs.a gq_2 rfl j).1.trans (fa_16 j hj)
  have hM := hM.tr (hs.mono (by decide))
  have gx := gx.S hs
  have gq_2 := gq_2.S hs
  have gq_7 := gq_7.S hs
  refine lv_aload_n hx hb dX0_init_58 rfl (lv_at hl 0 rfl) ?_
  refine hk_getr hx hb hts hC_0 hown hW gx td_0 3 (by decide) rfl kw_172 ⟨rfl, rfl, rfl⟩ f_10 dX0_init_59 ?_
  refine lv_iconst (v := 1) hx hb dX0_init_62 (by decide) ?_
  refine lv_iconst (v := 1) hx hb dX0_init_63 (by decide) ?_
  refine lv_iconst (v := 2) hx hb dX0_init_64 (by decide) ?_
  refine lv_iconst (v := 0) hx hb dX0_init_65 (by decide) ?_
  refine lv_iconst (v := 0) hx hb dX0_init_66 (by decide) ?_
  refine hx_goi (hx_runS (As := [.int (1 : Int32), .int (2 : Int32), .int (0 : Int32), .int (0 : Int32)]) (rest := [.int (1 : Int32), .ref q_7]) ⟨hx, hb, hml, hown, hts⟩ hW (c_X0_term_17 l dC dI dA ((L ++ [q_2]) ++ [q_7]) h_21 H.size ) (va_cwS 4 hts (hx_gS kw_161 kw_159 kw_160 kw_96) rfl rfl rfl (by decide +kernel) ⟨Nat.le_of_ble_eq_true rfl, Nat.le_of_ble_eq_true rfl⟩) rfl hl.1 rfl (Nat.le_of_ble_eq_true rfl) dX0_init_67 ⟨Nat.le_of_ble_eq_true rfl, Nat.le_of_ble_eq_true rfl⟩) hW (fun r_24 L_22 h_23 H locs p_25 hW => ?_)
  obtain ⟨rfl, eu⟩ := p_25
  cases eu
  refine hk_iast hx hb hW gq_7 td_12 rfl (by decide) rfl dX0_init_70 (fun H locs h_26 eh_26 hW hs => ?_)
  have f_5 := (hs.o gx trivial rfl).2.trans f_5
  have f_10 := (hs.o gx trivial rfl).2.trans f_10
  have f_12 := (hs.o gx trivial rfl).1.trans f_12
  have f_14 := (hs.o gx trivial rfl).1.trans f_14
  have fa_16 : ∀ j, j < 14 → _ = P_wo j := fun j hj => (hs.a gq_2 rfl j).1.trans (fa_16 j hj)
  have hM := hM.tr (hs.mono (by decide))
  have gx := gx.S hs
  have gq_2 := gq_2.S hs
  have gq_7 := gq_7.S hs
  refine lv_aload_n hx hb dX0_init_71 rfl (lv_at hl 0 rfl) ?_
  refine hk_getr hx hb hts hC_0 hown hW gx td_0 3 (by decide) rfl kw_172 ⟨rfl, rfl, rfl⟩ f_10 dX0_init_72 ?_
  refine lv_iconst (v := 2) hx hb dX0_init_75 (by decide) ?_
  refine lv_iconst (v := -1) hx hb dX0_init_76 (by decide) ?_
  refine hk_iast hx hb hW gq_7 td_12 rfl (by decide) rfl dX0_init_77 (fun H locs h_27 eh_27 hW hs => ?_)
  have f_5 := (hs.o gx trivial rfl).2.trans f_5
  have f_10 := (hs.o gx trivial rfl).2.trans f_10
  have f_12 := (hs.o gx trivial rfl).1.trans f_12
  have f_14 := (hs.o gx trivial rfl).1.trans f_14
  have fa_16 : ∀ j, j < 14 → _ = P_wo j := fun j hj => (hs.a gq_2 rfl j).1.trans (fa_16 j hj)
  have hM := hM.tr (hs.mono (by decide))
  have gx := gx.S hs
  have gq_2 := gq_2.S hs
  have gq_7 := gq_7.S hs
  refine lv_aload_n hx hb dX0_init_78 rfl (lv_at hl 0 rfl) ?_
  refine lv_iconst (v := 3) hx hb dX0_init_79 (by decide) ?_
  refine hk_puti hx hb hts hC_0 hown hW gx td_0 4 (by decide) rfl kw_173 ⟨rfl, rfl, rfl⟩ rfl (x := (3 : Int32)) rfl rfl rfl dX0_init_80 (fun H locs h_28 eh_28 hW hs => ?_)
  have f_5 := (hs.o gx trivial rfl).2.trans f_5
  have f_10 := (hs.o gx trivial rfl).2.trans f_10
  have f_12 := (hs.o gx trivial rfl).1.trans f_12
  have f_14 := (hs.o gx trivial rfl).1.trans f_14
  have fa_16 : ∀ j, j < 14 → _ = P_wo j := fun j hj => (hs.a gq_2 rfl j).1.trans (fa_16 j hj)
  have hM := hM.tr (hs.mono (by decide))
  have gx := gx.S hs
  have gq_2 := gq_2.S hs
  have gq_7 := gq_7.S hs
  have f_29 : h_28.2.1 x 4 = (3 : Int32) := by rw [eh_28]; exact hx_pi_at _ _ _ _
  refine W.widen (k := 2) (n := 174) (Nat.le_of_ble_eq_true rfl) (Nat.le_of_ble_eq_true rfl) ?_
  exact hx_retv hx hb hr hlk hW ⟨hM, f_12, f_14, q_2, f_5, gq_2, fa_16⟩ dX0_init_83

theorem dX6_skipBlanks_0 : decode cX6_skipBlanks 0 = .ok (.aload_n 0, 1) := by decide +kernel
theorem dX6_skipBlanks_1 : decode cX6_skipBlanks 1 = .ok (.getfield 19, 3) := by decide +kernel
theorem dX6_skipBlanks_4 : decode cX6_skipBlanks 4 = .ok (.aload_n 0, 1) := by decide +kernel
theorem dX6_skipBlanks_5 : decode cX6_skipBlanks 5 = .ok (.getfield 15, 3) := by decide +kernel
theorem dX6_skipBlanks_8 : decode cX6_skipBlanks 8 = .ok (.if_icmp .ge 30, 3) := by decide +kernel
theorem dX6_skipBlanks_38 : decode cX6_skipBlanks 38 = .ok (.return_, 1) := by decide +kernel
set_option maxHeartbeats 4000000 in
set_option maxRecDepth 100000 in
theorem c_X6_skipBlanks (l : Launch) (dC : Nat → ClassId) (dI : Nat → Nat → Nat) (dA : Nat → ClassId) (L : List Nat) (h : hx_h) (sz : Nat) (x : Nat) (gx : hx_g L h x 6) (f_x_2 : h.2.1 x 2 = 0) (f_x_1 : h.2.1 x 1 = 0) : Met l yX6_skipBlanks (Cond.code yX6_skipBlanks cX6_skipBlanks 1 none :: hx_all) ({ frames := 0, cells := 0, slots := 0, locals := 0 }) (va_Pc [.ref x] (hx_B P_tb (P_ty dA) (dC, dI) vwCl L h sz)) (va_Qv (fun (u : List Nat × hx_h) => hx_S P_tb [] L h u.1 u.2) (hx_E P_tb (P_ty dA) (dC, dI) vwCl (hx_A L sz)) (hx_A L sz)) 0 0 (hx_A L sz) := by
  refine hx_met (lv := [(0, .ref x)]) (by decide +kernel) rfl (Nat.le_of_ble_eq_true rfl) rfl ?_
  intro p e s m below meth c hx hb hml hr hlk hts0 hown hin hsz hW ls hl
  have hts : ∀ w ∈ hx_all, w.before _ s = true := fun w hw => hts0 w (List.mem_cons_of_mem _ hw)
  have hown : s.vm.findClass "SmallCourt$Reader" = some m.cls := hown
  have hM : hx_S P_tb [] L h L h := hx_S.rf
  refine lv_aload_n hx hb dX6_skipBlanks_0 rfl (lv_at hl 0 rfl) ?_
  refine hk_geti hx hb hts hC_6 hown hW gx td_6 2 (by decide) rfl kw_127 ⟨rfl, rfl, rfl⟩ f_x_2 dX6_skipBlanks_1 ?_
  refine lv_aload_n hx hb dX6_skipBlanks_4 rfl (lv_at hl 0 rfl) ?_
  refine hk_geti hx hb hts hC_6 hown hW gx td_6 1 (by decide) rfl kw_126 ⟨rfl, rfl, rfl⟩ f_x_1 dX6_skipBlanks_5 ?_
  refine hb_icmp_ge (zx := 0) (zy := 0) (tgt := 38) hx hb (by decide) (by decide) dX6_skipBlanks_8 (by decide) (fun c_1 => ?_) (fun c_1 => absurd c_1 (by decide))
  exact hx_retv hx hb hr hlk hW hM dX6_skipBlanks_38

theorem dX6_readAct_0 : decode cX6_readAct 0 = .ok (.aload_n 0, 1) := by decide +kernel
theorem dX6_readAct_1 : decode cX6_readAct 1 = .ok (.aload_n 1, 1) := by decide +kernel
theorem dX6_readAct_2 : decode cX6_readAct 2 = .ok (.putfield 9, 3) := by decide +kernel
theorem dX6_readAct_5 : decode cX6_readAct 5 = .ok (.aload_n 0, 1) := by decide +kernel
theorem dX6_readAct_6 : decode cX6_readAct 6 = .ok (.iload_n 2, 1) := by decide +kernel
theorem dX6_readAct_7 : decode cX6_readAct 7 = .ok (.ifCond .lt 9, 3) := by decide +kernel
theorem dX6_readAct_10 : decode cX6_readAct 10 = .ok (.iload_n 2, 1) := by decide +kernel
theorem dX6_readAct_11 : decode cX6_readAct 11 = .ok (.aload_n 1, 1) := by decide +kernel
theorem dX6_readAct_12 : decode cX6_readAct 12 = .ok (.arraylength, 1) := by decide +kernel
theorem dX6_readAct_13 : decode cX6_readAct 13 = .ok (.if_icmp .le 7, 3) := by decide +kernel
theorem dX6_readAct_20 : decode cX6_readAct 20 = .ok (.iload_n 2, 1) := by decide +kernel
theorem dX6_readAct_21 : decode cX6_readAct 21 = .ok (.putfield 15, 3) := by decide +kernel
theorem dX6_readAct_24 : decode cX6_readAct 24 = .ok (.aload_n 0, 1) := by decide +kernel
theorem dX6_readAct_25 : decode cX6_readAct 25 = .ok (.iconst 0, 1) := by decide +kernel
theorem dX6_readAct_26 : decode cX6_readAct 26 = .ok (.putfield 19, 3) := by decide +kernel
theorem dX6_readAct_29 : decode cX6_readAct 29 = .ok (.aload_n 0, 1) := by decide +kernel
theorem dX6_readAct_30 : decode cX6_readAct 30 = .ok (.iconst 0, 1) := by decide +kernel
theorem dX6_readAct_31 : decode cX6_readAct 31 = .ok (.putfield 22, 3) := by decide +kernel
theorem dX6_readAct_34 : decode cX6_readAct 34 = .ok (.aload_n 0, 1) := by decide +kernel
theorem dX6_readAct_35 : decode cX6_readAct 35 = .ok (.iconst 0, 1) := by decide +kernel
theorem dX6_readAct_36 : decode cX6_readAct 36 = .ok (.putfield 25, 3) := by decide +kernel
theorem dX6_readAct_39 : decode cX6_readAct 39 = .ok (.aload_n 0, 1) := by decide +kernel
theorem dX6_readAct_40 : decode cX6_readAct 40 = .ok (.iconst 0, 1) := by decide +kernel
theorem dX6_readAct_41 : decode cX6_readAct 41 = .ok (.putfield 28, 3) := by decide +kernel
theorem dX6_readAct_44 : decode cX6_readAct 44 = .ok (.aload_n 0, 1) := by decide +kernel
theorem dX6_readAct_45 : decode cX6_readAct 45 = .ok (.aload_n 3, 1) := by decide +kernel
theorem dX6_readAct_46 : decode cX6_readAct 46 = .ok (.putfield 31, 3) := by decide +kernel
theorem dX6_readAct_49 : decode cX6_readAct 49 = .ok (.aload_n 0, 1) := by decide +kernel
theorem dX6_readAct_50 : decode cX6_readAct 50 = .ok (.invokevirtual 35, 3) := by decide +kernel
theorem dX6_readAct_53 : decode cX6_readAct 53 = .ok (.aload_n 0, 1) := by decide +kernel
theorem dX6_readAct_54 : decode cX6_readAct 54 = .ok (.getfield 19, 3) := by decide +kernel
theorem dX6_readAct_57 : decode cX6_readAct 57 = .ok (.aload_n 0, 1) := by decide +kernel
theorem dX6_readAct_58 : decode cX6_readAct 58 = .ok (.getfield 15, 3) := by decide +kernel
theorem dX6_readAct_61 : decode cX6_readAct 61 = .ok (.if_icmp .ge 7, 3) := by decide +kernel
theorem dX6_readAct_68 : decode cX6_readAct 68 = .ok (.iconst 0, 1) := by decide +kernel
theorem dX6_readAct_69 : decode cX6_readAct 69 = .ok (.istore 4, 2) := by decide +kernel
theorem dX6_readAct_71 : decode cX6_readAct 71 = .ok (.iconst 0, 1) := by decide +kernel
theorem dX6_readAct_72 : decode cX6_readAct 72 = .ok (.istore 5, 2) := by decide +kernel
theorem dX6_readAct_74 : decode cX6_readAct 74 = .ok (.iload 5, 2) := by decide +kernel
theorem dX6_readAct_76 : decode cX6_readAct 76 = .ok (.aload_n 0, 1) := by decide +kernel
theorem dX6_readAct_77 : decode cX6_readAct 77 = .ok (.getfield 15, 3) := by decide +kernel
theorem dX6_readAct_80 : decode cX6_readAct 80 = .ok (.if_icmp .gt 35, 3) := by decide +kernel
theorem dX6_readAct_83 : decode cX6_readAct 83 = .ok (.iload 4, 2) := by decide +kernel
theorem dX6_readAct_85 : decode cX6_readAct 85 = .ok (.ifCond .eq 30, 3) := by decide +kernel
theorem dX6_readAct_115 : decode cX6_readAct 115 = .ok (.aload_n 0, 1) := by decide +kernel
theorem dX6_readAct_116 : decode cX6_readAct 116 = .ok (.getfield 22, 3) := by decide +kernel
theorem dX6_readAct_119 : decode cX6_readAct 119 = .ok (.ireturn, 1) := by decide +kernel
set_option maxHeartbeats 4000000 in
set_option maxRecDepth 100000 in
theorem c_X6_readAct (l : Launch) (dC : Nat → ClassId) (dI : Nat → Nat → Nat) (dA : Nat → ClassId) (L : List Nat) (h : hx_h) (sz : Nat) (x : Nat) (v1 : Nat) (v2 : Nat) (gx : hx_g L h x 6) (gv1 : hx_g L h v1 42) (gv2 : hx_g L h v2 0)  : Met l yX6_readAct (Cond.code yX6_readAct cX6_readAct 6 (some .int) :: hx_all) ({ frames := 1, cells := 0, slots := 0, locals := 20 }) (va_Pc [.ref x, .ref v1, .int (0 : Int32), .ref v2] (hx_B P_tb (P_ty dA) (dC, dI) vwCl L h sz)) (va_Qi (fun (r : Int32) (u : List Nat × hx_h) => (r = 0) ∧ hx_S P_tb [(6, 0), (6, 1), (6, 2), (6, 3), (6, 4), (6, 5), (6, 6)] L h u.1 u.2) (hx_E P_tb (P_ty dA) (dC, dI) vwCl (hx_A L sz)) (hx_A L sz)) 0 0 (hx_A L sz) := by
  refine hx_met (lv := [(0, .ref x), (1, .ref v1), (2, .int (0 : Int32)), (3, .ref v2)]) (by decide +kernel) rfl (Nat.le_of_ble_eq_true rfl) rfl ?_
  intro p e s m below meth c hx hb hml hr hlk hts0 hown hin hsz hW ls hl
  have hts : ∀ w ∈ hx_all, w.before _ s = true := fun w hw => hts0 w (List.mem_cons_of_mem _ hw)
  have hown : s.vm.findClass "SmallCourt$Reader" = some m.cls := hown
  have hM : hx_S P_tb [(6, 0), (6, 1), (6, 2), (6, 3), (6, 4), (6, 5), (6, 6)] L h L h := hx_S.rf
  refine lv_aload_n hx hb dX6_readAct_0 rfl (lv_at hl 0 rfl) ?_
  refine lv_aload_n hx hb dX6_readAct_1 rfl (lv_at hl 1 rfl) ?_
  refine hk_putr hx hb hts hC_6 hown hW gx td_6 0 (by decide) rfl kw_125 ⟨rfl, rfl, rfl⟩ rfl (x := (some v1)) rfl rfl rfl dX6_readAct_2 (fun H locs h_1 eh_1 hW hs => ?_)
  have hM := hM.tr (hs.mono (by decide))
  have gx := gx.S hs
  have gv1 := gv1.S hs
  have gv2 := gv2.S hs
  have f_2 : h_1.2.2 x 0 = (some v1) := by rw [eh_1]; exact hx_pr_at _ _ _ _
  refine lv_aload_n hx hb dX6_readAct_5 rfl (lv_at hl 0 rfl) ?_
  refine lv_iload_n hx hb dX6_readAct_6 rfl (lv_at hl 2 rfl) ?_
  refine hb_if_lt (zx := 0) (tgt := 16) hx hb (by decide) dX6_readAct_7 (by decide) (fun c_3 => absurd c_3 (by decide)) (fun c_3 => ?_)
  refine lv_iload_n hx hb dX6_readAct_10 rfl (lv_at hl 2 rfl) ?_
  refine lv_aload_n hx hb dX6_readAct_11 rfl (lv_at hl 1 rfl) ?_
  refine hx_alen hx hb hW gv1 td_42 rfl dX6_readAct_12 ?_
  refine lv_topi (fun x_4 ex_4 => ?_)
  obtain rfl : x_4 = (400 : Int32) := ex_4.trans (by decide)
  refine hb_icmp_le (zx := 0) (zy := 400) (tgt := 20) hx hb (by decide) (by decide) dX6_readAct_13 (by decide) (fun c_5 => ?_) (fun c_5 => absurd c_5 (by decide))
  refine lv_iload_n hx hb dX6_readAct_20 rfl (lv_at hl 2 rfl) ?_
  refine hk_puti hx hb hts hC_6 hown hW gx td_6 1 (by decide) rfl kw_126 ⟨rfl, rfl, rfl⟩ rfl (x := (0 : Int32)) rfl rfl rfl dX6_readAct_21 (fun H locs h_6 eh_6 hW hs => ?_)
  have f_2 := (hs.o gx trivial rfl).2.trans f_2
  have hM := hM.tr (hs.mono (by decide))
  have gx := gx.S hs
  have gv1 := gv1.S hs
  have gv2 := gv2.S hs
  have f_7 : h_6.2.1 x 1 = (0 : Int32) := by rw [eh_6]; exact hx_pi_at _ _ _ _
  refine lv_aload_n hx hb dX6_readAct_24 rfl (lv_at hl 0 rfl) ?_
  refine lv_iconst (v := 0) hx hb dX6_readAct_25 (by decide) ?_
  refine hk_puti hx hb hts hC_6 hown hW gx td_6 2 (by decide) rfl kw_127 ⟨rfl, rfl, rfl⟩ rfl (x := (0 : Int32)) rfl rfl rfl dX6_readAct_26 (fun H locs h_8 eh_8 hW hs => ?_)
  have f_2 := (hs.o gx trivial rfl).2.trans f_2
  have f_7 := (hs.o gx trivial rfl).1.trans f_7
  have hM := hM.tr (hs.mono (by decide))
  have gx := gx.S hs
  have gv1 := gv1.S hs
  have gv2 := gv2.S hs
  have f_9 : h_8.2.1 x 2 = (0 : Int32) := by rw [eh_8]; exact hx_pi_at _ _ _ _
  refine lv_aload_n hx hb dX6_readAct_29 rfl (lv_at hl 0 rfl) ?_
  refine lv_iconst (v := 0) hx hb dX6_readAct_30 (by decide) ?_
  refine hk_puti hx hb hts hC_6 hown hW gx td_6 3 (by decide) rfl kw_128 ⟨rfl, rfl, rfl⟩ rfl (x := (0 : Int32)) rfl rfl rfl dX6_readAct_31 (fun H locs h_10 eh_10 hW hs => ?_)
  have f_2 := (hs.o gx trivial rfl).2.trans f_2
  have f_7 := (hs.o gx trivial rfl).1.trans f_7
  have f_9 := (hs.o gx trivial rfl).1.trans f_9
  have hM := hM.tr (hs.mono (by decide))
  have gx := gx.S hs
  have gv1 := gv1.S hs
  have gv2 := gv2.S hs
  have f_11 : h_10.2.1 x 3 = (0 : Int32) := by rw [eh_10]; exact hx_pi_at _ _ _ _
  refine lv_aload_n hx hb dX6_readAct_34 rfl (lv_at hl 0 rfl) ?_
  refine lv_iconst (v := 0) hx hb dX6_readAct_35 (by decide) ?_
  refine hk_puti hx hb hts hC_6 hown hW gx td_6 4 (by decide) rfl kw_129 ⟨rfl, rfl, rfl⟩ rfl (x := (0 : Int32)) rfl rfl rfl dX6_readAct_36 (fun H locs h_12 eh_12 hW hs => ?_)
  have f_2 := (hs.o gx trivial rfl).2.trans f_2
  have f_7 := (hs.o gx trivial rfl).1.trans f_7
  have f_9 := (hs.o gx trivial rfl).1.trans f_9
  have f_11 := (hs.o gx trivial rfl).1.trans f_11
  have hM := hM.tr (hs.mono (by decide))
  have gx := gx.S hs
  have gv1 := gv1.S hs
  have gv2 := gv2.S hs
  have f_13 : h_12.2.1 x 4 = (0 : Int32) := by rw [eh_12]; exact hx_pi_at _ _ _ _
  refine lv_aload_n hx hb dX6_readAct_39 rfl (lv_at hl 0 rfl) ?_
  refine lv_iconst (v := 0) hx hb dX6_readAct_40 (by decide) ?_
  refine hk_puti hx hb hts hC_6 hown hW gx td_6 5 (by decide) rfl kw_130 ⟨rfl, rfl, rfl⟩ rfl (x := (0 : Int32)) rfl rfl rfl dX6_readAct_41 (fun H locs h_14 eh_14 hW hs => ?_)
  have f_2 := (hs.o gx trivial rfl).2.trans f_2
  have f_7 := (hs.o gx trivial rfl).1.trans f_7
  have f_9 := (hs.o gx trivial rfl).1.trans f_9
  have f_11 := (hs.o gx trivial rfl).1.trans f_11
  have f_13 := (hs.o gx trivial rfl).1.trans f_13
  have hM := hM.tr (hs.mono (by decide))
  have gx := gx.S hs
  have gv1 := gv1.S hs
  have gv2 := gv2.S hs
  have f_15 : h_14.2.1 x 5 = (0 : Int32) := by rw [eh_14]; exact hx_pi_at _ _ _ _
  refine lv_aload_n hx hb dX6_readAct_44 rfl (lv_at hl 0 rfl) ?_
  refine lv_aload_n hx hb dX6_readAct_45 rfl (lv_at hl 3 rfl) ?_
  refine hk_putr hx hb hts hC_6 hown hW gx td_6 6 (by decide) rfl kw_131 ⟨rfl, rfl, rfl⟩ rfl (x := (some v2)) rfl rfl rfl dX6_readAct_46 (fun H locs h_16 eh_16 hW hs => ?_)
  have f_2 := (hs.o gx trivial rfl).2.trans f_2
  have f_7 := (hs.o gx trivial rfl).1.trans f_7
  have f_9 := (hs.o gx trivial rfl).1.trans f_9
  have f_11 := (hs.o gx trivial rfl).1.trans f_11
  have f_13 := (hs.o gx trivial rfl).1.trans f_13
  have f_15 := (hs.o gx trivial rfl).1.trans f_15
  have hM := hM.tr (hs.mono (by decide))
  have gx := gx.S hs
  have gv1 := gv1.S hs
  have gv2 := gv2.S hs
  have f_17 : h_16.2.2 x 6 = (some v2) := by rw [eh_16]; exact hx_pr_at _ _ _ _
  refine lv_aload_n hx hb dX6_readAct_49 rfl (lv_at hl 0 rfl) ?_
  refine hx_gov (hx_runV (As := []) (rest := []) ⟨hx, hb, hml, hown, hts⟩ hW gx td_6 (T := TX6) (N := 7) rfl (c_X6_skipBlanks l dC dI dA L h_16 H.size x gx f_9 f_7) (cwV 0 hts (hx_gV kw_458 kw_455 kw_457 kw_1 kw_95) rfl rfl rfl (by decide +kernel) ⟨Nat.le_of_ble_eq_true rfl, Nat.le_of_ble_eq_true rfl⟩) rfl hl.1 rfl (Nat.le_of_ble_eq_true rfl) dX6_readAct_50 ⟨Nat.le_of_ble_eq_true rfl, Nat.le_of_ble_eq_true rfl⟩) hW (fun L_18 h_19 H locs p_21 hW => ?_)
  have hs : hx_S P_tb [] L h_16 L_18 h_19 := p_21
  have f_2 := (hs.o gx trivial rfl).2.trans f_2
  have f_7 := (hs.o gx trivial rfl).1.trans f_7
  have f_9 := (hs.o gx trivial rfl).1.trans f_9
  have f_11 := (hs.o gx trivial rfl).1.trans f_11
  have f_13 := (hs.o gx trivial rfl).1.trans f_13
  have f_15 := (hs.o gx trivial rfl).1.trans f_15
  have f_17 := (hs.o gx trivial rfl).2.trans f_17
  have hM := hM.tr (hs.mono (by decide))
  have gx := gx.S hs
  have gv1 := gv1.S hs
  have gv2 := gv2.S hs
  refine lv_aload_n hx hb dX6_readAct_53 rfl (lv_at hl 0 rfl) ?_
  refine hk_geti hx hb hts hC_6 hown hW gx td_6 2 (by decide) rfl kw_127 ⟨rfl, rfl, rfl⟩ f_9 dX6_readAct_54 ?_
  refine lv_aload_n hx hb dX6_readAct_57 rfl (lv_at hl 0 rfl) ?_
  refine hk_geti hx hb hts hC_6 hown hW gx td_6 1 (by decide) rfl kw_126 ⟨rfl, rfl, rfl⟩ f_7 dX6_readAct_58 ?_
  refine hb_icmp_ge (zx := 0) (zy := 0) (tgt := 68) hx hb (by decide) (by decide) dX6_readAct_61 (by decide) (fun c_22 => ?_) (fun c_22 => absurd c_22 (by decide))
  refine lv_iconst (v := 0) hx hb dX6_readAct_68 (by decide) ?_
  refine lv_istore (lv' := [(4, .int (0 : Int32)), (0, .ref x), (1, .ref v1), (2, .int (0 : Int32)), (3, .ref v2)]) hx hb dX6_readAct_69 hl (by decide) rfl (fun ls hl => ?_)
  refine lv_iconst (v := 0) hx hb dX6_readAct_71 (by decide) ?_
  refine lv_istore (lv' := [(5, .int (0 : Int32)), (4, .int (0 : Int32)), (0, .ref x), (1, .ref v1), (2, .int (0 : Int32)), (3, .ref v2)]) hx hb dX6_readAct_72 hl (by decide) rfl (fun ls hl => ?_)
  refine lv_iload hx hb dX6_readAct_74 (lv_at hl 0 rfl) ?_
  refine lv_aload_n hx hb dX6_readAct_76 rfl (lv_at hl 2 rfl) ?_
  refine hk_geti hx hb hts hC_6 hown hW gx td_6 1 (by decide) rfl kw_126 ⟨rfl, rfl, rfl⟩ f_7 dX6_readAct_77 ?_
  refine hb_icmp_gt (zx := 0) (zy := 0) (tgt := 115) hx hb (by decide) (by decide) dX6_readAct_80 (by decide) (fun c_23 => absurd c_23 (by decide)) (fun c_23 => ?_)
  refine lv_iload hx hb dX6_readAct_83 (lv_at hl 1 rfl) ?_
  refine hb_if_eq (zx := 0) (tgt := 115) hx hb (by decide) dX6_readAct_85 (by decide) (fun c_24 => ?_) (fun c_24 => absurd c_24 (by decide))
  refine lv_aload_n hx hb dX6_readAct_115 rfl (lv_at hl 2 rfl) ?_
  refine hk_geti hx hb hts hC_6 hown hW gx td_6 3 (by decide) rfl kw_128 ⟨rfl, rfl, rfl⟩ f_11 dX6_readAct_116 ?_
  exact hx_reti hx hb hr hlk hW ⟨rfl, hM⟩ dX6_readAct_119

theorem dX9_act_0 : decode cX9_act 0 = .ok (.aload_n 0, 1) := by decide +kernel
theorem dX9_act_1 : decode cX9_act 1 = .ok (.getfield 105, 3) := by decide +kernel
theorem dX9_act_4 : decode cX9_act 4 = .ok (.bipush 8, 2) := by decide +kernel
theorem dX9_act_6 : decode cX9_act 6 = .ok (.if_icmp .ge 10, 3) := by decide +kernel
theorem dX9_act_9 : decode cX9_act 9 = .ok (.iload_n 1, 1) := by decide +kernel
theorem dX9_act_10 : decode cX9_act 10 = .ok (.invokestatic 90, 3) := by decide +kernel
theorem dX9_act_13 : decode cX9_act 13 = .ok (.ifCond .ne 5, 3) := by decide +kernel
theorem dX9_act_16 : decode cX9_act 16 = .ok (.iconst (-1), 1) := by decide +kernel
theorem dX9_act_17 : decode cX9_act 17 = .ok (.ireturn, 1) := by decide +kernel
theorem dX9_act_18 : decode cX9_act 18 = .ok (.new 20, 3) := by decide +kernel
theorem dX9_act_21 : decode cX9_act 21 = .ok (.dup, 1) := by decide +kernel
theorem dX9_act_22 : decode cX9_act 22 = .ok (.aload_n 0, 1) := by decide +kernel
theorem dX9_act_23 : decode cX9_act 23 = .ok (.getfield 105, 3) := by decide +kernel
theorem dX9_act_26 : decode cX9_act 26 = .ok (.iload_n 1, 1) := by decide +kernel
theorem dX9_act_27 : decode cX9_act 27 = .ok (.invokespecial 22, 3) := by decide +kernel
theorem dX9_act_30 : decode cX9_act 30 = .ok (.astore_n 2, 1) := by decide +kernel
theorem dX9_act_31 : decode cX9_act 31 = .ok (.aload_n 0, 1) := by decide +kernel
theorem dX9_act_32 : decode cX9_act 32 = .ok (.getfield 16, 3) := by decide +kernel
theorem dX9_act_35 : decode cX9_act 35 = .ok (.aload_n 0, 1) := by decide +kernel
theorem dX9_act_36 : decode cX9_act 36 = .ok (.getfield 9, 3) := by decide +kernel
theorem dX9_act_39 : decode cX9_act 39 = .ok (.aload_n 0, 1) := by decide +kernel
theorem dX9_act_40 : decode cX9_act 40 = .ok (.getfield 98, 3) := by decide +kernel
theorem dX9_act_43 : decode cX9_act 43 = .ok (.aload_n 2, 1) := by decide +kernel
theorem dX9_act_44 : decode cX9_act 44 = .ok (.invokevirtual 108, 3) := by decide +kernel
theorem dX9_act_47 : decode cX9_act 47 = .ok (.istore_n 3, 1) := by decide +kernel
theorem dX9_act_48 : decode cX9_act 48 = .ok (.aload_n 0, 1) := by decide +kernel
theorem dX9_act_49 : decode cX9_act 49 = .ok (.iconst 0, 1) := by decide +kernel
theorem dX9_act_50 : decode cX9_act 50 = .ok (.putfield 98, 3) := by decide +kernel
theorem dX9_act_53 : decode cX9_act 53 = .ok (.iload_n 3, 1) := by decide +kernel
theorem dX9_act_54 : decode cX9_act 54 = .ok (.ifCond .eq 8, 3) := by decide +kernel
theorem dX9_act_62 : decode cX9_act 62 = .ok (.aload_n 0, 1) := by decide +kernel
theorem dX9_act_63 : decode cX9_act 63 = .ok (.getfield 29, 3) := by decide +kernel
theorem dX9_act_66 : decode cX9_act 66 = .ok (.aload_n 0, 1) := by decide +kernel
theorem dX9_act_67 : decode cX9_act 67 = .ok (.getfield 105, 3) := by decide +kernel
theorem dX9_act_70 : decode cX9_act 70 = .ok (.aload_n 2, 1) := by decide +kernel
theorem dX9_act_71 : decode cX9_act 71 = .ok (.aastore, 1) := by decide +kernel
theorem dX9_act_72 : decode cX9_act 72 = .ok (.aload_n 0, 1) := by decide +kernel
theorem dX9_act_73 : decode cX9_act 73 = .ok (.dup, 1) := by decide +kernel
theorem dX9_act_74 : decode cX9_act 74 = .ok (.getfield 105, 3) := by decide +kernel
theorem dX9_act_77 : decode cX9_act 77 = .ok (.iconst 1, 1) := by decide +kernel
theorem dX9_act_78 : decode cX9_act 78 = .ok (.iadd, 1) := by decide +kernel
theorem dX9_act_79 : decode cX9_act 79 = .ok (.putfield 105, 3) := by decide +kernel
theorem dX9_act_82 : decode cX9_act 82 = .ok (.aload_n 2, 1) := by decide +kernel
theorem dX9_act_83 : decode cX9_act 83 = .ok (.getfield 112, 3) := by decide +kernel
theorem dX9_act_86 : decode cX9_act 86 = .ok (.ireturn, 1) := by decide +kernel
set_option maxHeartbeats 4000000 in
set_option maxRecDepth 100000 in
theorem c_X9_act (l : Launch) (dC : Nat → ClassId) (dI : Nat → Nat → Nat) (dA : Nat → ClassId) (L : List Nat) (h : hx_h) (sz : Nat) (b0 : Nat) (x : Nat) (d : Int32) (gx : hx_g L h x 9) (f_x_6 : h.2.1 x 6 = 0) (f_x_1 : h.2.1 x 1 = 0) (qr : Nat) (gqr : hx_g L h qr 6) (f_x_3 : h.2.2 x 3 = some qr) (qt : Nat) (gqt : hx_g L h qt 42) (f_x_0 : h.2.2 x 0 = some qt) (qc : Nat) (gqc : hx_g L h qc 43) (f_x_5 : h.2.2 x 5 = some qc) : Met l yX9_act (Cond.code yX9_act cX9_act 4 (some .int) :: hx_all) ({ frames := 2, cells := 3, slots := 179, locals := 62 }) (va_Pc [.ref x, .int d] (hx_BX P_tb (P_ty dA) (dC, dI) vwCl L h sz b0)) (va_Qi (fun (r : Int32) (u : List Nat × hx_h) => ((0 ≤ d.toInt ∧ d.toInt ≤ 7999) ∧ r = 0 ∨ ¬ (0 ≤ d.toInt ∧ d.toInt ≤ 7999) ∧ r = -1) ∧ hx_S P_tb [(0, 0), (0, 1), (0, 2), (0, 3), (0, 4), (6, 0), (6, 1), (6, 2), (6, 3), (6, 4), (6, 5), (6, 6), (9, 1), (9, 6), (11, 0), (12, 0), (43, 0)] L h u.1 u.2) (hx_E P_tb (P_ty dA) (dC, dI) vwCl (hx_A L sz)) (hx_A L sz)) 3 179 (hx_A L sz) := by
  refine hx_metX (lv := [(0, .ref x), (1, .int d)]) (by decide +kernel) rfl (Nat.le_of_ble_eq_true rfl) rfl ?_
  intro p e s m below meth c hx hb hml hr hlk hts0 hown hin hsz hW hZ ls hl
  have hts : ∀ w ∈ hx_all, w.before _ s = true := fun w hw => hts0 w (List.mem_cons_of_mem _ hw)
  have hown : s.vm.findClass "SmallCourt" = some m.cls := hown
  have hM : hx_S P_tb [(0, 0), (0, 1), (0, 2), (0, 3), (0, 4), (6, 0), (6, 1), (6, 2), (6, 3), (6, 4), (6, 5), (6, 6), (9, 1), (9, 6), (11, 0), (12, 0), (43, 0)] L h L h := hx_S.rf
  refine lv_aload_n hx hb dX9_act_0 rfl (lv_at hl 0 rfl) ?_
  refine hk_geti hx hb hts hC_9 hown hW gx td_9 6 (by decide) rfl kw_370 ⟨rfl, rfl, rfl⟩ f_x_6 dX9_act_1 ?_
  refine lv_bipush (v := 8) hx hb dX9_act_4 (by decide) ?_
  refine hb_icmp_ge (zx := 0) (zy := 8) (tgt := 16) hx hb (by decide) (by decide) dX9_act_6 (by decide) (fun c_1 => absurd c_1 (by decide)) (fun c_1 => ?_)
  refine lv_iload_n hx hb dX9_act_9 rfl (lv_at hl 1 rfl) ?_
  refine hx_goi (hx_runS (As := [.int d]) (rest := []) ⟨hx, hb, hml, hown, hts⟩ hW (c_X9_isDay l dC dI dA L h s.heap.size d) (va_cwS 1 hts (hx_gS kw_431 kw_429 kw_430 kw_94) rfl rfl rfl (by decide +kernel) ⟨Nat.le_of_ble_eq_true rfl, Nat.le_of_ble_eq_true rfl⟩) rfl hl.1 rfl (Nat.le_of_ble_eq_true rfl) dX9_act_10 ⟨Nat.le_of_ble_eq_true rfl, Nat.le_of_ble_eq_true rfl⟩) hW (fun r_4 L_2 h_3 H locs p_5 hW => ?_)
  obtain ⟨p_5, eu⟩ := p_5
  cases eu
  rcases p_5 with ⟨kp_5, rfl⟩ | ⟨kp_5, rfl⟩
  · skip
    refine hb_if_ne (zx := 1) (tgt := 18) hx hb (by decide) dX9_act_13 (by decide) (fun c_6 => ?_) (fun c_6 => absurd c_6 (by decide))
    refine hk_new hx hb hts hC_0 hown hW 0 td_0 rfl (by decide) kw_148 kw_149 kw_96 (Nat.le_of_ble_eq_true rfl) (Nat.le_of_ble_eq_true rfl) dX9_act_18 (fun q_8 H h_7 eh_7 hqq_8 hW hs gq_8 => ?_)
    have f_x_6 := (hs.o gx trivial rfl).1.trans f_x_6
    have f_x_1 := (hs.o gx trivial rfl).1.trans f_x_1
    have f_x_3 := (hs.o gx trivial rfl).2.trans f_x_3
    have f_x_0 := (hs.o gx trivial rfl).2.trans f_x_0
    have f_x_5 := (hs.o gx trivial rfl).2.trans f_x_5
    have hM := hM.tr (hs.mono (by decide))
    have gx := gx.S hs
    have gqr := gqr.S hs
    have gqt := gqt.S hs
    have gqc := gqc.S hs
    have f_9 : h_7.2.1 q_8 0 = 0 := by rw [eh_7]; exact hx_nw_i
    have f_10 : h_7.2.1 q_8 1 = 0 := by rw [eh_7]; exact hx_nw_i
    have f_13 : h_7.2.1 q_8 4 = 0 := by rw [eh_7]; exact hx_nw_i
    refine lv_dup hx hb dX9_act_21 rfl ?_
    refine lv_aload_n hx hb dX9_act_22 rfl (lv_at hl 0 rfl) ?_
    refine hk_geti hx hb hts hC_9 hown hW gx td_9 6 (by decide) rfl kw_370 ⟨rfl, rfl, rfl⟩ f_x_6 dX9_act_23 ?_
    refine lv_iload_n hx hb dX9_act_26 rfl (lv_at hl 1 rfl) ?_
    refine hx_gov (hx_runIX (As := [.int (0 : Int32), .int d]) (rest := [.ref q_8]) ⟨hx, hb, hml, hown, hts⟩ hW (c_X0_init l dC dI dA (L ++ [q_8]) h_7 H.size b0 q_8 (0 : Int32) d gq_8) hZ (cwI 2 hts (hx_gC kw_152) rfl rfl rfl (hts _ kw_96) (hts _ kw_150) (hts _ kw_151) rfl (by decide +kernel) ⟨Nat.le_of_ble_eq_true rfl, Nat.le_of_ble_eq_true rfl⟩) rfl hl.1 rfl (Nat.le_of_ble_eq_true rfl) dX9_act_27 ⟨Nat.le_of_ble_eq_true rfl, Nat.le_of_ble_eq_true rfl⟩) hW (fun L_14 h_15 H locs p_17 hW => ?_)
    obtain ⟨hs, f_19, f_20, q_18, f_21, gq_18, f_22⟩ := p_17
    have hs : hx_S P_tb [(0, 0), (0, 1), (0, 2), (0, 3), (0, 4), (11, 0), (12, 0)] (L ++ [q_8]) h_7 L_14 h_15 := hs
    have f_x_6 := (hs.o gx trivial rfl).1.trans f_x_6
    have f_x_1 := (hs.o gx trivial rfl).1.trans f_x_1
    have f_x_3 := (hs.o gx trivial rfl).2.trans f_x_3
    have f_x_0 := (hs.o gx trivial rfl).2.trans f_x_0
    have f_x_5 := (hs.o gx trivial rfl).2.trans f_x_5
    have hM := hM.tr (hs.mono (by decide))
    have gx := gx.S hs
    have gqr := gqr.S hs
    have gqt := gqt.S hs
    have gqc := gqc.S hs
    have gq_8 := gq_8.S hs
    have f_19 : h_15.2.1 q_8 0 = _ := f_19
    have f_20 : h_15.2.1 q_8 1 = _ := f_20
    have f_21 : h_15.2.2 q_8 2 = _ := f_21
    have gq_18 : hx_g L_14 h_15 q_18 11 := gq_18
    have f_22 : ∀ j, j < 14 → h_15.2.1 q_18 j = P_wo j := f_22
    refine lv_astore_n (lv' := [(2, .ref q_8), (0, .ref x), (1, .int d)]) hx hb dX9_act_30 rfl hl (by decide) rfl (fun ls hl => ?_)
    refine lv_aload_n hx hb dX9_act_31 rfl (lv_at hl 1 rfl) ?_
    refine hk_getr hx hb hts hC_9 hown hW gx td_9 3 (by decide) rfl kw_367 ⟨rfl, rfl, rfl⟩ f_x_3 dX9_act_32 ?_
    refine lv_aload_n hx hb dX9_act_35 rfl (lv_at hl 1 rfl) ?_
    refine hk_getr hx hb hts hC_9 hown hW gx td_9 0 (by decide) rfl kw_364 ⟨rfl, rfl, rfl⟩ f_x_0 dX9_act_36 ?_
    refine lv_aload_n hx hb dX9_act_39 rfl (lv_at hl 1 rfl) ?_
    refine hk_geti hx hb hts hC_9 hown hW gx td_9 1 (by decide) rfl kw_365 ⟨rfl, rfl, rfl⟩ f_x_1 dX9_act_40 ?_
    refine lv_aload_n hx hb dX9_act_43 rfl (lv_at hl 0 rfl) ?_
    refine hx_goi (hx_runV (As := [.ref qt, .int (0 : Int32), .ref q_8]) (rest := []) ⟨hx, hb, hml, hown, hts⟩ hW gqr td_6 (T := TX6) (N := 7) rfl (c_X6_readAct l dC dI dA L_14 h_15 H.size qr qt q_8 gqr gqt gq_8) (cwV 3 hts (hx_gV kw_454 kw_451 kw_452 kw_453 kw_95) rfl rfl rfl (by decide +kernel) ⟨Nat.le_of_ble_eq_true rfl, Nat.le_of_ble_eq_true rfl⟩) rfl hl.1 rfl (Nat.le_of_ble_eq_true rfl) dX9_act_44 ⟨Nat.le_of_ble_eq_true rfl, Nat.le_of_ble_eq_true rfl⟩) hW (fun r_25 L_23 h_24 H locs p_26 hW => ?_)
    obtain ⟨er, hs⟩ := p_26
    have hs : hx_S P_tb [(6, 0), (6, 1), (6, 2), (6, 3), (6, 4), (6, 5), (6, 6)] L_14 h_15 L_23 h_24 := hs
    have f_x_6 := (hs.o gx trivial rfl).1.trans f_x_6
    have f_x_1 := (hs.o gx trivial rfl).1.trans f_x_1
    have f_x_3 := (hs.o gx trivial rfl).2.trans f_x_3
    have f_x_0 := (hs.o gx trivial rfl).2.trans f_x_0
    have f_x_5 := (hs.o gx trivial rfl).2.trans f_x_5
    have f_19 := (hs.o gq_8 trivial rfl).1.trans f_19
    have f_20 := (hs.o gq_8 trivial rfl).1.trans f_20
    have f_21 := (hs.o gq_8 trivial rfl).2.trans f_21
    have f_22 : ∀ j, j < 14 → _ = P_wo j := fun j hj => (hs.a gq_18 rfl j).1.trans (f_22 j hj)
    have hM := hM.tr (hs.mono (by decide))
    have gx := gx.S hs
    have gqr := gqr.S hs
    have gqt := gqt.S hs
    have gqc := gqc.S hs
    have gq_8 := gq_8.S hs
    have gq_18 := gq_18.S hs
    subst er
    refine lv_istore_n (lv' := [(3, .int (0 : Int32)), (2, .ref q_8), (0, .ref x), (1, .int d)]) hx hb dX9_act_47 rfl hl (by decide) rfl (fun ls hl => ?_)
    refine lv_aload_n hx hb dX9_act_48 rfl (lv_at hl 2 rfl) ?_
    refine lv_iconst (v := 0) hx hb dX9_act_49 (by decide) ?_
    refine hk_puti hx hb hts hC_9 hown hW gx td_9 1 (by decide) rfl kw_365 ⟨rfl, rfl, rfl⟩ rfl (x := (0 : Int32)) rfl rfl rfl dX9_act_50 (fun H locs h_27 eh_27 hW hs => ?_)
    have f_x_6 := (hs.o gx trivial rfl).1.trans f_x_6
    have f_x_3 := (hs.o gx trivial rfl).2.trans f_x_3
    have f_x_0 := (hs.o gx trivial rfl).2.trans f_x_0
    have f_x_5 := (hs.o gx trivial rfl).2.trans f_x_5
    have f_19 := (hs.o gq_8 trivial rfl).1.trans f_19
    have f_20 := (hs.o gq_8 trivial rfl).1.trans f_20
    have f_21 := (hs.o gq_8 trivial rfl).2.trans f_21
    have f_22 : ∀ j, j < 14 → _ = P_wo j := fun j hj => (hs.a gq_18 rfl j).1.trans (f_22 j hj)
    have hM := hM.tr (hs.mono (by decide))
    have gx := gx.S hs
    have gqr := gqr.S hs
    have gqt := gqt.S hs
    have gqc := gqc.S hs
    have gq_8 := gq_8.S hs
    have gq_18 := gq_18.S hs
    have f_28 : h_27.2.1 x 1 = (0 : Int32) := by rw [eh_27]; exact hx_pi_at _ _ _ _
    refine lv_iload_n hx hb dX9_act_53 rfl (lv_at hl 0 rfl) ?_
    refine hb_if_eq (zx := 0) (tgt := 62) hx hb (by decide) dX9_act_54 (by decide) (fun c_29 => ?_) (fun c_29 => absurd c_29 (by decide))
    refine lv_aload_n hx hb dX9_act_62 rfl (lv_at hl 2 rfl) ?_
    refine hk_getr hx hb hts hC_9 hown hW gx td_9 5 (by decide) rfl kw_369 ⟨rfl, rfl, rfl⟩ f_x_5 dX9_act_63 ?_
    refine lv_aload_n hx hb dX9_act_66 rfl (lv_at hl 2 rfl) ?_
    refine hk_geti hx hb hts hC_9 hown hW gx td_9 6 (by decide) rfl kw_370 ⟨rfl, rfl, rfl⟩ f_x_6 dX9_act_67 ?_
    refine lv_aload_n hx hb dX9_act_70 rfl (lv_at hl 1 rfl) ?_
    refine hk_aast hx hb hW gqc td_43 rfl gq_8 td_0 rfl (by decide) dX9_act_71 (fun H locs h_30 eh_30 hW hs => ?_)
    have f_x_6 := (hs.o gx trivial rfl).1.trans f_x_6
    have f_x_3 := (hs.o gx trivial rfl).2.trans f_x_3
    have f_x_0 := (hs.o gx trivial rfl).2.trans f_x_0
    have f_x_5 := (hs.o gx trivial rfl).2.trans f_x_5
    have f_19 := (hs.o gq_8 trivial rfl).1.trans f_19
    have f_20 := (hs.o gq_8 trivial rfl).1.trans f_20
    have f_21 := (hs.o gq_8 trivial rfl).2.trans f_21
    have f_28 := (hs.o gx trivial rfl).1.trans f_28
    have f_22 : ∀ j, j < 14 → _ = P_wo j := fun j hj => (hs.a gq_18 rfl j).1.trans (f_22 j hj)
    have hM := hM.tr (hs.mono (by decide))
    have gx := gx.S hs
    have gqr := gqr.S hs
    have gqt := gqt.S hs
    have gqc := gqc.S hs
    have gq_8 := gq_8.S hs
    have gq_18 := gq_18.S hs
    refine lv_aload_n hx hb dX9_act_72 rfl (lv_at hl 2 rfl) ?_
    refine lv_dup hx hb dX9_act_73 rfl ?_
    refine hk_geti hx hb hts hC_9 hown hW gx td_9 6 (by decide) rfl kw_370 ⟨rfl, rfl, rfl⟩ f_x_6 dX9_act_74 ?_
    refine lv_iconst (v := 1) hx hb dX9_act_77 (by decide) ?_
    refine lv_iadd hx hb dX9_act_78 ?_
    refine lv_topi (fun x_31 ex_31 => ?_)
    obtain rfl : x_31 = (1 : Int32) := ex_31.trans (by decide)
    refine hk_puti hx hb hts hC_9 hown hW gx td_9 6 (by decide) rfl kw_370 ⟨rfl, rfl, rfl⟩ rfl (x := (1 : Int32)) rfl rfl rfl dX9_act_79 (fun H locs h_32 eh_32 hW hs => ?_)
    have f_x_3 := (hs.o gx trivial rfl).2.trans f_x_3
    have f_x_0 := (hs.o gx trivial rfl).2.trans f_x_0
    have f_x_5 := (hs.o gx trivial rfl).2.trans f_x_5
    have f_19 := (hs.o gq_8 trivial rfl).1.trans f_19
    have f_20 := (hs.o gq_8 trivial rfl).1.trans f_20
    have f_21 := (hs.o gq_8 trivial rfl).2.trans f_21
    have f_28 := (hs.o gx trivial rfl).1.trans f_28
    have f_22 : ∀ j, j < 14 → _ = P_wo j := fun j hj => (hs.a gq_18 rfl j).1.trans (f_22 j hj)
    have hM := hM.tr (hs.mono (by decide))
    have gx := gx.S hs
    have gqr := gqr.S hs
    have gqt := gqt.S hs
    have gqc := gqc.S hs
    have gq_8 := gq_8.S hs
    have gq_18 := gq_18.S hs
    have f_33 : h_32.2.1 x 6 = (1 : Int32) := by rw [eh_32]; exact hx_pi_at _ _ _ _
    refine lv_aload_n hx hb dX9_act_82 rfl (lv_at hl 1 rfl) ?_
    refine hk_geti hx hb hts hC_0 hown hW gq_8 td_0 0 (by decide) rfl kw_163 ⟨rfl, rfl, rfl⟩ f_19 dX9_act_83 ?_
    refine W.widen (k := 3) (n := 179) (Nat.le_of_ble_eq_true rfl) (Nat.le_of_ble_eq_true rfl) ?_
    exact hx_reti hx hb hr hlk hW ⟨Or.inl ⟨by first | omega | decide, rfl⟩, hM⟩ dX9_act_86
  · skip
    refine hb_if_ne (zx := 0) (tgt := 18) hx hb (by decide) dX9_act_13 (by decide) (fun c_34 => absurd c_34 (by decide)) (fun c_34 => ?_)
    refine lv_iconst (v := -1) hx hb dX9_act_16 (by decide) ?_
    refine W.widen (k := 3) (n := 179) (Nat.le_of_ble_eq_true rfl) (Nat.le_of_ble_eq_true rfl) ?_
    exact hx_reti hx hb hr hlk hW ⟨Or.inr ⟨by first | omega | decide, rfl⟩, hM⟩ dX9_act_17
end
