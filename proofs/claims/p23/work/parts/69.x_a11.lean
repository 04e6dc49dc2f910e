/-! A CELL MADE HERE, OF ANOTHER TAG: every list that holds the old one holds the new one -/
def hx_n2f (t0 t : Nat) (f : hx_f) : Bool := match f with
  | Sum.inr (Sum.inl b) => !b.2.contains t0 || b.2.contains t
  | _ => true
def hx_n2 (t0 t : Nat) (d : hx_d) : Bool := match d with
  | .inl (_, fs) => fs.all (hx_n2f t0 t)
  | .inr (_, _, f) => hx_n2f t0 t f
theorem hx_rt_key {tb : List hx_d} {L : List Nat} {h : hx_h} {q t0 t : Nat} (g : hx_g L h q t0) (hno : tb.all (hx_n2 t0 t) = true) : ∀ (f : hx_f) (d : hx_d), d ∈ tb → (match d with | .inl (_, fs) => f ∈ fs | .inr (_, _, f0) => f = f0) → ∀ q1 b, f = .inr b → q1 ∈ L → h.1 q1 ∈ b.2 → q1 ∈ L ∧ (hx_rt h q t).1 q1 ∈ b.2 := by
  intro f d hdm hfm q1 b e h1 h2
  refine ⟨h1, ?_⟩
  by_cases hq1 : q1 = q
  · rw [hq1, g.2] at h2
    have h3 := List.all_eq_true.mp hno d hdm
    have h4 : t ∈ b.2 := by
      subst e
      rcases d with ⟨ci, fs⟩ | ⟨t1, n, f0⟩
      · have := List.all_eq_true.mp h3 _ hfm
        simpa [hx_n2f, h2] using this
      · subst hfm
        simpa [hx_n2, hx_n2f, h2] using h3
    simpa [hx_rt, hq1] using h4
  · simpa [hx_rt, hq1] using h2
theorem hx_T_rt2 {tb : List hx_d} {L : List Nat} {h : hx_h} {q t0 t ci : Nat} {fs' : List hx_f} (hT : hx_T tb L h) (g : hx_g L h q t0) (hd : tb[t]? = some (.inl (ci, fs'))) (hno : tb.all (hx_n2 t0 t) = true) (hf : ∀ k f, fs'[k]? = some f → hx_o L h f (h.2.1 q k) (h.2.2 q k)) : hx_T tb L (hx_rt h q t) := by
  have key := hx_rt_key g hno
  intro c hc
  by_cases hcq : c = q
  · subst hcq
    unfold hx_c
    have e1 : (hx_rt h c t).1 c = t := by simp [hx_rt]
    rw [e1, hd]
    intro k f hk
    exact hx_o_mono (hf k f hk) (fun q1 b e _ h1 h2 => key f _ (List.mem_of_getElem? hd) (List.mem_of_getElem? hk) q1 b e h1 h2)
  · exact hx_c_mono (hT c hc) (by simp [hx_rt, hcq]) (fun _ => rfl) (fun _ => rfl) key
theorem hx_T_rtA {tb : List hx_d} {L : List Nat} {h : hx_h} {q t0 t t1 n : Nat} {f0 : hx_f} (hT : hx_T tb L h) (g : hx_g L h q t0) (hd0 : tb[t0]? = some (.inr (t1, n, f0))) (hd : tb[t]? = some (.inr (t1, n, f0))) (hno : tb.all (hx_n2 t0 t) = true) : hx_T tb L (hx_rt h q t) := by
  have key := hx_rt_key g hno
  intro c hc
  by_cases hcq : c = q
  · subst hcq
    have h0 := hT c hc
    unfold hx_c at h0 ⊢
    have e1 : (hx_rt h c t).1 c = t := by simp [hx_rt]
    rw [g.2, hd0] at h0
    rw [e1, hd]
    intro k hk
    exact hx_o_mono (h0 k hk) (fun q1 b e _ h1 h2 => key f0 _ (List.mem_of_getElem? hd) rfl q1 b e h1 h2)
  · exact hx_c_mono (hT c hc) (by simp [hx_rt, hcq]) (fun _ => rfl) (fun _ => rfl) key
theorem hx_W_rtA {tb : List hx_d} {tys : hx_y} {D : va_G} {cl : List vw_C} {A : Nat → Prop} {H0 H : Heap} {L : List Nat} {h : hx_h} {s : State} {locs : List Loc} {q t0 t t1 n : Nat} {f0 : hx_f} (hW : hx_W tb tys D cl A H0 L h s H locs) (g : hx_g L h q t0) (hd0 : tb[t0]? = some (.inr (t1, n, f0))) (hd : tb[t]? = some (.inr (t1, n, f0))) : hx_W tb tys D cl A H0 L (hx_rt h q t) s H locs := by
  have e : hx_p tb tys L (hx_rt h q t) = hx_p tb tys L h := by
    refine va_pl_congr (fun b => ?_)
    by_cases hb : b = q
    · subst hb
      rw [hx_e_arr (h := hx_rt h b t) (t := t) (by simp [hx_rt]) hd, hx_e_arr g.2 hd0]
      rfl
    · have : (hx_rt h q t).1 b = h.1 b := by simp [hx_rt, hb]
      unfold hx_e
      rw [this]
      rfl
  obtain ⟨hK, hP, hD, hS, hA⟩ := hW
  exact ⟨hK, by rw [e]; exact hP, by rw [e]; exact hD, hS, hA⟩
theorem hx_S_rt2 {tb : List hx_d} {M : hx_m} {L L1 : List Nat} {h h1 : hx_h} {q t : Nat} (hM : hx_S tb M L h L1 h1) (nq : ∀ a ∈ L, a ≠ q) : hx_S tb M L h L1 (hx_rt h1 q t) := by
  refine ⟨fun a ha => ⟨(hM.1 a ha).1, ?_⟩, fun a ha k hk => hM.2 a ha k hk⟩
  have n := nq a ha
  simp only [hx_rt, n, if_false]
  exact (hM.1 a ha).2
