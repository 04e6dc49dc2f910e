/-! NEW OBJECTS, TYPED: a raw tag while they are made, their own tag behind it; long arrays; what stands outside -/
def hx_zf (f : hx_f) : Bool := match f with
  | Sum.inl b => decide (b.1 ≤ 0) && decide (0 ≤ b.2)
  | Sum.inr (Sum.inl b) => !b.1
  | Sum.inr (Sum.inr _) => true
def hx_zd (d : hx_d) : Bool := match d with
  | .inl (_, fs) => fs.all hx_zf
  | .inr (_, _, f) => hx_zf f
theorem hx_o_zero {L : List Nat} {h : hx_h} {f : hx_f} (hz : hx_zf f = true) : hx_o L h f 0 none := by
  rcases f with b | b | b
  · simp only [hx_zf, Bool.and_eq_true, decide_eq_true_eq] at hz
    exact hz
  · simp only [hx_zf, Bool.not_eq_true'] at hz
    exact ⟨fun z => absurd (hz.symm.trans z) (by decide), fun q hq => nomatch hq⟩
  · trivial
theorem hx_o_mono {L L1 : List Nat} {h h1 : hx_h} {f : hx_f} {i : Int32} {r : Option Nat} (ho : hx_o L h f i r) (hr : ∀ q b, f = .inr b → r = some q → q ∈ L → h.1 q ∈ b.2 → q ∈ L1 ∧ h1.1 q ∈ b.2) : hx_o L1 h1 f i r := by
  rcases f with b | b | b
  · exact ho
  · exact ⟨ho.1, fun q hq => hr q b rfl hq (ho.2 q hq).1 (ho.2 q hq).2⟩
  · trivial
/-- types of one cell carried over, with all its references -/
theorem hx_c_mono {tb : List hx_d} {L L1 : List Nat} {h h1 : hx_h} {a : Nat} (hc : hx_c tb L h a) (ht : h1.1 a = h.1 a) (hi : ∀ k, h1.2.1 a k = h.2.1 a k) (hr : ∀ k, h1.2.2 a k = h.2.2 a k) (hq : ∀ f d, d ∈ tb → (match d with | .inl (_, fs) => f ∈ fs | .inr (_, _, f0) => f = f0) → ∀ q b, f = .inr b → q ∈ L → h.1 q ∈ b.2 → q ∈ L1 ∧ h1.1 q ∈ b.2) : hx_c tb L1 h1 a := by
  unfold hx_c at hc ⊢
  rw [ht]
  cases hd : tb[h.1 a]? with
  | none => rw [hd] at hc; exact hc
  | some d =>
    rw [hd] at hc
    have hm : d ∈ tb := List.mem_of_getElem? hd
    rcases d with ⟨ci, fs⟩ | ⟨t0, n, f⟩
    · intro k f hk
      rw [hi, hr]
      exact hx_o_mono (hc k f hk) (fun q b e _ h1 h2 => hq f _ hm (List.mem_of_getElem? hk) q b e h1 h2)
    · intro k hk
      rw [hi, hr]
      exact hx_o_mono (hc k hk) (fun q b e _ h1 h2 => hq f _ hm rfl q b e h1 h2)
theorem hx_T_nw {tb : List hx_d} {L : List Nat} {h : hx_h} {q t : Nat} {d : hx_d} (hT : hx_T tb L h) (hq : q ∉ L) (hd : tb[t]? = some d) (hz : hx_zd d = true) : hx_T tb (L ++ [q]) (hx_nw h q t) := by
  intro c hc
  rcases List.mem_append.mp hc with hc | hc
  · have hcq : c ≠ q := fun z => hq (z ▸ hc)
    refine hx_c_mono (hT c hc) (by simp [hx_nw, hcq]) (fun k => by simp [hx_nw, hcq]) (fun k => by simp [hx_nw, hcq]) (fun f d _ _ q1 b _ h1 h2 => ?_)
    have : q1 ≠ q := fun z => hq (z ▸ h1)
    exact ⟨List.mem_append_left _ h1, by simpa [hx_nw, this] using h2⟩
  · have hcq : c = q := by simpa using hc
    subst hcq
    unfold hx_c
    have e1 : (hx_nw h c t).1 c = t := by simp [hx_nw]
    rw [e1, hd]
    rcases d with ⟨ci, fs⟩ | ⟨t0, n, f⟩
    · intro k f hk
      have : (hx_nw h c t).2.1 c k = 0 := hx_nw_i
      rw [this, hx_nw_r]
      exact hx_o_zero (List.all_eq_true.mp hz f (List.mem_of_getElem? hk))
    · intro k hk
      have : (hx_nw h c t).2.1 c k = 0 := hx_nw_i
      rw [this, hx_nw_r]
      exact hx_o_zero hz
def hx_rt (h : hx_h) (q t : Nat) : hx_h := (fun b => if b = q then t else h.1 b, h.2)
def hx_ntf (t0 : Nat) (f : hx_f) : Bool := match f with
  | Sum.inr (Sum.inl b) => !b.2.contains t0
  | _ => true
def hx_nt (t0 : Nat) (d : hx_d) : Bool := match d with
  | .inl (_, fs) => fs.all (hx_ntf t0)
  | .inr (_, _, f) => hx_ntf t0 f
theorem hx_W_rt {tb : List hx_d} {tys : hx_y} {D : va_G} {cl : List vw_C} {A : Nat → Prop} {H0 H : Heap} {L : List Nat} {h : hx_h} {s : State} {locs : List Loc} {q t0 t ci : Nat} {fs fs' : List hx_f} (hW : hx_W tb tys D cl A H0 L h s H locs) (g : hx_g L h q t0) (hd0 : tb[t0]? = some (.inl (ci, fs))) (hd : tb[t]? = some (.inl (ci, fs'))) (hsh : ∀ (h : hx_h) (a : Nat), hx_fs fs h a = hx_fs fs' h a) : hx_W tb tys D cl A H0 L (hx_rt h q t) s H locs := by
  have e : hx_p tb tys L (hx_rt h q t) = hx_p tb tys L h := by
    refine va_pl_congr (fun b => ?_)
    by_cases hb : b = q
    · subst hb
      rw [hx_e_obj (h := hx_rt h b t) (t := t) (by simp [hx_rt]) hd, hx_e_obj g.2 hd0, hsh]
      rfl
    · have : (hx_rt h q t).1 b = h.1 b := by simp [hx_rt, hb]
      unfold hx_e
      rw [this]
      rfl
  obtain ⟨hK, hP, hD, hS, hA⟩ := hW
  exact ⟨hK, by rw [e]; exact hP, by rw [e]; exact hD, hS, hA⟩
theorem hx_T_rt {tb : List hx_d} {L : List Nat} {h : hx_h} {q t0 t ci : Nat} {fs' : List hx_f} (hT : hx_T tb L h) (g : hx_g L h q t0) (hd : tb[t]? = some (.inl (ci, fs'))) (hno : tb.all (hx_nt t0) = true) (hf : ∀ k f, fs'[k]? = some f → hx_o L h f (h.2.1 q k) (h.2.2 q k)) : hx_T tb L (hx_rt h q t) := by
  have key : ∀ f d, d ∈ tb → (match d with | .inl (_, fs) => f ∈ fs | .inr (_, _, f0) => f = f0) → ∀ q1 b, f = .inr b → q1 ∈ L → h.1 q1 ∈ b.2 → q1 ∈ L ∧ (hx_rt h q t).1 q1 ∈ b.2 := by
    intro f d hdm hfm q1 b e h1 h2
    refine ⟨h1, ?_⟩
    have hq1 : q1 ≠ q := by
      intro z
      rw [z, g.2] at h2
      have h3 := List.all_eq_true.mp hno d hdm
      subst e
      rcases d with ⟨ci, fs⟩ | ⟨t1, n, f0⟩
      · have := List.all_eq_true.mp h3 _ hfm
        simp [hx_ntf, h2] at this
      · subst hfm
        simp [hx_nt, hx_ntf, h2] at h3
    simpa [hx_rt, hq1] using h2
  intro c hc
  by_cases hcq : c = q
  · subst hcq
    unfold hx_c
    have e1 : (hx_rt h c t).1 c = t := by simp [hx_rt]
    rw [e1, hd]
    intro k f hk
    exact hx_o_mono (hf k f hk) (fun q1 b e _ h1 h2 => key f _ (List.mem_of_getElem? hd) (List.mem_of_getElem? hk) q1 b e h1 h2)
  · exact hx_c_mono (hT c hc) (by simp [hx_rt, hcq]) (fun _ => rfl) (fun _ => rfl) key
theorem hx_rt_g {L : List Nat} {h : hx_h} {q t t0 : Nat} (g : hx_g L h q t0) : hx_g L (hx_rt h q t) q t := ⟨g.1, by simp [hx_rt]⟩
theorem hx_rt_o {L : List Nat} {h : hx_h} {q t a u : Nat} (g : hx_g L h a u) (n : a ≠ q) : hx_g L (hx_rt h q t) a u := ⟨g.1, by simp [hx_rt, n]; exact g.2⟩
def hx_X (L : List Nat) (q : Nat) : List Nat := L.filter (fun b => decide (b ≠ q))
theorem hx_X_m {L : List Nat} {q a : Nat} : a ∈ hx_X L q ↔ a ∈ L ∧ a ≠ q := by simp [hx_X]
theorem hx_gX {L : List Nat} {h : hx_h} {a t q : Nat} (g : hx_g L h a t) (n : a ≠ q) : hx_g (hx_X L q) h a t := ⟨hx_X_m.mpr ⟨g.1, n⟩, g.2⟩
theorem hx_SX_rf {tb : List hx_d} {M : hx_m} {L : List Nat} {h : hx_h} {x : Nat} : hx_S tb M (hx_X L x) h L h := ⟨fun _ ha => ⟨(hx_X_m.mp ha).1, rfl⟩, fun _ _ _ _ => ⟨rfl, rfl⟩⟩
theorem hx_SX_rt {tb : List hx_d} {M : hx_m} {L L1 : List Nat} {h h1 : hx_h} {x t : Nat} (hM : hx_S tb M (hx_X L x) h L1 h1) : hx_S tb M (hx_X L x) h L1 (hx_rt h1 x t) := by
  refine ⟨fun a ha => ⟨(hM.1 a ha).1, ?_⟩, fun a ha k hk => hM.2 a ha k hk⟩
  have n := (hx_X_m.mp ha).2
  simp only [hx_rt, n, if_false]
  exact (hM.1 a ha).2
theorem hx_S.trX {tb : List hx_d} {M : hx_m} {L Lc L1 : List Nat} {h hc h1 : hx_h} {q : Nat} (a : hx_S tb M L h Lc hc) (b : hx_S tb M (hx_X Lc q) hc L1 h1) (nq : ∀ a ∈ L, a ≠ q) : hx_S tb M L h L1 h1 := by
  refine ⟨fun x hx => ?_, fun x hx k hk => ?_⟩
  · obtain ⟨u1, u2⟩ := a.1 x hx
    obtain ⟨v1, v2⟩ := b.1 x (hx_X_m.mpr ⟨u1, nq x hx⟩)
    exact ⟨v1, v2.trans u2⟩
  · obtain ⟨u1, u2⟩ := a.1 x hx
    obtain ⟨x1, x2⟩ := a.2 x hx k hk
    obtain ⟨y1, y2⟩ := b.2 x (hx_X_m.mpr ⟨u1, nq x hx⟩) k (by rw [u2]; exact hk)
    exact ⟨y1.trans x1, y2.trans x2⟩
theorem hx_S.all {tb : List hx_d} {M : hx_m} {L L1 : List Nat} {h h1 : hx_h} {a t : Nat} (hs : hx_S tb M L h L1 h1) (g : hx_g L h a t) (hk : M.any (fun q => q.1 == t) = false) (j : Nat) : h1.2.1 a j = h.2.1 a j ∧ h1.2.2 a j = h.2.2 a j := by
  refine hs.2 a g.1 j ?_
  rw [g.2]
  have hn : ∀ k, (t, k) ∉ M := fun k hm => by
    have := List.any_eq_false.mp hk _ hm
    simp at this
  split
  · exact hn 0
  · exact hn j
theorem hx_oi {L : List Nat} {h : hx_h} {b : Int × Int} {i x : Int32} {r : Option Nat} (e : i = x) (hb : b.1 ≤ x.toInt ∧ x.toInt ≤ b.2) : hx_o L h (.inl b) i r := by
  subst e; exact hb
theorem hx_or {L : List Nat} {h : hx_h} {b : Bool × List Nat} {i : Int32} {r : Option Nat} {q t : Nat} (e : r = some q) (g : hx_g L h q t) (ht : t ∈ b.2) : hx_o L h (.inr b) i r := by
  subst e
  exact ⟨fun _ => nofun, fun q1 hq => by cases hq; exact ⟨g.1, by rw [g.2]; exact ht⟩⟩
theorem hx_on {L : List Nat} {h : hx_h} {tt : List Nat} {i : Int32} {r : Option Nat} (e : r = none) : hx_o L h (.inr (false, tt)) i r := by
  subst e
  exact ⟨nofun, nofun⟩
def hx_F (P : Nat → hx_f → Prop) : List hx_f → Nat → Prop
  | [], _ => True
  | f :: r, k => P k f ∧ hx_F P r (k + 1)
theorem hx_F_get {P : Nat → hx_f → Prop} : ∀ (fs : List hx_f) (k0 : Nat), hx_F P fs k0 → ∀ k f, fs[k]? = some f → P (k0 + k) f := by
  intro fs
  induction fs with
  | nil => intro k0 _ k f h; simp at h
  | cons g r ih =>
    intro k0 h k f hk
    cases k with
    | zero => simp at hk; subst hk; exact h.1
    | succ k =>
      have := ih (k0 + 1) h.2 k f (by simpa using hk)
      have e : k0 + 1 + k = k0 + (k + 1) := by omega
      rw [← e]; exact this
theorem hx_F_all {L : List Nat} {h : hx_h} {q : Nat} {fs : List hx_f} (hF : hx_F (fun k f => hx_o L h f (h.2.1 q k) (h.2.2 q k)) fs 0) : ∀ k f, fs[k]? = some f → hx_o L h f (h.2.1 q k) (h.2.2 q k) := fun k f hk => by
  have := hx_F_get fs 0 hF k f hk
  simpa using this
theorem hx_T_full {tb : List hx_d} {L : List Nat} {h h1 : hx_h} {t t0 n : Nat} (hT : hx_T tb L h) (hs : hx_S tb [(t, 0)] L h L h1) (hd : tb[t]? = some (.inr (t0, n, .inl (-2147483648, 2147483647)))) : hx_T tb L h1 := by
  intro c hc
  have ht := (hs.1 c hc).2
  by_cases hct : h.1 c = t
  · unfold hx_c
    rw [ht, hct, hd]
    intro k _
    exact i32_r _
  · have hn : ∀ k, (match tb[h.1 c]? with | some (.inr _) => (h.1 c, 0) ∉ [(t, 0)] | _ => (h.1 c, k) ∉ [(t, 0)]) := fun k => by
      split <;> simp [hct]
    refine hx_c_mono (hT c hc) ht (fun k => (hs.2 c hc k (hn k)).1) (fun k => (hs.2 c hc k (hn k)).2) (fun f d _ _ q b _ h1 h2 => ⟨h1, ?_⟩)
    rw [(hs.1 q h1).2]; exact h2
section HXL
variable {p : Program} {l : Launch} {e : Env} {R : Room} {s : State} {m : MethodId} {args : Array Value} {below : List Frame} {meth : Method} {c : Code} {H : Heap} {locs : List Loc} {cells slots : Nat} {Q : State → Prop}
variable {cc : ByteArray} {pc : Nat} {ls : Array Slot} {rest st0 : List Value} {D : va_G} {cl : List vw_C} {A : Nat → Prop} {a : Nat} {tys : hx_y} {H0 : Heap} {tb : List hx_d} {L : List Nat} {h : hx_h}
/-- a new array of longs -/
theorem hk_newL (hx : p.tables.exec = Jvm.exec) (hb : c.code = cc) {Ts : List Cond} (hts : ∀ w ∈ Ts, w.before args s = true) (hW : hx_W tb tys D cl A H0 L h s H locs) (t : Nat) {t0 n0 : Nat} (hd : tb[t]? = some (.inr (t0, n0, .lng))) (harr : Cond.arrayClass .long ∈ Ts) {cA : ClassId} (ht : tys[t0]? = some (cA, .long)) {i : Int32} (hi : i.toInt = n0) (hbytes : n0 * componentBytes .long ≤ 536870912) (hcells : cells + 1 ≤ R.cells) (hslots : slots + n0 ≤ R.slots) (hdg : decode cc pc = .ok (.newarray .long, 2))
    (kk : ∀ (q : Nat) (H1 : Heap) (h1 : hx_h), h1 = hx_nw h q t → q ∉ L → hx_W tb tys D cl A H0 (L ++ [q]) h1 s H1 locs → hx_S tb [] L h (L ++ [q]) h1 → hx_g (L ++ [q]) h1 q t → W p l e R s m args below meth c H1 locs (cells + 1) (slots + n0) Q (F0 m (pc + 2) ls (.ref q :: rest))) : W p l e R s m args below meth c H locs cells slots Q (F0 m pc ls (.int i :: rest)) := by
  obtain ⟨hK, hP, hD, hS, hA⟩ := hW
  have hneg : ¬ i < 0 := by rw [Int32.lt_iff_toInt_lt, hi]; simp
  have hcl : i.toNatClampNeg = n0 := by unfold Int32.toNatClampNeg; rw [hi]; simp
  refine va_newa (atype := .long) (ty := .long) (a0 := (n0, .inr (.inl (fun _ => 0)))) hx hb (hts _ harr) rfl hK hP hD hS hA (fun c1 => rfl) hneg hcl hbytes hcells hslots hdg (fun q c1 H1 hK2 hP2 hD2 hS2 => ?_)
  have hq := hx_fresh hD2
  have hc1 : c1 = cA := by
    have h1 := (hK2.2 tys.length (c1, .long) (by simp)).2
    have h2 := (hK.2 t0 (cA, .long) ht).2
    have hra : ∀ c1 : ClassId, va_RA s c1 .long ↔ s.vm.findClass ("[" ++ FieldType.long.toString) = some c1 := fun _ => Iff.rfl
    exact Option.some.inj (((hra c1).mp h1).symm.trans ((hra cA).mp h2))
  subst hc1
  have hcA : hx_t tys t0 = c1 := by simp [hx_t, ht]
  have he : hx_e tb tys (hx_nw h q t) q = .inl (c1, n0, .inr (.inl (fun _ => 0))) := by
    rw [hx_e_arr (h := hx_nw h q t) (t := t) (by simp [hx_nw]) hd, hcA]
    have e0 : hx_L 0 0 = 0 := by decide
    simp only [hx_a, hx_nw, if_true, e0]
  rw [hx_push hq he] at hP2 hD2
  exact kk q H1 _ rfl hq ⟨hK, hP2, hD2, hS2, hA⟩ (hx_nw_S hq) hx_nw_g
theorem hx_lald (hx : p.tables.exec = Jvm.exec) (hb : c.code = cc) (hW : hx_W tb tys D cl A H0 L h s H locs) {t : Nat} (g : hx_g L h a t) {t0 n : Nat} (hd : tb[t]? = some (.inr (t0, n, .lng))) {cA : ClassId} (ht : tys[t0]? = some (cA, .long)) {i : Int32} (hin : 0 ≤ i.toInt ∧ i.toInt < n) (hdg : decode cc pc = .ok (.laload, 1))
    (kk : ∀ v : Int64, W p l e R s m args below meth c H locs cells slots Q (F0 m (pc + 1) ls (.long v :: rest))) : W p l e R s m args below meth c H locs cells slots Q (F0 m pc ls (.int i :: .ref a :: rest)) := by
  obtain ⟨k0, hk0⟩ := hx_at (tb := tb) (tys := tys) (h := h) g.1
  rw [hx_e_arr g.2 hd] at hk0
  have hcA : hx_t tys t0 = cA := by simp [hx_t, ht]
  rw [hcA] at hk0
  have hin2 : vp_in i n := vp_in_iff.mpr hin
  obtain ⟨hK, hP, hD, hS, hA⟩ := hW
  exact va_lald hx hb hK hP k0 t0 hk0 ht hin2 hdg (kk _)
theorem hx_last (hx : p.tables.exec = Jvm.exec) (hb : c.code = cc) (hW : hx_W tb tys D cl A H0 L h s H locs) (hT : hx_T tb L h) {t : Nat} (g : hx_g L h a t) {t0 n : Nat} (hd : tb[t]? = some (.inr (t0, n, .lng))) {cA : ClassId} (ht : tys[t0]? = some (cA, .long)) {i : Int32} {x : Int64} (hin : 0 ≤ i.toInt ∧ i.toInt < n) (hdg : decode cc pc = .ok (.lastore, 1))
    (kk : ∀ (H1 : Heap) (locs1 : List Loc) (h1 : hx_h), hx_W tb tys D cl A H0 L h1 s H1 locs1 → hx_T tb L h1 → hx_S tb [(t, 0)] L h L h1 → W p l e R s m args below meth c H1 locs1 cells slots Q (F0 m (pc + 1) ls rest)) : W p l e R s m args below meth c H locs cells slots Q (F0 m pc ls (.long x :: .int i :: .ref a :: rest)) := by
  obtain ⟨k0, hk0⟩ := hx_at (tb := tb) (tys := tys) (h := h) g.1
  have hk1 := hk0
  rw [hx_e_arr g.2 hd] at hk0
  have hcA : hx_t tys t0 = cA := by simp [hx_t, ht]
  rw [hcA] at hk0
  have hin2 : vp_in i n := vp_in_iff.mpr hin
  obtain ⟨hK, hP, hD, hS, hA⟩ := hW
  refine va_last hx hb hK hP hD hS k0 t0 hk0 ht hin2 hdg (fun H1 locs1 hP2 hD2 hS2 => ?_)
  obtain ⟨v1, v2, hv⟩ := hx_L_ex x
  let h1 : hx_h := hx_pi (hx_pi h a (2 * i.toNatClampNeg) v1) a (2 * i.toNatClampNeg + 1) v2
  have g1 : hx_g L (hx_pi h a (2 * i.toNatClampNeg) v1) a t := g
  have he : hx_e tb tys h1 a = .inl (cA, n, .inr (.inl (vp_updL (fun j => hx_L (h.2.1 a (2 * j)) (h.2.1 a (2 * j + 1))) i.toNatClampNeg x))) := by
    rw [hx_e_arr (h := h1) (t := t) g.2 hd, hcA]
    show Sum.inl (cA, n, _) = _
    congr 5
    funext j
    show hx_L ((hx_pi (hx_pi h a (2 * i.toNatClampNeg) v1) a (2 * i.toNatClampNeg + 1) v2).2.1 a (2 * j)) ((hx_pi (hx_pi h a (2 * i.toNatClampNeg) v1) a (2 * i.toNatClampNeg + 1) v2).2.1 a (2 * j + 1)) = _
    by_cases hj : j = i.toNatClampNeg
    · subst hj
      rw [hx_pi_ne (k := 2 * i.toNatClampNeg + 1) _ _ (fun z => absurd z.2 (by omega)), hx_pi_at, hx_pi_at, hv]
      simp [vp_updL]
    · rw [hx_pi_ne _ _ (fun z => hj (by have := z.2; omega)), hx_pi_ne _ _ (fun z => hj (by have := z.2; omega)), hx_pi_ne _ _ (fun z => hj (by have := z.2; omega)), hx_pi_ne _ _ (fun z => hj (by have := z.2; omega))]
      simp [vp_updL, hj]
  rw [hx_set (h1 := h1) hD g.1 hk1 he (fun b hb => (hx_e_pi hb).trans (hx_e_pi hb))] at hP2 hD2
  refine kk H1 locs1 h1 ⟨hK, hP2, hD2, hS2, hA⟩ ?_ ?_
  · refine hx_T.pi (hx_T.pi hT g hd (fun f hf r _ => ?_)) g1 hd (fun f hf r _ => ?_)
    · subst hf; trivial
    · subst hf; trivial
  · exact (hx_S.rf.pi g (by rw [hd]; exact List.mem_singleton.mpr rfl)).pi g1 (by rw [hd]; exact List.mem_singleton.mpr rfl)
theorem lv_lcmp (hx : p.tables.exec = Jvm.exec) (hb : c.code = cc) {x y : Int64} (hdg : decode cc pc = .ok (.lcmp, 1)) (kk : ∀ v : Int32, W p l e R s m args below meth c H locs cells slots Q (F0 m (pc + 1) ls (.int v :: rest))) : W p l e R s m args below meth c H locs cells slots Q (F0 m pc ls (.long y :: .long x :: rest)) := W.lcmp hx hb hdg (kk _)
end HXL
