/-! ROWS over the tagged heap where what is read is known (no types needed); a change tells its step 'hs' -/
section HKR
variable {p : Program} {l : Launch} {e : Env} {R : Room} {s : State} {m : MethodId} {args : Array Value} {below : List Frame} {meth : Method} {c : Code} {H : Heap} {locs : List Loc} {cells slots : Nat} {Q : State → Prop}
variable {cc : ByteArray} {pc : Nat} {ls : Array Slot} {rest : List Value} {D : va_G} {cl : List vw_C} {A : Nat → Prop} {a : Nat} {tys : hx_y} {H0 : Heap} {tb : List hx_d} {L : List Nat} {h : hx_h}
theorem hk_geti (hx : p.tables.exec = Jvm.exec) (hb : c.code = cc) {own C : String} {T : u_T} {N ci index : Nat} {Ts : List Cond} {ty0 : Nat → FieldType} (hts : ∀ w ∈ Ts, w.before args s = true) (hC : hx_C Ts cl ci C T N ty0) (hown : s.vm.findClass own = some m.cls) (hW : hx_W tb tys D cl A H0 L h s H locs) {t : Nat} (g : hx_g L h a t) {fs : List hx_f} (hd : tb[t]? = some (.inl (ci, fs))) (k : Nat) (hk : k < N) {b : Int × Int} (hf : fs[k]? = some (.inl b)) {ref nm ds : String} (hlink : Cond.fieldLink own index ref nm ds ∈ Ts) (hsame : (T k).1 = ref ∧ (T k).2.1 = nm ∧ (T k).2.2.1 = ds) {v : Int32} (hv : h.2.1 a k = v) (hdg : decode cc pc = .ok (.getfield index, 3))
    (kk : W p l e R s m args below meth c H locs cells slots Q (F0 m (pc + 3) ls (.int v :: rest))) : W p l e R s m args below meth c H locs cells slots Q (F0 m pc ls (.ref a :: rest)) := by
  obtain ⟨k0, hk0⟩ := hx_at (tb := tb) (tys := tys) (h := h) g.1
  rw [hx_e_obj g.2 hd] at hk0
  obtain ⟨rfl, rfl, rfl⟩ := hsame
  subst hv
  exact va_get (v := .int (h.2.1 a k)) hx hb hts hC.2.1 hown hW.1 hW.2.1 k0 hk0 hC.1 k hk (hts _ hlink) (fun _ h9 => h9) (hx_fs_get hf) hdg kk
theorem hk_getq (hx : p.tables.exec = Jvm.exec) (hb : c.code = cc) {own C : String} {T : u_T} {N ci index : Nat} {Ts : List Cond} {ty0 : Nat → FieldType} (hts : ∀ w ∈ Ts, w.before args s = true) (hC : hx_C Ts cl ci C T N ty0) (hown : s.vm.findClass own = some m.cls) (hW : hx_W tb tys D cl A H0 L h s H locs) {t : Nat} (g : hx_g L h a t) {fs : List hx_f} (hd : tb[t]? = some (.inl (ci, fs))) (k : Nat) (hk : k < N) {b : Bool × List Nat} (hf : fs[k]? = some (.inr b)) {ref nm ds : String} (hlink : Cond.fieldLink own index ref nm ds ∈ Ts) (hsame : (T k).1 = ref ∧ (T k).2.1 = nm ∧ (T k).2.2.1 = ds) {r : Option Nat} (hv : h.2.2 a k = r) (hdg : decode cc pc = .ok (.getfield index, 3))
    (kk : W p l e R s m args below meth c H locs cells slots Q (F0 m (pc + 3) ls (va_rf r :: rest))) : W p l e R s m args below meth c H locs cells slots Q (F0 m pc ls (.ref a :: rest)) := by
  obtain ⟨k0, hk0⟩ := hx_at (tb := tb) (tys := tys) (h := h) g.1
  rw [hx_e_obj g.2 hd] at hk0
  obtain ⟨rfl, rfl, rfl⟩ := hsame
  subst hv
  exact va_get (v := va_rf (h.2.2 a k)) hx hb hts hC.2.1 hown hW.1 hW.2.1 k0 hk0 hC.1 k hk (hts _ hlink) (fun _ h9 => h9) (hx_fs_get hf) hdg kk
theorem hk_getr (hx : p.tables.exec = Jvm.exec) (hb : c.code = cc) {own C : String} {T : u_T} {N ci index : Nat} {Ts : List Cond} {ty0 : Nat → FieldType} (hts : ∀ w ∈ Ts, w.before args s = true) (hC : hx_C Ts cl ci C T N ty0) (hown : s.vm.findClass own = some m.cls) (hW : hx_W tb tys D cl A H0 L h s H locs) {t : Nat} (g : hx_g L h a t) {fs : List hx_f} (hd : tb[t]? = some (.inl (ci, fs))) (k : Nat) (hk : k < N) {b : Bool × List Nat} (hf : fs[k]? = some (.inr b)) {ref nm ds : String} (hlink : Cond.fieldLink own index ref nm ds ∈ Ts) (hsame : (T k).1 = ref ∧ (T k).2.1 = nm ∧ (T k).2.2.1 = ds) {q : Nat} (hv : h.2.2 a k = some q) (hdg : decode cc pc = .ok (.getfield index, 3))
    (kk : W p l e R s m args below meth c H locs cells slots Q (F0 m (pc + 3) ls (.ref q :: rest))) : W p l e R s m args below meth c H locs cells slots Q (F0 m pc ls (.ref a :: rest)) :=
  hk_getq hx hb hts hC hown hW g hd k hk hf hlink hsame hv hdg kk
/-- a cell that is new: its tag, nothing in it -/
def hx_nw (h : hx_h) (q t : Nat) : hx_h := (fun b => if b = q then t else h.1 b, fun b j => if b = q then 0 else h.2.1 b j, fun b j => if b = q then none else h.2.2 b j)
theorem hx_nw_S {q t : Nat} (hq : q ∉ L) : hx_S tb [] L h (L ++ [q]) (hx_nw h q t) := by
  refine ⟨fun b hb => ⟨List.mem_append_left _ hb, ?_⟩, fun b hb k _ => ⟨?_, ?_⟩⟩ <;>
    (have hbq : b ≠ q := fun z => hq (z ▸ hb)
     simp [hx_nw, hbq])
theorem hx_nw_g {q t : Nat} : hx_g (L ++ [q]) (hx_nw h q t) q t := ⟨by simp, by simp [hx_nw]⟩
theorem hx_nw_i {q t j : Nat} : (hx_nw h q t).2.1 q j = 0 := by simp [hx_nw]
theorem hx_nw_r {q t j : Nat} : (hx_nw h q t).2.2 q j = none := by simp [hx_nw]
theorem hx_push {q t : Nat} {e : va_E} (hq : q ∉ L) (he : hx_e tb tys (hx_nw h q t) q = e) : hx_p tb tys L h ++ [(q, e)] = hx_p tb tys (L ++ [q]) (hx_nw h q t) := by
  refine (va_pl_push hq).trans ?_
  refine va_pl_congr (fun b => ?_)
  by_cases hb : b = q
  · subst hb
    rw [va_up_self, he]
  · rw [va_up_ne _ _ hb]
    simp [hx_e, hx_fs, hx_a, hx_nw, hb]
def hx_df (fs : List hx_f) : List Value := (List.range fs.length).map (fun k => hx_v (fs.getD k (.inl (0, 0))) 0 none)
theorem hx_df_eq {fs : List hx_f} {q t : Nat} : hx_fs fs (hx_nw h q t) q = hx_df fs := by
  unfold hx_fs hx_df
  refine List.map_congr_left (fun k _ => ?_)
  rw [hx_nw_i, hx_nw_r]
theorem hx_df_get {fs : List hx_f} {j : Nat} (hj : j < fs.length) : (hx_df fs)[j]? = some (hx_v (fs.getD j (.inl (0, 0))) 0 none) := by
  simp [hx_df, List.getElem?_range hj]
theorem hx_fresh {A : Nat → Prop} {q : Nat} {e : va_E} (hD : va_D A (hx_p tb tys L h ++ [(q, e)])) : q ∉ L := by
  intro hq
  obtain ⟨k, hk⟩ := hx_at (tb := tb) (tys := tys) (h := h) hq
  have hl := (List.getElem?_eq_some_iff.mp hk).1
  have h1 : (hx_p tb tys L h ++ [(q, e)])[k]? = some (q, hx_e tb tys h q) := by rw [List.getElem?_append_left hl]; exact hk
  have h2 : (hx_p tb tys L h ++ [(q, e)])[(hx_p tb tys L h).length]? = some (q, e) := by simp
  have := hD.1 _ _ _ _ h1 h2 rfl
  omega
theorem hk_new (hx : p.tables.exec = Jvm.exec) (hb : c.code = cc) {own C : String} {T : u_T} {N ci index : Nat} {Ts : List Cond} {ty0 : Nat → FieldType} (hts : ∀ w ∈ Ts, w.before args s = true) (hC : hx_C Ts cl ci C T N ty0) (hown : s.vm.findClass own = some m.cls) (hW : hx_W tb tys D cl A H0 L h s H locs) (t : Nat) {fs : List hx_f} (hd : tb[t]? = some (.inl (ci, fs))) (hN : fs.length = N) (hfs : ∀ j, j < N → defaultValue (ty0 j) = hx_v (fs.getD j (.inl (0, 0))) 0 none) (hcl : Cond.classLink own index C ∈ Ts) (hinst : Cond.instantiable C N ∈ Ts) (hini : Cond.initialized C ∈ Ts) (hcells : cells + 1 ≤ R.cells) (hslots : slots + N ≤ R.slots) (hdg : decode cc pc = .ok (.new index, 3))
    (kk : ∀ (q : Nat) (H1 : Heap) (h1 : hx_h), h1 = hx_nw h q t → q ∉ L → hx_W tb tys D cl A H0 (L ++ [q]) h1 s H1 locs → hx_S tb [] L h (L ++ [q]) h1 → hx_g (L ++ [q]) h1 q t → W p l e R s m args below meth c H1 locs (cells + 1) (slots + N) Q (F0 m (pc + 3) ls (.ref q :: rest))) : W p l e R s m args below meth c H locs cells slots Q (F0 m pc ls rest) := by
  obtain ⟨hK, hP, hD, hS, hA⟩ := hW
  refine va_new (fs := hx_df fs) hx hb hts hC.2.1 ty0 hC.2.2.1 hown (hts _ hcl) (hts _ hinst) (hts _ hini) hK hP hD hS hA hC.1 (fun j hj => ?_) hcells hslots hdg (fun q H1 hP2 hD2 hS2 => ?_)
  · rw [hfs j hj]
    simp only [vp_V, List.getD]
    rw [hx_df_get (by rw [hN]; exact hj)]
    simp [List.getD]
  · have hq := hx_fresh hD2
    have he : hx_e tb tys (hx_nw h q t) q = .inr (ci, hx_df fs) := by
      rw [hx_e_obj (h := hx_nw h q t) (t := t) (by simp [hx_nw]) hd, hx_df_eq]
    rw [hx_push hq he] at hP2 hD2
    exact kk q H1 _ rfl hq ⟨hK, hP2, hD2, hS2, hA⟩ (hx_nw_S hq) hx_nw_g
theorem hk_newa (hx : p.tables.exec = Jvm.exec) (hb : c.code = cc) {Ts : List Cond} (hts : ∀ w ∈ Ts, w.before args s = true) (hW : hx_W tb tys D cl A H0 L h s H locs) (t : Nat) {t0 n : Nat} {b : Int × Int} (hd : tb[t]? = some (.inr (t0, n, .inl b))) {atype : ArrayType} {ty : FieldType} (hty : newarray.typeOf atype = ty) (harr : Cond.arrayClass ty ∈ Ts) {cA : ClassId} (ht : tys[t0]? = some (cA, ty)) (hra : ∀ c1 : ClassId, va_RA s c1 ty ↔ s.vm.findClass ("[" ++ ty.toString) = some c1) (hdv : defaultValue ty = .int 0) {i : Int32} (hi : i.toInt = n) (hbytes : n * componentBytes ty ≤ 536870912) (hcells : cells + 1 ≤ R.cells) (hslots : slots + n ≤ R.slots) (hdg : decode cc pc = .ok (.newarray atype, 2))
    (kk : ∀ (q : Nat) (H1 : Heap) (h1 : hx_h), h1 = hx_nw h q t → q ∉ L → hx_W tb tys D cl A H0 (L ++ [q]) h1 s H1 locs → hx_S tb [] L h (L ++ [q]) h1 → hx_g (L ++ [q]) h1 q t → W p l e R s m args below meth c H1 locs (cells + 1) (slots + n) Q (F0 m (pc + 2) ls (.ref q :: rest))) : W p l e R s m args below meth c H locs cells slots Q (F0 m pc ls (.int i :: rest)) := by
  obtain ⟨hK, hP, hD, hS, hA⟩ := hW
  have hneg : ¬ i < 0 := by rw [Int32.lt_iff_toInt_lt, hi]; simp
  have hcl : i.toNatClampNeg = n := by unfold Int32.toNatClampNeg; rw [hi]; simp
  refine va_newa (a0 := (n, .inl (fun _ => 0))) hx hb (by rw [hty]; exact hts _ harr) hty hK hP hD hS hA (fun c1 => ?_) hneg hcl hbytes hcells hslots hdg (fun q c1 H1 hK2 hP2 hD2 hS2 => ?_)
  · rw [hdv]; rfl
  · have hq := hx_fresh hD2
    have hc1 : c1 = cA := by
      have h1 := (hK2.2 tys.length (c1, ty) (by simp)).2
      have h2 := (hK.2 t0 (cA, ty) ht).2
      have e1 := (hra c1).mp h1
      have e2 := (hra cA).mp h2
      exact Option.some.inj (e1.symm.trans e2)
    subst hc1
    have hcA : hx_t tys t0 = c1 := by simp [hx_t, ht]
    have he : hx_e tb tys (hx_nw h q t) q = .inl (c1, n, .inl (fun _ => 0)) := by
      rw [hx_e_arr (h := hx_nw h q t) (t := t) (by simp [hx_nw]) hd, hcA]
      simp only [hx_a, hx_nw, if_true]
    rw [hx_push hq he] at hP2 hD2
    exact kk q H1 _ rfl hq ⟨hK, hP2, hD2, hS2, hA⟩ (hx_nw_S hq) hx_nw_g
end HKR
/-! branches told in whole numbers -/
section HKB
variable {p : Program} {l : Launch} {e : Env} {R : Room} {s : State} {m : MethodId} {args : Array Value} {below : List Frame} {meth : Method} {c : Code} {H : Heap} {locs : List Loc} {cells slots : Nat} {Q : State → Prop}
variable {cc : ByteArray} {pc : Nat} {ls : Array Slot} {rest : List Value}
theorem hb_icmp_lt (hx : p.tables.exec = Jvm.exec) (hb : c.code = cc) {x y : Int32} {zx zy : Int} (ex : x.toInt = zx) (ey : y.toInt = zy) {off : Int} {tgt : Nat} (hdg : decode cc pc = .ok (.if_icmp .lt off, 3)) (ht : (pc : Int) + off = (tgt : Int))
    (kt : zx < zy → W p l e R s m args below meth c H locs cells slots Q (F0 m tgt ls rest)) (kf : zy ≤ zx → W p l e R s m args below meth c H locs cells slots Q (F0 m (pc + 3) ls rest)) : W p l e R s m args below meth c H locs cells slots Q (F0 m pc ls (.int y :: .int x :: rest)) := by
  subst ex; subst ey
  refine lv_icmp_lt hx hb hdg ht (fun q => kt ?_) (fun q => kf ?_)
  · exact Int32.lt_iff_toInt_lt.mp q
  · exact Int.not_lt.mp (fun z => q (Int32.lt_iff_toInt_lt.mpr z))
theorem hb_if_lt (hx : p.tables.exec = Jvm.exec) (hb : c.code = cc) {x : Int32} {zx : Int} (ex : x.toInt = zx) {off : Int} {tgt : Nat} (hdg : decode cc pc = .ok (.ifCond .lt off, 3)) (ht : (pc : Int) + off = (tgt : Int))
    (kt : zx < 0 → W p l e R s m args below meth c H locs cells slots Q (F0 m tgt ls rest)) (kf : 0 ≤ zx → W p l e R s m args below meth c H locs cells slots Q (F0 m (pc + 3) ls rest)) : W p l e R s m args below meth c H locs cells slots Q (F0 m pc ls (.int x :: rest)) := by
  subst ex
  refine lv_if_lt hx hb hdg ht (fun q => kt ?_) (fun q => kf ?_)
  · exact Int32.lt_iff_toInt_lt.mp q
  · exact Int.not_lt.mp (fun z => q (Int32.lt_iff_toInt_lt.mpr z))
theorem hb_icmp_ge (hx : p.tables.exec = Jvm.exec) (hb : c.code = cc) {x y : Int32} {zx zy : Int} (ex : x.toInt = zx) (ey : y.toInt = zy) {off : Int} {tgt : Nat} (hdg : decode cc pc = .ok (.if_icmp .ge off, 3)) (ht : (pc : Int) + off = (tgt : Int))
    (kt : zy ≤ zx → W p l e R s m args below meth c H locs cells slots Q (F0 m tgt ls rest)) (kf : zx < zy → W p l e R s m args below meth c H locs cells slots Q (F0 m (pc + 3) ls rest)) : W p l e R s m args below meth c H locs cells slots Q (F0 m pc ls (.int y :: .int x :: rest)) := by
  subst ex; subst ey
  refine lv_icmp_ge hx hb hdg ht (fun q => kt ?_) (fun q => kf ?_)
  · exact Int32.le_iff_toInt_le.mp q
  · exact Int.not_le.mp (fun z => q (Int32.le_iff_toInt_le.mpr z))
theorem hb_if_ge (hx : p.tables.exec = Jvm.exec) (hb : c.code = cc) {x : Int32} {zx : Int} (ex : x.toInt = zx) {off : Int} {tgt : Nat} (hdg : decode cc pc = .ok (.ifCond .ge off, 3)) (ht : (pc : Int) + off = (tgt : Int))
    (kt : 0 ≤ zx → W p l e R s m args below meth c H locs cells slots Q (F0 m tgt ls rest)) (kf : zx < 0 → W p l e R s m args below meth c H locs cells slots Q (F0 m (pc + 3) ls rest)) : W p l e R s m args below meth c H locs cells slots Q (F0 m pc ls (.int x :: rest)) := by
  subst ex
  refine lv_if_ge hx hb hdg ht (fun q => kt ?_) (fun q => kf ?_)
  · exact Int32.le_iff_toInt_le.mp q
  · exact Int.not_le.mp (fun z => q (Int32.le_iff_toInt_le.mpr z))
theorem hb_icmp_gt (hx : p.tables.exec = Jvm.exec) (hb : c.code = cc) {x y : Int32} {zx zy : Int} (ex : x.toInt = zx) (ey : y.toInt = zy) {off : Int} {tgt : Nat} (hdg : decode cc pc = .ok (.if_icmp .gt off, 3)) (ht : (pc : Int) + off = (tgt : Int))
    (kt : zy < zx → W p l e R s m args below meth c H locs cells slots Q (F0 m tgt ls rest)) (kf : zx ≤ zy → W p l e R s m args below meth c H locs cells slots Q (F0 m (pc + 3) ls rest)) : W p l e R s m args below meth c H locs cells slots Q (F0 m pc ls (.int y :: .int x :: rest)) := by
  subst ex; subst ey
  refine lv_icmp_gt hx hb hdg ht (fun q => kt ?_) (fun q => kf ?_)
  · exact Int32.lt_iff_toInt_lt.mp q
  · exact Int.not_lt.mp (fun z => q (Int32.lt_iff_toInt_lt.mpr z))
theorem hb_if_gt (hx : p.tables.exec = Jvm.exec) (hb : c.code = cc) {x : Int32} {zx : Int} (ex : x.toInt = zx) {off : Int} {tgt : Nat} (hdg : decode cc pc = .ok (.ifCond .gt off, 3)) (ht : (pc : Int) + off = (tgt : Int))
    (kt : 0 < zx → W p l e R s m args below meth c H locs cells slots Q (F0 m tgt ls rest)) (kf : zx ≤ 0 → W p l e R s m args below meth c H locs cells slots Q (F0 m (pc + 3) ls rest)) : W p l e R s m args below meth c H locs cells slots Q (F0 m pc ls (.int x :: rest)) := by
  subst ex
  refine lv_if_gt hx hb hdg ht (fun q => kt ?_) (fun q => kf ?_)
  · exact Int32.lt_iff_toInt_lt.mp q
  · exact Int.not_lt.mp (fun z => q (Int32.lt_iff_toInt_lt.mpr z))
theorem hb_icmp_le (hx : p.tables.exec = Jvm.exec) (hb : c.code = cc) {x y : Int32} {zx zy : Int} (ex : x.toInt = zx) (ey : y.toInt = zy) {off : Int} {tgt : Nat} (hdg : decode cc pc = .ok (.if_icmp .le off, 3)) (ht : (pc : Int) + off = (tgt : Int))
    (kt : zx ≤ zy → W p l e R s m args below meth c H locs cells slots Q (F0 m tgt ls rest)) (kf : zy < zx → W p l e R s m args below meth c H locs cells slots Q (F0 m (pc + 3) ls rest)) : W p l e R s m args below meth c H locs cells slots Q (F0 m pc ls (.int y :: .int x :: rest)) := by
  subst ex; subst ey
  refine lv_icmp_le hx hb hdg ht (fun q => kt ?_) (fun q => kf ?_)
  · exact Int32.le_iff_toInt_le.mp q
  · exact Int.not_le.mp (fun z => q (Int32.le_iff_toInt_le.mpr z))
theorem hb_if_le (hx : p.tables.exec = Jvm.exec) (hb : c.code = cc) {x : Int32} {zx : Int} (ex : x.toInt = zx) {off : Int} {tgt : Nat} (hdg : decode cc pc = .ok (.ifCond .le off, 3)) (ht : (pc : Int) + off = (tgt : Int))
    (kt : zx ≤ 0 → W p l e R s m args below meth c H locs cells slots Q (F0 m tgt ls rest)) (kf : 0 < zx → W p l e R s m args below meth c H locs cells slots Q (F0 m (pc + 3) ls rest)) : W p l e R s m args below meth c H locs cells slots Q (F0 m pc ls (.int x :: rest)) := by
  subst ex
  refine lv_if_le hx hb hdg ht (fun q => kt ?_) (fun q => kf ?_)
  · exact Int32.le_iff_toInt_le.mp q
  · exact Int.not_le.mp (fun z => q (Int32.le_iff_toInt_le.mpr z))
theorem hb_icmp_eq (hx : p.tables.exec = Jvm.exec) (hb : c.code = cc) {x y : Int32} {zx zy : Int} (ex : x.toInt = zx) (ey : y.toInt = zy) {off : Int} {tgt : Nat} (hdg : decode cc pc = .ok (.if_icmp .eq off, 3)) (ht : (pc : Int) + off = (tgt : Int))
    (kt : zx = zy → W p l e R s m args below meth c H locs cells slots Q (F0 m tgt ls rest)) (kf : zx ≠ zy → W p l e R s m args below meth c H locs cells slots Q (F0 m (pc + 3) ls rest)) : W p l e R s m args below meth c H locs cells slots Q (F0 m pc ls (.int y :: .int x :: rest)) := by
  subst ex; subst ey
  refine lv_icmp_eq hx hb hdg ht (fun q => kt ?_) (fun q => kf ?_)
  · exact congrArg Int32.toInt q
  · exact fun z => q (Int32.toInt_inj.mp z)
theorem hb_if_eq (hx : p.tables.exec = Jvm.exec) (hb : c.code = cc) {x : Int32} {zx : Int} (ex : x.toInt = zx) {off : Int} {tgt : Nat} (hdg : decode cc pc = .ok (.ifCond .eq off, 3)) (ht : (pc : Int) + off = (tgt : Int))
    (kt : zx = 0 → W p l e R s m args below meth c H locs cells slots Q (F0 m tgt ls rest)) (kf : zx ≠ 0 → W p l e R s m args below meth c H locs cells slots Q (F0 m (pc + 3) ls rest)) : W p l e R s m args below meth c H locs cells slots Q (F0 m pc ls (.int x :: rest)) := by
  subst ex
  refine lv_if_eq hx hb hdg ht (fun q => kt ?_) (fun q => kf ?_)
  · exact congrArg Int32.toInt q
  · exact fun z => q (Int32.toInt_inj.mp z)
theorem hb_icmp_ne (hx : p.tables.exec = Jvm.exec) (hb : c.code = cc) {x y : Int32} {zx zy : Int} (ex : x.toInt = zx) (ey : y.toInt = zy) {off : Int} {tgt : Nat} (hdg : decode cc pc = .ok (.if_icmp .ne off, 3)) (ht : (pc : Int) + off = (tgt : Int))
    (kt : zx ≠ zy → W p l e R s m args below meth c H locs cells slots Q (F0 m tgt ls rest)) (kf : zx = zy → W p l e R s m args below meth c H locs cells slots Q (F0 m (pc + 3) ls rest)) : W p l e R s m args below meth c H locs cells slots Q (F0 m pc ls (.int y :: .int x :: rest)) := by
  subst ex; subst ey
  refine lv_icmp_ne hx hb hdg ht (fun q => kt ?_) (fun q => kf ?_)
  · first | exact fun z => q (Int32.toInt_inj.mp z) | exact congrArg Int32.toInt q
  · first | exact congrArg Int32.toInt q | exact congrArg Int32.toInt (Classical.not_not.mp q) | exact Classical.byContradiction fun z => q fun w => z (congrArg Int32.toInt w)
theorem hb_if_ne (hx : p.tables.exec = Jvm.exec) (hb : c.code = cc) {x : Int32} {zx : Int} (ex : x.toInt = zx) {off : Int} {tgt : Nat} (hdg : decode cc pc = .ok (.ifCond .ne off, 3)) (ht : (pc : Int) + off = (tgt : Int))
    (kt : zx ≠ 0 → W p l e R s m args below meth c H locs cells slots Q (F0 m tgt ls rest)) (kf : zx = 0 → W p l e R s m args below meth c H locs cells slots Q (F0 m (pc + 3) ls rest)) : W p l e R s m args below meth c H locs cells slots Q (F0 m pc ls (.int x :: rest)) := by
  subst ex
  refine lv_if_ne hx hb hdg ht (fun q => kt ?_) (fun q => kf ?_)
  · first | exact fun z => q (Int32.toInt_inj.mp z) | exact congrArg Int32.toInt q
  · first | exact congrArg Int32.toInt q | exact congrArg Int32.toInt (Classical.not_not.mp q) | exact Classical.byContradiction fun z => q fun w => z (congrArg Int32.toInt w)
end HKB
theorem i32_add {x y : Int32} {zx zy : Int} (ex : x.toInt = zx) (ey : y.toInt = zy) (h1 : -2147483648 ≤ zx + zy) (h2 : zx + zy ≤ 2147483647) : (x + y).toInt = zx + zy := by
  subst ex; subst ey
  rw [Int32.toInt_add, Int.bmod_def]
  split <;> omega
theorem i32_sub {x y : Int32} {zx zy : Int} (ex : x.toInt = zx) (ey : y.toInt = zy) (h1 : -2147483648 ≤ zx - zy) (h2 : zx - zy ≤ 2147483647) : (x - y).toInt = zx - zy := by
  subst ex; subst ey
  rw [Int32.toInt_sub, Int.bmod_def]
  split <;> omega
theorem i32_mul {x y : Int32} {zx zy z : Int} (ex : x.toInt = zx) (ey : y.toInt = zy) (hz : zx * zy = z) (h1 : -2147483648 ≤ z) (h2 : z ≤ 2147483647) : (x * y).toInt = z := by
  subst ex; subst ey; subst hz
  rw [Int32.toInt_mul, Int.bmod_def]
  split <;> omega
theorem hx_g.ne {L : List Nat} {h : hx_h} {a b t u : Nat} (g : hx_g L h a t) (k : hx_g L h b u) (n : t ≠ u) : a ≠ b := fun z => n (by rw [← g.2, ← k.2, z])
/-- what an object's reference fields hold: cells of their tags, an array's contents nothing where it is told so -/
def hx_con (L : List Nat) (h : hx_h) (a ta : Nat) (cs : List (Nat × Nat × Bool)) (zs : List Nat) : Prop :=
  hx_g L h a ta ∧ (∀ k t z, (k, t, z) ∈ cs → ∃ q, h.2.2 a k = some q ∧ hx_g L h q t ∧ (z = true → (∀ j, h.2.1 q j = 0) ∧ ∀ j, h.2.2 q j = none)) ∧ ∀ k ∈ zs, h.2.1 a k = 0
theorem hx_S.o {tb : List hx_d} {M : hx_m} {L L1 : List Nat} {h h1 : hx_h} {a t k : Nat} (hs : hx_S tb M L h L1 h1) (g : hx_g L h a t) (ho : match tb[t]? with | some (.inr _) => False | _ => True) (hk : M.contains (t, k) = false) : h1.2.1 a k = h.2.1 a k ∧ h1.2.2 a k = h.2.2 a k := by
  refine hs.2 a g.1 k ?_
  rw [g.2]
  have hn : (t, k) ∉ M := fun z => by rw [List.contains_iff_mem.mpr z] at hk; cases hk
  revert ho
  cases tb[t]? with
  | none => exact fun _ => hn
  | some d => rcases d with d | d
              · exact fun _ => hn
              · exact fun z => z.elim
theorem hx_S.a {tb : List hx_d} {M : hx_m} {L L1 : List Nat} {h h1 : hx_h} {a t : Nat} (hs : hx_S tb M L h L1 h1) (g : hx_g L h a t) (hk : M.any (fun q => q.1 == t) = false) (j : Nat) : h1.2.1 a j = h.2.1 a j ∧ h1.2.2 a j = h.2.2 a j := by
  refine hs.2 a g.1 j ?_
  rw [g.2]
  have hn : ∀ k, (t, k) ∉ M := fun k z => by
    have := List.any_eq_false.mp hk _ z
    simp at this
  cases tb[t]? with
  | none => exact hn j
  | some d => rcases d with d | d
              · exact hn j
              · exact hn 0
theorem hx_con.S {tb : List hx_d} {M : hx_m} {L L1 : List Nat} {h h1 : hx_h} {a ta : Nat} {cs : List (Nat × Nat × Bool)} {zs : List Nat} (c : hx_con L h a ta cs zs) (hs : hx_S tb M L h L1 h1) (ho : match tb[ta]? with | some (.inr _) => False | _ => True)
    (ok : (cs.all (fun p => !(M.contains (ta, p.1)) && !(M.any (fun q => q.1 == p.2.1))) && zs.all (fun k => !(M.contains (ta, k)))) = true) : hx_con L1 h1 a ta cs zs := by
  rw [Bool.and_eq_true, List.all_eq_true, List.all_eq_true] at ok
  refine ⟨c.1.S hs, fun k t z hk => ?_, fun k hk => ?_⟩
  · obtain ⟨q, e1, g1, z1⟩ := c.2.1 k t z hk
    have o1 := ok.1 _ hk
    rw [Bool.and_eq_true, Bool.not_eq_true', Bool.not_eq_true'] at o1
    refine ⟨q, (hs.o c.1 ho o1.1).2.trans e1, g1.S hs, fun hz => ⟨fun j => (hs.a g1 o1.2 j).1.trans ((z1 hz).1 j), fun j => (hs.a g1 o1.2 j).2.trans ((z1 hz).2 j)⟩⟩
  · have o1 := ok.2 _ hk
    rw [Bool.not_eq_true'] at o1
    exact (hs.o c.1 ho o1).1.trans (c.2.2 k hk)
theorem hx_con.add {tb : List hx_d} {L : List Nat} {h : hx_h} {a ta k t q : Nat} {cs : List (Nat × Nat × Bool)} {zs : List Nat} (c : hx_con L h a ta cs zs) (z : Bool) (e : h.2.2 a k = some q) (g : hx_g L h q t) (hz : z = true → (∀ j, h.2.1 q j = 0) ∧ ∀ j, h.2.2 q j = none) : hx_con L h a ta ((k, t, z) :: cs) zs := by
  refine ⟨c.1, fun k2 t2 z2 hk => ?_, c.2.2⟩
  rcases List.mem_cons.mp hk with hk | hk
  · cases hk
    exact ⟨q, e, g, hz⟩
  · exact c.2.1 k2 t2 z2 hk
theorem hx_con.get {L : List Nat} {h : hx_h} {a ta k t : Nat} {z : Bool} {cs : List (Nat × Nat × Bool)} {zs : List Nat} (c : hx_con L h a ta cs zs) (i : Nat) (hi : cs[i]? = some (k, t, z)) : ∃ q, h.2.2 a k = some q ∧ hx_g L h q t ∧ (z = true → (∀ j, h.2.1 q j = 0) ∧ ∀ j, h.2.2 q j = none) := c.2.1 k t z (List.mem_of_getElem? hi)