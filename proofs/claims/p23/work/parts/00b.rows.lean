/-! ROWS over the typed heap -/
/-- what the program says of a class -/
def hx_C (Ts : List Cond) (cl : List vw_C) (ci : Nat) (C : String) (T : u_T) (N : Nat) (ty0 : Nat → FieldType) : Prop :=
  cl[ci]? = some (C, T, N) ∧ (∀ w ∈ u_ws C T N, w ∈ Ts) ∧ (∀ k, k < N → parseFieldDescriptor (T k).2.2.1 = some (ty0 k)) ∧ ∀ a, a < N → ∀ b, b < N → a ≠ b → (T a).2.1 ≠ (T b).2.1
section HXR
variable {p : Program} {l : Launch} {e : Env} {R : Room} {s : State} {m : MethodId} {args : Array Value} {below : List Frame} {meth : Method} {c : Code} {H : Heap} {locs : List Loc} {cells slots : Nat} {Q : State → Prop}
variable {cc : ByteArray} {pc : Nat} {ls : Array Slot} {rest : List Value} {D : va_G} {cl : List vw_C} {A : Nat → Prop} {a : Nat} {tys : hx_y} {H0 : Heap} {tb : List hx_d} {L : List Nat} {h : hx_h}
theorem hx_geti (hx : p.tables.exec = Jvm.exec) (hb : c.code = cc) {own C : String} {T : u_T} {N ci index : Nat} {Ts : List Cond} {ty0 : Nat → FieldType} (hts : ∀ w ∈ Ts, w.before args s = true) (hC : hx_C Ts cl ci C T N ty0) (hown : s.vm.findClass own = some m.cls) (hW : hx_W tb tys D cl A H0 L h s H locs) (hT : hx_T tb L h) {t : Nat} (g : hx_g L h a t) {fs : List hx_f} (hd : tb[t]? = some (.inl (ci, fs))) (k : Nat) (hk : k < N) {lo hi : Int} (hf : fs[k]? = some (.inl (lo, hi))) {ref nm ds : String} (hlink : Cond.fieldLink own index ref nm ds ∈ Ts) (hsame : (T k).1 = ref ∧ (T k).2.1 = nm ∧ (T k).2.2.1 = ds) (hdg : decode cc pc = .ok (.getfield index, 3))
    (kk : ∀ x : Int32, x = h.2.1 a k → lo ≤ x.toInt → x.toInt ≤ hi → W p l e R s m args below meth c H locs cells slots Q (F0 m (pc + 3) ls (.int x :: rest))) : W p l e R s m args below meth c H locs cells slots Q (F0 m pc ls (.ref a :: rest)) := by
  obtain ⟨k0, hk0⟩ := hx_at (tb := tb) (tys := tys) (h := h) g.1
  rw [hx_e_obj g.2 hd] at hk0
  obtain ⟨hlo, hhi⟩ := hx_T.gi hT g hd hf
  obtain ⟨rfl, rfl, rfl⟩ := hsame
  exact va_get (v := .int (h.2.1 a k)) hx hb hts hC.2.1 hown hW.1 hW.2.1 k0 hk0 hC.1 k hk (hts _ hlink) (fun _ h9 => h9) (hx_fs_get hf) hdg (kk _ rfl hlo hhi)
theorem hx_getr (hx : p.tables.exec = Jvm.exec) (hb : c.code = cc) {own C : String} {T : u_T} {N ci index : Nat} {Ts : List Cond} {ty0 : Nat → FieldType} (hts : ∀ w ∈ Ts, w.before args s = true) (hC : hx_C Ts cl ci C T N ty0) (hown : s.vm.findClass own = some m.cls) (hW : hx_W tb tys D cl A H0 L h s H locs) (hT : hx_T tb L h) {t : Nat} (g : hx_g L h a t) {fs : List hx_f} (hd : tb[t]? = some (.inl (ci, fs))) (k : Nat) (hk : k < N) {nn : Bool} {tt : List Nat} (hf : fs[k]? = some (.inr (nn, tt))) {ref nm ds : String} (hlink : Cond.fieldLink own index ref nm ds ∈ Ts) (hsame : (T k).1 = ref ∧ (T k).2.1 = nm ∧ (T k).2.2.1 = ds) (hdg : decode cc pc = .ok (.getfield index, 3))
    (kk : ∀ r : Option Nat, r = h.2.2 a k → (nn = true → r ≠ none) → (∀ q, r = some q → q ∈ L ∧ h.1 q ∈ tt) → W p l e R s m args below meth c H locs cells slots Q (F0 m (pc + 3) ls (va_rf r :: rest))) : W p l e R s m args below meth c H locs cells slots Q (F0 m pc ls (.ref a :: rest)) := by
  obtain ⟨k0, hk0⟩ := hx_at (tb := tb) (tys := tys) (h := h) g.1
  rw [hx_e_obj g.2 hd] at hk0
  obtain ⟨h1, h2⟩ := hx_T.gr hT g hd hf
  obtain ⟨rfl, rfl, rfl⟩ := hsame
  exact va_get (v := va_rf (h.2.2 a k)) hx hb hts hC.2.1 hown hW.1 hW.2.1 k0 hk0 hC.1 k hk (hts _ hlink) (fun _ h9 => h9) (hx_fs_get hf) hdg (kk _ rfl h1 h2)
/-- a reference that is never null, of one tag -/
theorem hx_getn (hx : p.tables.exec = Jvm.exec) (hb : c.code = cc) {own C : String} {T : u_T} {N ci index : Nat} {Ts : List Cond} {ty0 : Nat → FieldType} (hts : ∀ w ∈ Ts, w.before args s = true) (hC : hx_C Ts cl ci C T N ty0) (hown : s.vm.findClass own = some m.cls) (hW : hx_W tb tys D cl A H0 L h s H locs) (hT : hx_T tb L h) {t : Nat} (g : hx_g L h a t) {fs : List hx_f} (hd : tb[t]? = some (.inl (ci, fs))) (k : Nat) (hk : k < N) {t1 : Nat} (hf : fs[k]? = some (.inr (true, [t1]))) {ref nm ds : String} (hlink : Cond.fieldLink own index ref nm ds ∈ Ts) (hsame : (T k).1 = ref ∧ (T k).2.1 = nm ∧ (T k).2.2.1 = ds) (hdg : decode cc pc = .ok (.getfield index, 3))
    (kk : ∀ q : Nat, h.2.2 a k = some q → hx_g L h q t1 → W p l e R s m args below meth c H locs cells slots Q (F0 m (pc + 3) ls (.ref q :: rest))) : W p l e R s m args below meth c H locs cells slots Q (F0 m pc ls (.ref a :: rest)) := by
  refine hx_getr hx hb hts hC hown hW hT g hd k hk hf hlink hsame hdg fun r hr h1 h2 => ?_
  rcases r with _ | q
  · exact absurd rfl (h1 rfl)
  · obtain ⟨u1, u2⟩ := h2 q rfl
    exact kk q hr.symm ⟨u1, by simpa using u2⟩
theorem hx_puti (hx : p.tables.exec = Jvm.exec) (hb : c.code = cc) {own C : String} {T : u_T} {N ci index : Nat} {Ts : List Cond} {ty0 : Nat → FieldType} (hts : ∀ w ∈ Ts, w.before args s = true) (hC : hx_C Ts cl ci C T N ty0) (hown : s.vm.findClass own = some m.cls) (hW : hx_W tb tys D cl A H0 L h s H locs) (hT : hx_T tb L h) {M : hx_m} {L0 : List Nat} {h0 : hx_h} (hM : hx_S tb M L0 h0 L h) {t : Nat} (g : hx_g L h a t) {fs : List hx_f} (hd : tb[t]? = some (.inl (ci, fs))) (k : Nat) (hk : k < N) {lo hi : Int} (hf : fs[k]? = some (.inl (lo, hi))) {ref nm ds : String} (hlink : Cond.fieldLink own index ref nm ds ∈ Ts) (hsame : (T k).1 = ref ∧ (T k).2.1 = nm ∧ (T k).2.2.1 = ds) (hfin : (T k).2.2.2 = false) {x : Int32} (hx1 : lo ≤ x.toInt ∧ x.toInt ≤ hi) {ty : FieldType} (hty : ty0 k = ty) (hn : narrow ty (.int x) = .int x) (hfit : fits ty (.int x) = true) (hm : (t, k) ∈ M) (hdg : decode cc pc = .ok (.putfield index, 3))
    (kk : ∀ (H1 : Heap) (locs1 : List Loc) (h1 : hx_h), h1 = hx_pi h a k x → hx_W tb tys D cl A H0 L h1 s H1 locs1 → hx_T tb L h1 → hx_S tb M L0 h0 L h1 → W p l e R s m args below meth c H1 locs1 cells slots Q (F0 m (pc + 3) ls rest)) : W p l e R s m args below meth c H locs cells slots Q (F0 m pc ls (.int x :: .ref a :: rest)) := by
  obtain ⟨k0, hk0⟩ := hx_at (tb := tb) (tys := tys) (h := h) g.1
  have hk1 := hk0
  rw [hx_e_obj g.2 hd] at hk0
  obtain ⟨rfl, rfl, rfl⟩ := hsame
  subst hty
  obtain ⟨hK, hP, hD, hS, hA⟩ := hW
  refine va_put (v := .int x) (ty := ty0 k) hx hb hts hC.2.1 ty0 hC.2.2.1 hC.2.2.2 hown hK hP hD hS k0 hk0 hC.1 k hk (hts _ hlink) (fun _ h9 => h9) hfin (hC.2.2.1 k hk) hn hfit (by rw [hx_fs_len]; exact (List.getElem?_eq_some_iff.mp hf).1) hdg (fun H1 locs1 hP2 hD2 hS2 => ?_)
  have he : hx_e tb tys (hx_pi h a k x) a = .inr (ci, (hx_fs fs h a).set k (.int x)) := by
    rw [hx_e_obj (h := hx_pi h a k x) g.2 hd, hx_fs_pi hf]
  rw [hx_set (h1 := hx_pi h a k x) hD g.1 hk1 he (fun b hb => hx_e_pi hb)] at hP2 hD2
  refine kk H1 locs1 _ rfl ⟨hK, hP2, hD2, hS2, hA⟩ (hT.pi g hd ?_) (hM.pi g (by rw [hd]; exact hm))
  intro f hf2 r _
  have := hf.symm.trans hf2
  cases this
  exact hx1
theorem hx_putr (hx : p.tables.exec = Jvm.exec) (hb : c.code = cc) {own C : String} {T : u_T} {N ci index : Nat} {Ts : List Cond} {ty0 : Nat → FieldType} (hts : ∀ w ∈ Ts, w.before args s = true) (hC : hx_C Ts cl ci C T N ty0) (hown : s.vm.findClass own = some m.cls) (hW : hx_W tb tys D cl A H0 L h s H locs) (hT : hx_T tb L h) {M : hx_m} {L0 : List Nat} {h0 : hx_h} (hM : hx_S tb M L0 h0 L h) {t : Nat} (g : hx_g L h a t) {fs : List hx_f} (hd : tb[t]? = some (.inl (ci, fs))) (k : Nat) (hk : k < N) {nn : Bool} {tt : List Nat} (hf : fs[k]? = some (.inr (nn, tt))) {ref nm ds : String} (hlink : Cond.fieldLink own index ref nm ds ∈ Ts) (hsame : (T k).1 = ref ∧ (T k).2.1 = nm ∧ (T k).2.2.1 = ds) (hfin : (T k).2.2.2 = false) {x : Option Nat} (hx1 : (nn = true → x ≠ none) ∧ ∀ q, x = some q → q ∈ L ∧ h.1 q ∈ tt) {ty : FieldType} (hty : ty0 k = ty) (hn : narrow ty (va_rf x) = va_rf x) (hfit : fits ty (va_rf x) = true) (hm : (t, k) ∈ M) (hdg : decode cc pc = .ok (.putfield index, 3))
    (kk : ∀ (H1 : Heap) (locs1 : List Loc) (h1 : hx_h), h1 = hx_pr h a k x → hx_W tb tys D cl A H0 L h1 s H1 locs1 → hx_T tb L h1 → hx_S tb M L0 h0 L h1 → W p l e R s m args below meth c H1 locs1 cells slots Q (F0 m (pc + 3) ls rest)) : W p l e R s m args below meth c H locs cells slots Q (F0 m pc ls (va_rf x :: .ref a :: rest)) := by
  obtain ⟨k0, hk0⟩ := hx_at (tb := tb) (tys := tys) (h := h) g.1
  have hk1 := hk0
  rw [hx_e_obj g.2 hd] at hk0
  obtain ⟨rfl, rfl, rfl⟩ := hsame
  subst hty
  obtain ⟨hK, hP, hD, hS, hA⟩ := hW
  refine va_put (v := va_rf x) (ty := ty0 k) hx hb hts hC.2.1 ty0 hC.2.2.1 hC.2.2.2 hown hK hP hD hS k0 hk0 hC.1 k hk (hts _ hlink) (fun _ h9 => h9) hfin (hC.2.2.1 k hk) hn hfit (by rw [hx_fs_len]; exact (List.getElem?_eq_some_iff.mp hf).1) hdg (fun H1 locs1 hP2 hD2 hS2 => ?_)
  have he : hx_e tb tys (hx_pr h a k x) a = .inr (ci, (hx_fs fs h a).set k (va_rf x)) := by
    rw [hx_e_obj (h := hx_pr h a k x) g.2 hd, hx_fs_pr hf]
  rw [hx_set (h1 := hx_pr h a k x) hD g.1 hk1 he (fun b hb => hx_e_pr hb)] at hP2 hD2
  refine kk H1 locs1 _ rfl ⟨hK, hP2, hD2, hS2, hA⟩ (hT.pr g hd ?_) (hM.pr g (by rw [hd]; exact hm))
  intro f hf2 r _
  have := hf.symm.trans hf2
  cases this
  exact hx1
theorem hx_putiF (hx : p.tables.exec = Jvm.exec) (hb : c.code = cc) {own C : String} {T : u_T} {N ci index : Nat} {Ts : List Cond} {ty0 : Nat → FieldType} (hts : ∀ w ∈ Ts, w.before args s = true) (hC : hx_C Ts cl ci C T N ty0) (hown : s.vm.findClass own = some m.cls) (hW : hx_W tb tys D cl A H0 L h s H locs) (hT : hx_T tb L h) {M : hx_m} {L0 : List Nat} {h0 : hx_h} (hM : hx_S tb M L0 h0 L h) {t : Nat} (g : hx_g L h a t) {fs : List hx_f} (hd : tb[t]? = some (.inl (ci, fs))) (k : Nat) (hk : k < N) {lo hi : Int} (hf : fs[k]? = some (.inl (lo, hi))) {ref nm ds : String} (hlink : Cond.fieldLink own index ref nm ds ∈ Ts) (hsame : (T k).1 = ref ∧ (T k).2.1 = nm ∧ (T k).2.2.1 = ds) (hfin : (T k).2.2.2 = true) (hin2 : meth.name = "<init>") (hdecl : (T k).1 = own) {x : Int32} (hx1 : lo ≤ x.toInt ∧ x.toInt ≤ hi) {ty : FieldType} (hty : ty0 k = ty) (hn : narrow ty (.int x) = .int x) (hfit : fits ty (.int x) = true) (hm : (t, k) ∈ M) (hdg : decode cc pc = .ok (.putfield index, 3))
    (kk : ∀ (H1 : Heap) (locs1 : List Loc) (h1 : hx_h), h1 = hx_pi h a k x → hx_W tb tys D cl A H0 L h1 s H1 locs1 → hx_T tb L h1 → hx_S tb M L0 h0 L h1 → W p l e R s m args below meth c H1 locs1 cells slots Q (F0 m (pc + 3) ls rest)) : W p l e R s m args below meth c H locs cells slots Q (F0 m pc ls (.int x :: .ref a :: rest)) := by
  obtain ⟨k0, hk0⟩ := hx_at (tb := tb) (tys := tys) (h := h) g.1
  have hk1 := hk0
  rw [hx_e_obj g.2 hd] at hk0
  obtain ⟨rfl, rfl, rfl⟩ := hsame
  subst hty
  obtain ⟨hK, hP, hD, hS, hA⟩ := hW
  refine va_putF (v := .int x) (ty := ty0 k) hx hb hts hC.2.1 ty0 hC.2.2.1 hC.2.2.2 hown hK hP hD hS k0 hk0 hC.1 k hk (hts _ hlink) (fun _ h9 => h9) hfin hin2 hdecl (hC.2.2.1 k hk) hn hfit (by rw [hx_fs_len]; exact (List.getElem?_eq_some_iff.mp hf).1) hdg (fun H1 locs1 hP2 hD2 hS2 => ?_)
  have he : hx_e tb tys (hx_pi h a k x) a = .inr (ci, (hx_fs fs h a).set k (.int x)) := by
    rw [hx_e_obj (h := hx_pi h a k x) g.2 hd, hx_fs_pi hf]
  rw [hx_set (h1 := hx_pi h a k x) hD g.1 hk1 he (fun b hb => hx_e_pi hb)] at hP2 hD2
  refine kk H1 locs1 _ rfl ⟨hK, hP2, hD2, hS2, hA⟩ (hT.pi g hd ?_) (hM.pi g (by rw [hd]; exact hm))
  intro f hf2 r _
  have := hf.symm.trans hf2
  cases this
  exact hx1
theorem hx_putrF (hx : p.tables.exec = Jvm.exec) (hb : c.code = cc) {own C : String} {T : u_T} {N ci index : Nat} {Ts : List Cond} {ty0 : Nat → FieldType} (hts : ∀ w ∈ Ts, w.before args s = true) (hC : hx_C Ts cl ci C T N ty0) (hown : s.vm.findClass own = some m.cls) (hW : hx_W tb tys D cl A H0 L h s H locs) (hT : hx_T tb L h) {M : hx_m} {L0 : List Nat} {h0 : hx_h} (hM : hx_S tb M L0 h0 L h) {t : Nat} (g : hx_g L h a t) {fs : List hx_f} (hd : tb[t]? = some (.inl (ci, fs))) (k : Nat) (hk : k < N) {nn : Bool} {tt : List Nat} (hf : fs[k]? = some (.inr (nn, tt))) {ref nm ds : String} (hlink : Cond.fieldLink own index ref nm ds ∈ Ts) (hsame : (T k).1 = ref ∧ (T k).2.1 = nm ∧ (T k).2.2.1 = ds) (hfin : (T k).2.2.2 = true) (hin2 : meth.name = "<init>") (hdecl : (T k).1 = own) {x : Option Nat} (hx1 : (nn = true → x ≠ none) ∧ ∀ q, x = some q → q ∈ L ∧ h.1 q ∈ tt) {ty : FieldType} (hty : ty0 k = ty) (hn : narrow ty (va_rf x) = va_rf x) (hfit : fits ty (va_rf x) = true) (hm : (t, k) ∈ M) (hdg : decode cc pc = .ok (.putfield index, 3))
    (kk : ∀ (H1 : Heap) (locs1 : List Loc) (h1 : hx_h), h1 = hx_pr h a k x → hx_W tb tys D cl A H0 L h1 s H1 locs1 → hx_T tb L h1 → hx_S tb M L0 h0 L h1 → W p l e R s m args below meth c H1 locs1 cells slots Q (F0 m (pc + 3) ls rest)) : W p l e R s m args below meth c H locs cells slots Q (F0 m pc ls (va_rf x :: .ref a :: rest)) := by
  obtain ⟨k0, hk0⟩ := hx_at (tb := tb) (tys := tys) (h := h) g.1
  have hk1 := hk0
  rw [hx_e_obj g.2 hd] at hk0
  obtain ⟨rfl, rfl, rfl⟩ := hsame
  subst hty
  obtain ⟨hK, hP, hD, hS, hA⟩ := hW
  refine va_putF (v := va_rf x) (ty := ty0 k) hx hb hts hC.2.1 ty0 hC.2.2.1 hC.2.2.2 hown hK hP hD hS k0 hk0 hC.1 k hk (hts _ hlink) (fun _ h9 => h9) hfin hin2 hdecl (hC.2.2.1 k hk) hn hfit (by rw [hx_fs_len]; exact (List.getElem?_eq_some_iff.mp hf).1) hdg (fun H1 locs1 hP2 hD2 hS2 => ?_)
  have he : hx_e tb tys (hx_pr h a k x) a = .inr (ci, (hx_fs fs h a).set k (va_rf x)) := by
    rw [hx_e_obj (h := hx_pr h a k x) g.2 hd, hx_fs_pr hf]
  rw [hx_set (h1 := hx_pr h a k x) hD g.1 hk1 he (fun b hb => hx_e_pr hb)] at hP2 hD2
  refine kk H1 locs1 _ rfl ⟨hK, hP2, hD2, hS2, hA⟩ (hT.pr g hd ?_) (hM.pr g (by rw [hd]; exact hm))
  intro f hf2 r _
  have := hf.symm.trans hf2
  cases this
  exact hx1
theorem hx_iald (hx : p.tables.exec = Jvm.exec) (hb : c.code = cc) (hW : hx_W tb tys D cl A H0 L h s H locs) (hT : hx_T tb L h) {t : Nat} (g : hx_g L h a t) {t0 n : Nat} {lo hi : Int} (hd : tb[t]? = some (.inr (t0, n, .inl (lo, hi)))) {cA : ClassId} (ht : tys[t0]? = some (cA, .int)) {i : Int32} (hin : 0 ≤ i.toInt ∧ i.toInt < n) (hdg : decode cc pc = .ok (.iaload, 1))
    (kk : ∀ x : Int32, x = h.2.1 a i.toNatClampNeg → lo ≤ x.toInt → x.toInt ≤ hi → W p l e R s m args below meth c H locs cells slots Q (F0 m (pc + 1) ls (.int x :: rest))) : W p l e R s m args below meth c H locs cells slots Q (F0 m pc ls (.int i :: .ref a :: rest)) := by
  obtain ⟨k0, hk0⟩ := hx_at (tb := tb) (tys := tys) (h := h) g.1
  rw [hx_e_arr g.2 hd] at hk0
  have hin2 : vp_in i n := vp_in_iff.mpr hin
  have hlt : i.toNatClampNeg < n := Nat.not_le.mp fun q => hin2 (Or.inr q)
  obtain ⟨h1, h2⟩ := hx_T.ei hT g hd hlt
  have hcA : hx_t tys t0 = cA := by simp [hx_t, ht]
  rw [hcA] at hk0
  exact va_iald hx hb hW.1 hW.2.1 k0 t0 hk0 ht hin2 hdg (kk _ rfl h1 h2)
theorem hx_bald (hx : p.tables.exec = Jvm.exec) (hb : c.code = cc) (hW : hx_W tb tys D cl A H0 L h s H locs) (hT : hx_T tb L h) {t : Nat} (g : hx_g L h a t) {t0 n : Nat} {lo hi : Int} (hd : tb[t]? = some (.inr (t0, n, .inl (lo, hi)))) {cA : ClassId} (ht : tys[t0]? = some (cA, .byte)) {i : Int32} (hin : 0 ≤ i.toInt ∧ i.toInt < n) (hdg : decode cc pc = .ok (.baload, 1))
    (kk : ∀ x : Int32, x = h.2.1 a i.toNatClampNeg → lo ≤ x.toInt → x.toInt ≤ hi → W p l e R s m args below meth c H locs cells slots Q (F0 m (pc + 1) ls (.int x :: rest))) : W p l e R s m args below meth c H locs cells slots Q (F0 m pc ls (.int i :: .ref a :: rest)) := by
  obtain ⟨k0, hk0⟩ := hx_at (tb := tb) (tys := tys) (h := h) g.1
  rw [hx_e_arr g.2 hd] at hk0
  have hin2 : vp_in i n := vp_in_iff.mpr hin
  have hlt : i.toNatClampNeg < n := Nat.not_le.mp fun q => hin2 (Or.inr q)
  obtain ⟨h1, h2⟩ := hx_T.ei hT g hd hlt
  have hcA : hx_t tys t0 = cA := by simp [hx_t, ht]
  rw [hcA] at hk0
  exact va_bald hx hb hW.1 hW.2.1 k0 t0 hk0 ht hin2 hdg (kk _ rfl h1 h2)
theorem hx_zald (hx : p.tables.exec = Jvm.exec) (hb : c.code = cc) (hW : hx_W tb tys D cl A H0 L h s H locs) (hT : hx_T tb L h) {t : Nat} (g : hx_g L h a t) {t0 n : Nat} {lo hi : Int} (hd : tb[t]? = some (.inr (t0, n, .inl (lo, hi)))) {cA : ClassId} (ht : tys[t0]? = some (cA, .boolean)) {i : Int32} (hin : 0 ≤ i.toInt ∧ i.toInt < n) (hdg : decode cc pc = .ok (.baload, 1))
    (kk : ∀ x : Int32, x = h.2.1 a i.toNatClampNeg → lo ≤ x.toInt → x.toInt ≤ hi → W p l e R s m args below meth c H locs cells slots Q (F0 m (pc + 1) ls (.int x :: rest))) : W p l e R s m args below meth c H locs cells slots Q (F0 m pc ls (.int i :: .ref a :: rest)) := by
  obtain ⟨k0, hk0⟩ := hx_at (tb := tb) (tys := tys) (h := h) g.1
  rw [hx_e_arr g.2 hd] at hk0
  have hin2 : vp_in i n := vp_in_iff.mpr hin
  have hlt : i.toNatClampNeg < n := Nat.not_le.mp fun q => hin2 (Or.inr q)
  obtain ⟨h1, h2⟩ := hx_T.ei hT g hd hlt
  have hcA : hx_t tys t0 = cA := by simp [hx_t, ht]
  rw [hcA] at hk0
  exact va_zald hx hb hW.1 hW.2.1 k0 t0 hk0 ht hin2 hdg (kk _ rfl h1 h2)
theorem hx_aald (hx : p.tables.exec = Jvm.exec) (hb : c.code = cc) (hW : hx_W tb tys D cl A H0 L h s H locs) (hT : hx_T tb L h) {t : Nat} (g : hx_g L h a t) {t0 n : Nat} {nn : Bool} {tt : List Nat} (hd : tb[t]? = some (.inr (t0, n, .inr (nn, tt)))) {cA : ClassId} {C : String} (ht : tys[t0]? = some (cA, .object C)) {i : Int32} (hin : 0 ≤ i.toInt ∧ i.toInt < n) (hdg : decode cc pc = .ok (.aaload, 1))
    (kk : ∀ r : Option Nat, r = h.2.2 a i.toNatClampNeg → (nn = true → r ≠ none) → (∀ q, r = some q → q ∈ L ∧ h.1 q ∈ tt) → W p l e R s m args below meth c H locs cells slots Q (F0 m (pc + 1) ls (va_rf r :: rest))) : W p l e R s m args below meth c H locs cells slots Q (F0 m pc ls (.int i :: .ref a :: rest)) := by
  obtain ⟨k0, hk0⟩ := hx_at (tb := tb) (tys := tys) (h := h) g.1
  rw [hx_e_arr g.2 hd] at hk0
  have hin2 : vp_in i n := vp_in_iff.mpr hin
  have hlt : i.toNatClampNeg < n := Nat.not_le.mp fun q => hin2 (Or.inr q)
  obtain ⟨h1, h2⟩ := hx_T.er hT g hd hlt
  have hcA : hx_t tys t0 = cA := by simp [hx_t, ht]
  rw [hcA] at hk0
  exact va_aldq hx hb hW.1 hW.2.1 k0 t0 hk0 ht hin2 hdg (kk _ rfl h1 h2)
theorem hx_iast (hx : p.tables.exec = Jvm.exec) (hb : c.code = cc) (hW : hx_W tb tys D cl A H0 L h s H locs) (hT : hx_T tb L h) {M : hx_m} {L0 : List Nat} {h0 : hx_h} (hM : hx_S tb M L0 h0 L h) {t : Nat} (g : hx_g L h a t) {t0 n : Nat} {lo hi : Int} (hd : tb[t]? = some (.inr (t0, n, .inl (lo, hi)))) {cA : ClassId} (ht : tys[t0]? = some (cA, .int)) {i x y : Int32} (hin : 0 ≤ i.toInt ∧ i.toInt < n) (hy : x = y) (hx1 : lo ≤ y.toInt ∧ y.toInt ≤ hi) (hm : (t, 0) ∈ M) (hdg : decode cc pc = .ok (.iastore, 1))
    (kk : ∀ (H1 : Heap) (locs1 : List Loc) (h1 : hx_h), h1 = hx_pi h a i.toNatClampNeg y → hx_W tb tys D cl A H0 L h1 s H1 locs1 → hx_T tb L h1 → hx_S tb M L0 h0 L h1 → W p l e R s m args below meth c H1 locs1 cells slots Q (F0 m (pc + 1) ls rest)) : W p l e R s m args below meth c H locs cells slots Q (F0 m pc ls (.int x :: .int i :: .ref a :: rest)) := by
  obtain ⟨k0, hk0⟩ := hx_at (tb := tb) (tys := tys) (h := h) g.1
  have hk1 := hk0
  rw [hx_e_arr g.2 hd] at hk0
  have hin2 : vp_in i n := vp_in_iff.mpr hin
  have hcA : hx_t tys t0 = cA := by simp [hx_t, ht]
  rw [hcA] at hk0
  obtain ⟨hK, hP, hD, hS, hA⟩ := hW
  refine va_iast hx hb hK hP hD hS k0 t0 hk0 ht hin2 hdg (fun H1 locs1 hP2 hD2 hS2 => ?_)
  rw [hy] at hP2 hD2
  have he : hx_e tb tys (hx_pi h a i.toNatClampNeg y) a = .inl (cA, n, .inl (upd (h.2.1 a) i.toNatClampNeg y)) := by
    rw [hx_e_arr (h := hx_pi h a i.toNatClampNeg y) g.2 hd, hcA]
    simp only [hx_a, hx_pi]
    congr 4
    funext j
    simp [upd]
  rw [hx_set (h1 := hx_pi h a i.toNatClampNeg y) hD g.1 hk1 he (fun b hb => hx_e_pi hb)] at hP2 hD2
  refine kk H1 locs1 _ rfl ⟨hK, hP2, hD2, hS2, hA⟩ (hT.pi g hd ?_) (hM.pi g (by rw [hd]; exact hm))
  intro f hf2 r _
  cases hf2
  exact hx1
theorem hx_bast (hx : p.tables.exec = Jvm.exec) (hb : c.code = cc) (hW : hx_W tb tys D cl A H0 L h s H locs) (hT : hx_T tb L h) {M : hx_m} {L0 : List Nat} {h0 : hx_h} (hM : hx_S tb M L0 h0 L h) {t : Nat} (g : hx_g L h a t) {t0 n : Nat} {lo hi : Int} (hd : tb[t]? = some (.inr (t0, n, .inl (lo, hi)))) {cA : ClassId} (ht : tys[t0]? = some (cA, .byte)) {i x y : Int32} (hin : 0 ≤ i.toInt ∧ i.toInt < n) (hy : (vp_nar .byte x) = y) (hx1 : lo ≤ y.toInt ∧ y.toInt ≤ hi) (hm : (t, 0) ∈ M) (hdg : decode cc pc = .ok (.bastore, 1))
    (kk : ∀ (H1 : Heap) (locs1 : List Loc) (h1 : hx_h), h1 = hx_pi h a i.toNatClampNeg y → hx_W tb tys D cl A H0 L h1 s H1 locs1 → hx_T tb L h1 → hx_S tb M L0 h0 L h1 → W p l e R s m args below meth c H1 locs1 cells slots Q (F0 m (pc + 1) ls rest)) : W p l e R s m args below meth c H locs cells slots Q (F0 m pc ls (.int x :: .int i :: .ref a :: rest)) := by
  obtain ⟨k0, hk0⟩ := hx_at (tb := tb) (tys := tys) (h := h) g.1
  have hk1 := hk0
  rw [hx_e_arr g.2 hd] at hk0
  have hin2 : vp_in i n := vp_in_iff.mpr hin
  have hcA : hx_t tys t0 = cA := by simp [hx_t, ht]
  rw [hcA] at hk0
  obtain ⟨hK, hP, hD, hS, hA⟩ := hW
  refine va_bast hx hb hK hP hD hS k0 t0 hk0 ht hin2 hdg (fun H1 locs1 hP2 hD2 hS2 => ?_)
  rw [hy] at hP2 hD2
  have he : hx_e tb tys (hx_pi h a i.toNatClampNeg y) a = .inl (cA, n, .inl (upd (h.2.1 a) i.toNatClampNeg y)) := by
    rw [hx_e_arr (h := hx_pi h a i.toNatClampNeg y) g.2 hd, hcA]
    simp only [hx_a, hx_pi]
    congr 4
    funext j
    simp [upd]
  rw [hx_set (h1 := hx_pi h a i.toNatClampNeg y) hD g.1 hk1 he (fun b hb => hx_e_pi hb)] at hP2 hD2
  refine kk H1 locs1 _ rfl ⟨hK, hP2, hD2, hS2, hA⟩ (hT.pi g hd ?_) (hM.pi g (by rw [hd]; exact hm))
  intro f hf2 r _
  cases hf2
  exact hx1
theorem hx_zast (hx : p.tables.exec = Jvm.exec) (hb : c.code = cc) (hW : hx_W tb tys D cl A H0 L h s H locs) (hT : hx_T tb L h) {M : hx_m} {L0 : List Nat} {h0 : hx_h} (hM : hx_S tb M L0 h0 L h) {t : Nat} (g : hx_g L h a t) {t0 n : Nat} {lo hi : Int} (hd : tb[t]? = some (.inr (t0, n, .inl (lo, hi)))) {cA : ClassId} (ht : tys[t0]? = some (cA, .boolean)) {i x y : Int32} (hin : 0 ≤ i.toInt ∧ i.toInt < n) (hy : (vp_nar .boolean x) = y) (hx1 : lo ≤ y.toInt ∧ y.toInt ≤ hi) (hm : (t, 0) ∈ M) (hdg : decode cc pc = .ok (.bastore, 1))
    (kk : ∀ (H1 : Heap) (locs1 : List Loc) (h1 : hx_h), h1 = hx_pi h a i.toNatClampNeg y → hx_W tb tys D cl A H0 L h1 s H1 locs1 → hx_T tb L h1 → hx_S tb M L0 h0 L h1 → W p l e R s m args below meth c H1 locs1 cells slots Q (F0 m (pc + 1) ls rest)) : W p l e R s m args below meth c H locs cells slots Q (F0 m pc ls (.int x :: .int i :: .ref a :: rest)) := by
  obtain ⟨k0, hk0⟩ := hx_at (tb := tb) (tys := tys) (h := h) g.1
  have hk1 := hk0
  rw [hx_e_arr g.2 hd] at hk0
  have hin2 : vp_in i n := vp_in_iff.mpr hin
  have hcA : hx_t tys t0 = cA := by simp [hx_t, ht]
  rw [hcA] at hk0
  obtain ⟨hK, hP, hD, hS, hA⟩ := hW
  refine va_zast hx hb hK hP hD hS k0 t0 hk0 ht hin2 hdg (fun H1 locs1 hP2 hD2 hS2 => ?_)
  rw [hy] at hP2 hD2
  have he : hx_e tb tys (hx_pi h a i.toNatClampNeg y) a = .inl (cA, n, .inl (upd (h.2.1 a) i.toNatClampNeg y)) := by
    rw [hx_e_arr (h := hx_pi h a i.toNatClampNeg y) g.2 hd, hcA]
    simp only [hx_a, hx_pi]
    congr 4
    funext j
    simp [upd]
  rw [hx_set (h1 := hx_pi h a i.toNatClampNeg y) hD g.1 hk1 he (fun b hb => hx_e_pi hb)] at hP2 hD2
  refine kk H1 locs1 _ rfl ⟨hK, hP2, hD2, hS2, hA⟩ (hT.pi g hd ?_) (hM.pi g (by rw [hd]; exact hm))
  intro f hf2 r _
  cases hf2
  exact hx1
theorem hx_aast (hx : p.tables.exec = Jvm.exec) (hb : c.code = cc) (hW : hx_W tb tys D cl A H0 L h s H locs) (hT : hx_T tb L h) {M : hx_m} {L0 : List Nat} {h0 : hx_h} (hM : hx_S tb M L0 h0 L h) {t : Nat} (g : hx_g L h a t) {t0 n : Nat} {nn : Bool} {tt : List Nat} (hd : tb[t]? = some (.inr (t0, n, .inr (nn, tt)))) {cA : ClassId} {r : vw_C} (ht : tys[t0]? = some (cA, .object r.1)) {v t1 ci : Nat} {fs : List hx_f} (gv : hx_g L h v t1) (hd1 : tb[t1]? = some (.inl (ci, fs))) (hc : cl[ci]? = some r) (htt : t1 ∈ tt) {i : Int32} (hin : 0 ≤ i.toInt ∧ i.toInt < n) (hm : (t, 0) ∈ M) (hdg : decode cc pc = .ok (.aastore, 1))
    (kk : ∀ (H1 : Heap) (locs1 : List Loc) (h1 : hx_h), h1 = hx_pr h a i.toNatClampNeg (some v) → hx_W tb tys D cl A H0 L h1 s H1 locs1 → hx_T tb L h1 → hx_S tb M L0 h0 L h1 → W p l e R s m args below meth c H1 locs1 cells slots Q (F0 m (pc + 1) ls rest)) : W p l e R s m args below meth c H locs cells slots Q (F0 m pc ls (.ref v :: .int i :: .ref a :: rest)) := by
  obtain ⟨k0, hk0⟩ := hx_at (tb := tb) (tys := tys) (h := h) g.1
  obtain ⟨k2, hk2⟩ := hx_at (tb := tb) (tys := tys) (h := h) gv.1
  have hk1 := hk0
  rw [hx_e_arr g.2 hd] at hk0
  rw [hx_e_obj gv.2 hd1] at hk2
  have hin2 : vp_in i n := vp_in_iff.mpr hin
  have hcA : hx_t tys t0 = cA := by simp [hx_t, ht]
  rw [hcA] at hk0
  obtain ⟨hK, hP, hD, hS, hA⟩ := hW
  refine va_astq hx hb hK hP hD hS k0 t0 k2 ci hk0 ht hk2 hc hin2 hdg (fun H1 locs1 hP2 hD2 hS2 => ?_)
  have he : hx_e tb tys (hx_pr h a i.toNatClampNeg (some v)) a = .inl (cA, n, .inr (.inr (.inr (.inr (va_up (h.2.2 a) i.toNatClampNeg (some v)))))) := by
    rw [hx_e_arr (h := hx_pr h a i.toNatClampNeg (some v)) g.2 hd, hcA]
    simp only [hx_a, hx_pr]
    congr 7
    funext j
    simp [va_up]
  rw [hx_set (h1 := hx_pr h a i.toNatClampNeg (some v)) hD g.1 hk1 he (fun b hb => hx_e_pr hb)] at hP2 hD2
  refine kk H1 locs1 _ rfl ⟨hK, hP2, hD2, hS2, hA⟩ (hT.pr g hd ?_) (hM.pr g (by rw [hd]; exact hm))
  intro f hf2 i0 _
  cases hf2
  refine ⟨fun _ z => (by cases z), fun q hq => ?_⟩
  cases hq
  exact ⟨gv.1, by rw [gv.2]; exact htt⟩
theorem hx_alen (hx : p.tables.exec = Jvm.exec) (hb : c.code = cc) (hW : hx_W tb tys D cl A H0 L h s H locs) {t : Nat} (g : hx_g L h a t) {t0 n : Nat} {f : hx_f} (hd : tb[t]? = some (.inr (t0, n, f))) {cA : ClassId} {ty : FieldType} (ht : tys[t0]? = some (cA, ty)) (hdg : decode cc pc = .ok (.arraylength, 1))
    (kk : W p l e R s m args below meth c H locs cells slots Q (F0 m (pc + 1) ls (.int (Int32.ofNat n) :: rest))) : W p l e R s m args below meth c H locs cells slots Q (F0 m pc ls (.ref a :: rest)) := by
  obtain ⟨k0, hk0⟩ := hx_at (tb := tb) (tys := tys) (h := h) g.1
  rw [hx_e_arr g.2 hd] at hk0
  have hcA : hx_t tys t0 = cA := by simp [hx_t, ht]
  rw [hcA] at hk0
  refine va_alen hx hb hW.1 hW.2.1 k0 t0 hk0 ht (v := Int32.ofNat n) ?_ hdg kk
  rcases f with f | f | f <;> rfl
end HXR
