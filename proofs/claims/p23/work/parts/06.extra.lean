/-! WHAT STANDS OUTSIDE THE WORLD: the nest mates' links, the arrays of objects, the static table WITHOUT; it is carried into the calls that ask for it -/
abbrev hx_z : Type := Nat × Nat × Nat × (Nat → Nat) × (Nat → Nat)
def P_lt : Nat → Value := fun j => .int (match j with | 1 => 1 | 3 => 1 | 5 => 1 | 6 => 1 | 7 => 1 | 8 => 1 | _ => 0)
def P_mt : Nat → Value := fun j => .int (match j with | 1 => 9999 | 2 => 365 | 3 => 999 | 4 => 999 | 5 => 20 | 6 => 20 | 7 => 30 | 8 => 400 | 9 => 40 | 10 => 999 | 11 => 999 | 12 => 999 | 13 => 999 | _ => 0)
def P_si : List Nat := [49, 73, 99, 105, 107, 116]
def P_st : List String := ["-       most    split   week    keep    late    gaol    -       longest age     cost    prove   ", "summons hearing order   seizure ", "and     ", "or      ", "not     ", "oath    denied  note    witness own     other   alike   claimed "]
def P_ln : List Nat := [96, 32, 8, 8, 8, 64]
def P_by : List (List Int32) := [[45, 32, 32, 32, 32, 32, 32, 32, 109, 111, 115, 116, 32, 32, 32, 32, 115, 112, 108, 105, 116, 32, 32, 32, 119, 101, 101, 107, 32, 32, 32, 32, 107, 101, 101, 112, 32, 32, 32, 32, 108, 97, 116, 101, 32, 32, 32, 32, 103, 97, 111, 108, 32, 32, 32, 32, 45, 32, 32, 32, 32, 32, 32, 32, 108, 111, 110, 103, 101, 115, 116, 32, 97, 103, 101, 32, 32, 32, 32, 32, 99, 111, 115, 116, 32, 32, 32, 32, 112, 114, 111, 118, 101, 32, 32, 32], [115, 117, 109, 109, 111, 110, 115, 32, 104, 101, 97, 114, 105, 110, 103, 32, 111, 114, 100, 101, 114, 32, 32, 32, 115, 101, 105, 122, 117, 114, 101, 32], [97, 110, 100, 32, 32, 32, 32, 32], [111, 114, 32, 32, 32, 32, 32, 32], [110, 111, 116, 32, 32, 32, 32, 32], [111, 97, 116, 104, 32, 32, 32, 32, 100, 101, 110, 105, 101, 100, 32, 32, 110, 111, 116, 101, 32, 32, 32, 32, 119, 105, 116, 110, 101, 115, 115, 32, 111, 119, 110, 32, 32, 32, 32, 32, 111, 116, 104, 101, 114, 32, 32, 32, 97, 108, 105, 107, 101, 32, 32, 32, 99, 108, 97, 105, 109, 101, 100, 32]]
def hx_Xs (A : Nat → Prop) (z : hx_z) (U : State) : Prop := va_Z "SmallCourt" "LEAST_TOLD" "[I" (.ref z.2.1) A U U.heap ∧ va_T .int z.2.1 14 P_lt A U U.heap ∧ va_Z "SmallCourt" "MOST_TOLD" "[I" (.ref z.2.2.1) A U U.heap ∧ va_T .int z.2.2.1 14 P_mt A U U.heap ∧ va_Z "java/lang/String" "COMPACT_STRINGS" "Z" (.int 1) A U U.heap ∧ va_Zq "jdk/internal/util/Preconditions" "SIOOBE_FORMATTER" "Ljava/util/function/BiFunction;" A U U.heap ∧ vk_S 6 P_ln P_by z.2.2.2.1 z.2.2.2.2 A U U.heap ∧ ∀ i, i < 6 → vk_R "SmallCourt$Reader" (P_si.getD i 0) (P_st.getD i "") (z.2.2.2.1 i) U
theorem hx_Xs.go {A A1 : Nat → Prop} {z : hx_z} {s : State} {H : Heap} {locs : List Loc} (hz : hx_Xs A z s) (hS : va_S A s.heap H locs) (hA : ∀ q, A1 q → A q) {U : State} (hU : U.heap = H) (hw : s.WarmedH U.vm) : hx_Xs A1 z U := by
  obtain ⟨z1, z2, z3, z4, z5, z6, z7, z8⟩ := hz
  subst hU
  exact ⟨va_Z.moved hw.alike ((z1.kept hS.2.1).narrow hA), va_T.moved hw.alike ((z2.kept hS.2.1).narrow hA), va_Z.moved hw.alike ((z3.kept hS.2.1).narrow hA), va_T.moved hw.alike ((z4.kept hS.2.1).narrow hA), va_Z.moved hw.alike ((z5.kept hS.2.1).narrow hA), va_Zq.moved hw.alike ((z6.kept hS.2.1).narrow hA), vk_S.moved hw.alike ((z7.kept hS.2.1).narrow hA), fun i hi => vk_R.warm hw (z8 i hi)⟩
def hx_Xt (A : Nat → Prop) (b0 : hx_z) (U : State) : Prop := (∀ w ∈ hx_N, va_Nw w U) ∧ (va_AO "SmallCourt$Act" U ∧ va_AO "SmallCourt$Person" U ∧ va_AO "SmallCourt$Claim" U) ∧ va_Z "SmallCourt" "WITHOUT" "[I" (.ref b0.1) A U U.heap ∧ va_X b0.1 14 P_wo U U.heap ∧ b0.1 < U.heap.size ∧ ¬ A b0.1 ∧ hx_Xs A b0 U
theorem hx_Xt.go {A A1 : Nat → Prop} {b0 : hx_z} {s : State} {H : Heap} {locs : List Loc} (hz : hx_Xt A b0 s) (hS : va_S A s.heap H locs) (hA : ∀ q, A1 q → A q) {U : State} (hU : U.heap = H) (hw : s.WarmedH U.vm) : hx_Xt A1 b0 U := by
  obtain ⟨z1, ⟨z2, z3, z4⟩, z5, z6, z7, z8, z9⟩ := hz
  have z10 := z9.go hS hA hU hw
  subst hU
  refine ⟨fun w hw2 => ?_, ⟨va_AO.moved hw.alike z2, va_AO.moved hw.alike z3, va_AO.moved hw.alike z4⟩, va_Z.moved hw.alike ((z5.kept hS.2.1).narrow hA), (z6.kept (hS.2.1 b0.1 z7 z8)).moved hw.alike, Nat.lt_of_lt_of_le z7 hS.1, fun z => z8 (hA b0.1 z), z10⟩
  have h1 := z1 w hw2
  have h2 := hw2
  unfold hx_N at h2
  simp only [List.mem_cons, List.not_mem_nil, or_false] at h2
  rcases h2 with rfl | rfl | rfl | rfl | rfl | rfl | rfl | rfl | rfl | rfl | rfl <;> first | exact va_Nw.warmF hw h1 | exact va_Nw.warmM hw h1
def hx_BX (tb : List hx_d) (tys : hx_y) (D : va_G) (cl : List vw_C) (L : List Nat) (h : hx_h) (sz : Nat) (b0 : hx_z) (U : State) : Prop := hx_B tb tys D cl L h sz U ∧ hx_Xt (hx_A L sz) b0 U
theorem hx_blindX {tb : List hx_d} {tys : hx_y} {D : va_G} {cl : List vw_C} {L : List Nat} {h : hx_h} {sz : Nat} {b0 : hx_z} {av : List Value} : FrameBlind (va_Pc av (hx_BX tb tys D cl L h sz b0)) := fun a U g mk q =>
  ⟨q.1, (hx_blind a U g mk ⟨q.1, q.2.1⟩).2, q.2.2.go va_S.rf (fun _ h => h) rfl (State.WarmedH.refl U)⟩
theorem hx_preX {tb : List hx_d} {tys : hx_y} {D : va_G} {cl : List vw_C} {A : Nat → Prop} {H : Heap} {L : List Nat} {h : hx_h} {s : State} {locs : List Loc} {av : List Value} {b0 : hx_z} (hW : hx_W tb tys D cl A s.heap L h s H locs) (hZ : hx_Xt A b0 s) : ∀ U : State, U.heap = H → s.WarmedH U.vm → va_Pc av (hx_BX tb tys D cl L h H.size b0) av.toArray U := fun U hU hw =>
  ⟨rfl, (hx_pre (av := av) hW U hU hw).2, hZ.go hW.2.2.2.1 (hx_in hW) hU hw⟩
section HXX
variable {p : Program} {l : Launch} {e : Env} {R : Room} {s : State} {m : MethodId} {args : Array Value} {below : List Frame} {meth : Method} {c : Code} {H : Heap} {locs : List Loc} {cells slots : Nat} {Q : State → Prop}
variable {cc : ByteArray} {pc : Nat} {ls : Array Slot} {rest st0 : List Value} {D : va_G} {cl : List vw_C} {A : Nat → Prop} {a : Nat} {tys : hx_y} {H0 : Heap} {tb : List hx_d} {L : List Nat} {h : hx_h}
variable {y : MethodName} {bytes : ByteArray} {maxL nL mc ms n index : Nat} {ret : Option FieldType} {ws : List Cond} {rm : Room} {Ts : List Cond} {own C : String} {As : List Value} {Qc : Array Value → State → Outcome → State → Prop}
theorem hx_runVX (S : CallFix p m c cc nL s args Ts own) (hW : hx_W tb tys D cl A s.heap L h s H locs) {t : Nat} (g : hx_g L h a t) {ci : Nat} {fs : List hx_f} (hd : tb[t]? = some (.inl (ci, fs))) {T : u_T} {N : Nat} (hc : cl[ci]? = some (C, T, N)) {b0 : hx_z} (hM : Met l y ws rm (va_Pc (.ref a :: As) (hx_BX tb tys D cl L h H.size b0)) Qc mc ms (hx_A L H.size)) (hZ : hx_Xt A b0 s) (cw : CallW R s args own C index y bytes maxL ret ws rm mc ms n) (hn : As.length = n) (hsize : ls.size = nL) (hst : st0 = As.reverse ++ .ref a :: rest) (hR : (rest.map fun v => v.category).sum ≤ 8) (hdg : decode cc pc = .ok (.invokevirtual index, 3)) (hf : cells + mc ≤ R.cells ∧ slots + ms ≤ R.slots) :
    va_Run p l e R s m args below meth c H locs cells slots mc ms (F0 m pc ls st0) rest (Qc (Value.ref a :: As).toArray) (hx_A L H.size) :=
  va_runV S hM cw ⟨hx_blindX, hx_recv hW g hd hc, hx_preX hW hZ⟩ rfl hn hsize hst (lv_room hR) hdg hf
theorem hx_runIX (S : CallFix p m c cc nL s args Ts own) (hW : hx_W tb tys D cl A s.heap L h s H locs) {b0 : hx_z} (hM : Met l y ws rm (va_Pc (.ref a :: As) (hx_BX tb tys D cl L h H.size b0)) Qc mc ms (hx_A L H.size)) (hZ : hx_Xt A b0 s) (cw : CallB R s args own index y bytes maxL none ws rm mc ms n ∧ y.name = "<init>" ∧ (Cond.instanceMethod y).before args s = true) (hn : As.length = n) (hsize : ls.size = nL) (hst : st0 = As.reverse ++ .ref a :: rest) (hR : (rest.map fun v => v.category).sum ≤ 8) (hdg : decode cc pc = .ok (.invokespecial index, 3)) (hf : cells + mc ≤ R.cells ∧ slots + ms ≤ R.slots) :
    va_Run p l e R s m args below meth c H locs cells slots mc ms (F0 m pc ls st0) rest (Qc (Value.ref a :: As).toArray) (hx_A L H.size) :=
  va_runI S hM cw ⟨hx_blindX, hx_preX hW hZ⟩ rfl hn hsize hst (lv_room hR) hdg hf
theorem hx_runINX (S : CallFix p m c cc nL s args Ts own) (hW : hx_W tb tys D cl A s.heap L h s H locs) {b0 : hx_z} (hM : Met l y ws rm (va_Pc (.ref a :: As) (hx_BX tb tys D cl L h H.size b0)) Qc mc ms (hx_A L H.size)) (hZ : hx_Xt A b0 s) {host : String} (cw : va_CN R s args own index y host bytes maxL none ws rm mc ms n ∧ y.name = "<init>" ∧ (Cond.instanceMethod y).before args s = true) (hn : As.length = n) (hsize : ls.size = nL) (hst : st0 = As.reverse ++ .ref a :: rest) (hR : (rest.map fun v => v.category).sum ≤ 8) (hdg : decode cc pc = .ok (.invokespecial index, 3)) (hf : cells + mc ≤ R.cells ∧ slots + ms ≤ R.slots) :
    va_Run p l e R s m args below meth c H locs cells slots mc ms (F0 m pc ls st0) rest (Qc (Value.ref a :: As).toArray) (hx_A L H.size) :=
  va_runIN S hM cw ⟨hx_blindX, hx_preX hW hZ⟩ rfl hn hsize hst (lv_room hR) hdg hf
theorem hx_runIN (S : CallFix p m c cc nL s args Ts own) (hW : hx_W tb tys D cl A H0 L h s H locs) (hM : Met l y ws rm (va_Pc (.ref a :: As) (hx_B tb tys D cl L h H.size)) Qc mc ms (hx_A L H.size)) {host : String} (cw : va_CN R s args own index y host bytes maxL none ws rm mc ms n ∧ y.name = "<init>" ∧ (Cond.instanceMethod y).before args s = true) (hn : As.length = n) (hsize : ls.size = nL) (hst : st0 = As.reverse ++ .ref a :: rest) (hR : (rest.map fun v => v.category).sum ≤ 8) (hdg : decode cc pc = .ok (.invokespecial index, 3)) (hf : cells + mc ≤ R.cells ∧ slots + ms ≤ R.slots) :
    va_Run p l e R s m args below meth c H locs cells slots mc ms (F0 m pc ls st0) rest (Qc (Value.ref a :: As).toArray) (hx_A L H.size) :=
  va_runIN S hM cw ⟨hx_blind, hx_pre hW⟩ rfl hn hsize hst (lv_room hR) hdg hf
theorem hk_newqX (hx : p.tables.exec = Jvm.exec) (hb : c.code = cc) {index : Nat} {Ts : List Cond} (hts : ∀ w ∈ Ts, w.before args s = true) (hown : s.vm.findClass own = some m.cls) (hW : hx_W tb tys D cl A H0 L h s H locs) (t : Nat) {t0 n : Nat} {b : Bool × List Nat} (hd : tb[t]? = some (.inr (t0, n, .inr b))) (hcl : Cond.classLink own index C ∈ Ts) (hover : va_AO C s) {cA : ClassId} (ht : tys[t0]? = some (cA, .object C)) {i : Int32} (hi : i.toInt = n) (hbytes : n * 4 ≤ 536870912) (hcells : cells + 1 ≤ R.cells) (hslots : slots + n ≤ R.slots) (hdg : decode cc pc = .ok (.anewarray index, 3))
    (kk : ∀ (q : Nat) (H1 : Heap) (h1 : hx_h), h1 = hx_nw h q t → q ∉ L → hx_W tb tys D cl A H0 (L ++ [q]) h1 s H1 locs → hx_S tb [] L h (L ++ [q]) h1 → hx_g (L ++ [q]) h1 q t → W p l e R s m args below meth c H1 locs (cells + 1) (slots + n) Q (F0 m (pc + 3) ls (.ref q :: rest))) : W p l e R s m args below meth c H locs cells slots Q (F0 m pc ls (.int i :: rest)) := by
  obtain ⟨hK, hP, hD, hS, hA⟩ := hW
  have hneg : ¬ i < 0 := by rw [Int32.lt_iff_toInt_lt, hi]; simp
  have hcl2 : i.toNatClampNeg = n := by unfold Int32.toNatClampNeg; rw [hi]; simp
  refine va_newq hx hb hown (hts _ hcl) hover hK hP hD hS hA hneg hcl2 hbytes hcells hslots hdg (fun q c1 H1 hK2 hP2 hD2 hS2 => ?_)
  have hq := hx_fresh hD2
  have hc1 : c1 = cA := by
    obtain ⟨_, _, _, _, _, e1⟩ := (hK2.2 tys.length (c1, .object C) (by simp)).2
    obtain ⟨_, _, _, _, _, e2⟩ := (hK.2 t0 (cA, .object C) ht).2
    exact Option.some.inj (e1.symm.trans e2)
  subst hc1
  have hcA : hx_t tys t0 = c1 := by simp [hx_t, ht]
  have he : hx_e tb tys (hx_nw h q t) q = .inl (c1, n, .inr (.inr (.inr (.inr (fun _ => none))))) := by
    rw [hx_e_arr (h := hx_nw h q t) (t := t) (by simp [hx_nw]) hd, hcA]
    simp only [hx_a, hx_nw, if_true]
  rw [hx_push hq he] at hP2 hD2
  exact kk q H1 _ rfl hq ⟨hK, hP2, hD2, hS2, hA⟩ (hx_nw_S hq) hx_nw_g
theorem hk_copyx (hx : p.tables.exec = Jvm.exec) (hb : c.code = cc) (hml : c.maxLocals = ls.size) (hown : s.vm.findClass own = some m.cls) (hlink : (Cond.methodLink own index arraycopyName).before args s = true) (hnat : (Cond.native arraycopyName).before args s = true) (hstat : (Cond.static arraycopyName).before args s = true) (hini : (Cond.initialized "java/lang/System").before args s = true)
    (hW : hx_W tb tys D cl A s.heap L h s H locs) {b0 n0 : Nat} {f : Nat → Int32} (hX : va_X b0 n0 f s s.heap) (hbl : b0 < s.heap.size) (hbA : ¬ A b0) {t : Nat} (g : hx_g L h a t) {t0 n1 : Nat} {b : Int × Int} (hd : tb[t]? = some (.inr (t0, n1, .inl b))) {cA : ClassId} (ht : tys[t0]? = some (cA, .int)) (hN : n0 ≤ n1) {z1 z2 z3 : Int32} (e1 : z1 = 0) (e2 : z2 = 0) (e3 : z3.toInt = n0)
    (hframes : 1 ≤ R.frames) (hlocals : (rest.map fun v => v.category).sum + (nativeFrameWords "java/lang/System" "arraycopy" 5 + 11) ≤ R.locals) (hdg : decode cc pc = .ok (.invokestatic index, 3))
    (kk : ∀ (H1 : Heap) (locs1 : List Loc) (h1 : hx_h), (∀ j, j < n0 → h1.2.1 a j = f j) → hx_W tb tys D cl A s.heap L h1 s H1 locs1 → hx_S tb [(t, 0)] L h L h1 → W p l e R s m args below meth c H1 locs1 cells slots Q (F0 m (pc + 3) ls rest)) : W p l e R s m args below meth c H locs cells slots Q (F0 m pc ls (.int z3 :: .int z2 :: .ref a :: .int z1 :: .ref b0 :: rest)) := by
  subst e1; subst e2
  obtain ⟨k0, hk0⟩ := hx_at (tb := tb) (tys := tys) (h := h) g.1
  have hk1 := hk0
  rw [hx_e_arr g.2 hd] at hk0
  have hcA : hx_t tys t0 = cA := by simp [hx_t, ht]
  rw [hcA] at hk0
  obtain ⟨hK, hP, hD, hS, hA⟩ := hW
  have hcl : z3.toNatClampNeg = n0 := by unfold Int32.toNatClampNeg; rw [e3]; simp
  have hneg : ¬ z3 < 0 := by rw [Int32.lt_iff_toInt_lt, e3]; simp
  have z0 : (0 : Int32).toNatClampNeg = 0 := by decide
  refine va_copyx hx hb hml hown hlink hnat hstat hini hK hP hD hS hX hbl hbA k0 t0 hk0 ht (by decide) (by decide) hneg (by rw [z0, hcl]; omega) (by rw [z0, hcl]; omega) hframes hlocals hdg (fun H1 locs1 hP2 hD2 hS2 => ?_)
  rw [z0, hcl] at hP2 hD2
  have he : hx_e tb tys (h.1, fun x j => if x = a then va_cpy f (h.2.1 a) 0 0 n0 j else h.2.1 x j, h.2.2) a = .inl (cA, n1, .inl (va_cpy f (h.2.1 a) 0 0 n0)) := by
    rw [hx_e_arr (h := (h.1, fun x j => if x = a then va_cpy f (h.2.1 a) 0 0 n0 j else h.2.1 x j, h.2.2)) g.2 hd, hcA]
    simp [hx_a]
  rw [hx_set (h1 := (h.1, fun x j => if x = a then va_cpy f (h.2.1 a) 0 0 n0 j else h.2.1 x j, h.2.2)) hD g.1 hk1 he (fun x hxa => by simp [hx_e, hx_fs, hx_a, hxa])] at hP2 hD2
  refine kk H1 locs1 _ (fun j hj => ?_) ⟨hK, hP2, hD2, hS2, hA⟩ ⟨fun q hq => ⟨hq, rfl⟩, fun q hq k hk => ⟨?_, rfl⟩⟩
  · simp [va_cpy, hj]
  · have hqa : q ≠ a := by
      intro z
      rw [z, g.2, hd] at hk
      exact hk (List.mem_singleton.mpr rfl)
    simp [hqa]
end HXX
theorem hx_metX {l : Launch} {y : MethodName} {ws ws' : List Cond} {rm : Room} {mc ms : Nat} {cc : ByteArray} {maxL : Nat} {ret : Option FieldType} {tb : List hx_d} {tys : hx_y} {D : va_G} {cl : List vw_C} {L : List Nat} {h : hx_h} {sz : Nat} {b0 : hx_z} {av : List Value} {Qc : Array Value → State → Outcome → State → Prop} {lv : List (Nat × Value)}
    (hy : plainName y.cls = true) (hw : ws = Cond.code y cc maxL ret :: ws') (hlen : (lg_sl av).length ≤ maxL) (hlv : lv_args 0 av = lv)
    (body : ∀ (p : Program) (e : Env) (s : State) (m : MethodId) (below : List Frame) (meth : Method) (c : Code), p.tables.exec = Jvm.exec → c.code = cc → c.maxLocals = maxL → meth.sig.returnType = ret → meth.locks = false → (∀ w ∈ ws, w.before av.toArray s = true) → s.vm.findClass y.cls = some m.cls → meth.name = y.name → s.heap.size = sz →
      hx_W tb tys D cl (hx_A L sz) s.heap L h s s.heap [] → hx_Xt (hx_A L sz) b0 s → ∀ ls : Array Slot, lv_has ls maxL lv → W p l e rm s m av.toArray below meth c s.heap [] 0 0 (MQ below Qc av.toArray s mc ms (hx_A L sz)) (F0 m 0 ls [])) :
    Met l y ws rm (va_Pc av (hx_BX tb tys D cl L h sz b0)) Qc mc ms (hx_A L sz) := by
  refine Met.ofW (cc := cc) (maxL := maxL) (ret := ret) hy hw ?_
  intro p e s m args below meth c s₁ B hml hv
  obtain ⟨rfl, ⟨hsz, hP, hK, hD0⟩, hZ⟩ := hv
  have hl := lv_entry av (n := maxL) hlen
  rw [lg_entry_eq]
  refine body p e s m below meth c B.exec B.bytes hml B.returns B.notSynchronized (atoms_spec (ws := ws) B.pre) (findClass_of_methodNamed B.named) (name_of_methodNamed B.named B.method).1 hsz ⟨hK, hP, hD0.weaken (fun k q hk _ => ?_), va_S.rf, fun q hq => Or.inr (by rw [← hsz]; exact hq)⟩ hZ _ (by rw [← hlv]; exact hl)
  refine Or.inl ?_
  have hmem := List.mem_of_getElem? hk
  obtain ⟨b, hb, hbq⟩ := List.mem_map.mp hmem
  rw [← hbq]
  exact hb
