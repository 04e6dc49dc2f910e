/-! CONTRACTS, CALLS AND ENDS over the typed heap: a method gets the whole world and gives the whole world back -/
def hx_A (L : List Nat) (sz : Nat) : Nat → Prop := fun q => q ∈ L ∨ sz ≤ q
def hx_B (tb : List hx_d) (tys : hx_y) (D : va_G) (cl : List vw_C) (L : List Nat) (h : hx_h) (sz : Nat) (U : State) : Prop :=
  U.heap.size = sz ∧ va_P D cl (hx_p tb tys L h) U.heap ∧ va_K D cl tys U ∧ va_D (fun _ => True) (hx_p tb tys L h)
def hx_E (tb : List hx_d) (tys : hx_y) (D : va_G) (cl : List vw_C) (A : Nat → Prop) (u : List Nat × hx_h) (t : State) : Prop :=
  va_P D cl (hx_p tb tys u.1 u.2) t.heap ∧ va_K D cl tys t ∧ va_D A (hx_p tb tys u.1 u.2)
theorem hx_blind {tb : List hx_d} {tys : hx_y} {D : va_G} {cl : List vw_C} {L : List Nat} {h : hx_h} {sz : Nat} {av : List Value} : FrameBlind (va_Pc av (hx_B tb tys D cl L h sz)) := fun a U g mk q => by
  obtain ⟨q0, q1, qP, qK, qD⟩ := q
  exact ⟨q0, q1, qP, va_K.moved (u := U) (U := U.calling g mk a) (Vm.Alike.refl U.vm) qK, qD⟩
theorem hx_pre {tb : List hx_d} {tys : hx_y} {D : va_G} {cl : List vw_C} {A : Nat → Prop} {H0 H : Heap} {L : List Nat} {h : hx_h} {s : State} {locs : List Loc} {av : List Value} (hW : hx_W tb tys D cl A H0 L h s H locs) : ∀ U : State, U.heap = H → s.WarmedH U.vm → va_Pc av (hx_B tb tys D cl L h H.size) av.toArray U := fun U hU hw =>
  ⟨rfl, by rw [hU], by rw [hU]; exact hW.2.1, va_K.moved hw.alike hW.1, hW.2.2.1.weaken (fun _ _ _ _ => trivial)⟩
theorem hx_in {tb : List hx_d} {tys : hx_y} {D : va_G} {cl : List vw_C} {A : Nat → Prop} {H0 H : Heap} {L : List Nat} {h : hx_h} {s : State} {locs : List Loc} (hW : hx_W tb tys D cl A H0 L h s H locs) : ∀ q, hx_A L H.size q → A q := by
  intro q hq
  rcases hq with hq | hq
  · obtain ⟨k, hk⟩ := hx_at (tb := tb) (tys := tys) (h := h) hq
    exact hW.2.2.1.2 k _ hk
  · exact hW.2.2.2.2 q (Nat.le_trans hW.2.2.2.1.1 hq)
section HXC
variable {p : Program} {l : Launch} {e : Env} {R : Room} {s : State} {m : MethodId} {args : Array Value} {below : List Frame} {meth : Method} {c : Code} {H : Heap} {locs : List Loc} {cells slots : Nat} {Q : State → Prop}
variable {cc : ByteArray} {pc : Nat} {ls : Array Slot} {rest st0 : List Value} {D : va_G} {cl : List vw_C} {A : Nat → Prop} {a : Nat} {tys : hx_y} {H0 : Heap} {tb : List hx_d} {L : List Nat} {h : hx_h}
variable {y : MethodName} {bytes : ByteArray} {maxL nL mc ms n index : Nat} {ret : Option FieldType} {ws : List Cond} {rm : Room} {Ts : List Cond} {own C : String} {As : List Value} {Qc : Array Value → State → Outcome → State → Prop}
theorem hx_recv (hW : hx_W tb tys D cl A H0 L h s H locs) {t : Nat} (g : hx_g L h a t) {ci : Nat} {fs : List hx_f} (hd : tb[t]? = some (.inl (ci, fs))) {q : vw_C} (hc : cl[ci]? = some q) : ∃ cell : Cell, H[a]? = some cell ∧ cell.vm.isStatics = false ∧ s.vm.findClass q.1 = some cell.cls := by
  obtain ⟨k0, hk0⟩ := hx_at (tb := tb) (tys := tys) (h := h) g.1
  rw [hx_e_obj g.2 hd] at hk0
  exact va_recv hW.1 hW.2.1 hc hk0
theorem hx_runV (S : CallFix p m c cc nL s args Ts own) (hW : hx_W tb tys D cl A H0 L h s H locs) {t : Nat} (g : hx_g L h a t) {ci : Nat} {fs : List hx_f} (hd : tb[t]? = some (.inl (ci, fs))) {T : u_T} {N : Nat} (hc : cl[ci]? = some (C, T, N)) (hM : Met l y ws rm (va_Pc (.ref a :: As) (hx_B tb tys D cl L h H.size)) Qc mc ms (hx_A L H.size)) (cw : CallW R s args own C index y bytes maxL ret ws rm mc ms n) (hn : As.length = n) (hsize : ls.size = nL) (hst : st0 = As.reverse ++ .ref a :: rest) (hR : (rest.map fun v => v.category).sum ≤ 8) (hdg : decode cc pc = .ok (.invokevirtual index, 3)) (hf : cells + mc ≤ R.cells ∧ slots + ms ≤ R.slots) :
    va_Run p l e R s m args below meth c H locs cells slots mc ms (F0 m pc ls st0) rest (Qc (Value.ref a :: As).toArray) (hx_A L H.size) :=
  va_runV S hM cw ⟨hx_blind, hx_recv hW g hd hc, hx_pre hW⟩ rfl hn hsize hst (lv_room hR) hdg hf
theorem hx_runS (S : CallFix p m c cc nL s args Ts own) (hW : hx_W tb tys D cl A H0 L h s H locs) (hM : Met l y ws rm (va_Pc As (hx_B tb tys D cl L h H.size)) Qc mc ms (hx_A L H.size)) (cw : CallB R s args own index y bytes maxL ret ws rm mc ms n ∧ (Cond.static y).before args s = true) (hn : As.length = n) (hsize : ls.size = nL) (hst : st0 = As.reverse ++ rest) (hR : (rest.map fun v => v.category).sum ≤ 8) (hdg : decode cc pc = .ok (.invokestatic index, 3)) (hf : cells + mc ≤ R.cells ∧ slots + ms ≤ R.slots) :
    va_Run p l e R s m args below meth c H locs cells slots mc ms (F0 m pc ls st0) rest (Qc As.toArray) (hx_A L H.size) :=
  va_runS S hM cw ⟨hx_blind, hx_pre hW⟩ rfl hn hsize hst (lv_room hR) hdg hf
theorem hx_runI (S : CallFix p m c cc nL s args Ts own) (hW : hx_W tb tys D cl A H0 L h s H locs) (hM : Met l y ws rm (va_Pc (.ref a :: As) (hx_B tb tys D cl L h H.size)) Qc mc ms (hx_A L H.size)) (cw : CallB R s args own index y bytes maxL none ws rm mc ms n ∧ y.name = "<init>" ∧ (Cond.instanceMethod y).before args s = true) (hn : As.length = n) (hsize : ls.size = nL) (hst : st0 = As.reverse ++ .ref a :: rest) (hR : (rest.map fun v => v.category).sum ≤ 8) (hdg : decode cc pc = .ok (.invokespecial index, 3)) (hf : cells + mc ≤ R.cells ∧ slots + ms ≤ R.slots) :
    va_Run p l e R s m args below meth c H locs cells slots mc ms (F0 m pc ls st0) rest (Qc (Value.ref a :: As).toArray) (hx_A L H.size) :=
  va_runI S hM cw ⟨hx_blind, hx_pre hW⟩ rfl hn hsize hst (lv_room hR) hdg hf
variable {a1 : Array Value}
theorem hx_goi {post : Int32 → List Nat × hx_h → Prop} (hr : va_Run p l e R s m args below meth c H locs cells slots mc ms (F0 m pc ls st0) rest (va_Qi post (hx_E tb tys D cl (hx_A L H.size)) (hx_A L H.size) a1) (hx_A L H.size)) (hW : hx_W tb tys D cl A H0 L h s H locs)
    (kk : ∀ (r : Int32) (L1 : List Nat) (h1 : hx_h) (H1 : Heap) (locs1 : List Loc), post r (L1, h1) → hx_W tb tys D cl A H0 L1 h1 s H1 locs1 → W p l e R s m args below meth c H1 locs1 (cells + mc) (slots + ms) Q (F0 m (pc + 3) ls (.int r :: rest))) : W p l e R s m args below meth c H locs cells slots Q (F0 m pc ls st0) := by
  refine va_calli hr hW.2.2.2.1 (fun q _ hq => hx_in hW q hq) (fun q hq => hx_in hW q hq) (fun r u t H1 locs1 ht hvm hp hB hz hk hS => ?_)
  obtain ⟨b1, b2, b3⟩ := hB
  rw [ht] at b1
  exact kk r u.1 u.2 H1 locs1 hp ⟨hW.1, b1, b3.weaken (fun _ q _ hq => hx_in hW q.1 hq), hS, hW.2.2.2.2⟩
theorem hx_gov {post : List Nat × hx_h → Prop} (hr : va_Run p l e R s m args below meth c H locs cells slots mc ms (F0 m pc ls st0) rest (va_Qv post (hx_E tb tys D cl (hx_A L H.size)) (hx_A L H.size) a1) (hx_A L H.size)) (hW : hx_W tb tys D cl A H0 L h s H locs)
    (kk : ∀ (L1 : List Nat) (h1 : hx_h) (H1 : Heap) (locs1 : List Loc), post (L1, h1) → hx_W tb tys D cl A H0 L1 h1 s H1 locs1 → W p l e R s m args below meth c H1 locs1 (cells + mc) (slots + ms) Q (F0 m (pc + 3) ls rest)) : W p l e R s m args below meth c H locs cells slots Q (F0 m pc ls st0) := by
  refine va_callv hr hW.2.2.2.1 (fun q _ hq => hx_in hW q hq) (fun q hq => hx_in hW q hq) (fun u t H1 locs1 ht hvm hp hB hz hk hS => ?_)
  obtain ⟨b1, b2, b3⟩ := hB
  rw [ht] at b1
  exact kk u.1 u.2 H1 locs1 hp ⟨hW.1, b1, b3.weaken (fun _ q _ hq => hx_in hW q.1 hq), hS, hW.2.2.2.2⟩
theorem hx_goq {post : Option Nat → List Nat × hx_h → Prop} (hr : va_Run p l e R s m args below meth c H locs cells slots mc ms (F0 m pc ls st0) rest (va_Qq post (hx_E tb tys D cl (hx_A L H.size)) (hx_A L H.size) a1) (hx_A L H.size)) (hW : hx_W tb tys D cl A H0 L h s H locs)
    (kk : ∀ (r : Option Nat) (L1 : List Nat) (h1 : hx_h) (H1 : Heap) (locs1 : List Loc), post r (L1, h1) → hx_W tb tys D cl A H0 L1 h1 s H1 locs1 → W p l e R s m args below meth c H1 locs1 (cells + mc) (slots + ms) Q (F0 m (pc + 3) ls (va_rf r :: rest))) : W p l e R s m args below meth c H locs cells slots Q (F0 m pc ls st0) := by
  refine va_callq hr hW.2.2.2.1 (fun q _ hq => hx_in hW q hq) (fun q hq => hx_in hW q hq) (fun r u t H1 locs1 ht hvm hp hB hz hk hS => ?_)
  obtain ⟨b1, b2, b3⟩ := hB
  rw [ht] at b1
  exact kk r u.1 u.2 H1 locs1 hp ⟨hW.1, b1, b3.weaken (fun _ q _ hq => hx_in hW q.1 hq), hS, hW.2.2.2.2⟩
theorem hx_reti {post : Int32 → List Nat × hx_h → Prop} {v : Int32} (hx : p.tables.exec = Jvm.exec) (hb : c.code = cc) (hr : meth.sig.returnType = some .int) (hlocks : meth.locks = false) (hW : hx_W tb tys D cl A s.heap L h s H locs) (hp : post v (L, h)) (hdg : decode cc pc = .ok (.ireturn, 1)) :
    W p l e R s m args below meth c H locs cells slots (MQ below (va_Qi post (hx_E tb tys D cl A) A) args s cells slots A) (F0 m pc ls [.int v]) :=
  W.iret hx hb hr (fun t ht hw => ⟨⟨v, (L, h), rfl, hp, by rw [ht]; exact hW.2.1, va_K.moved hw.alike hW.1, hW.2.2.1⟩, hW.2.2.2.1.F ht⟩) hW.2.2.2.1.2.2 hdg hlocks
theorem hx_retz {post : Int32 → List Nat × hx_h → Prop} {v : Int32} {ty : FieldType} (hx : p.tables.exec = Jvm.exec) (hb : c.code = cc) (hr : meth.sig.returnType = some ty) (hn : narrow ty (.int v) = .int v) (hlocks : meth.locks = false) (hW : hx_W tb tys D cl A s.heap L h s H locs) (hp : post v (L, h)) (hdg : decode cc pc = .ok (.ireturn, 1)) :
    W p l e R s m args below meth c H locs cells slots (MQ below (va_Qi post (hx_E tb tys D cl A) A) args s cells slots A) (F0 m pc ls [.int v]) :=
  W.zret hx hb hr hn (fun t ht hw => ⟨⟨v, (L, h), rfl, hp, by rw [ht]; exact hW.2.1, va_K.moved hw.alike hW.1, hW.2.2.1⟩, hW.2.2.2.1.F ht⟩) hW.2.2.2.1.2.2 hdg hlocks
theorem hx_retv {post : List Nat × hx_h → Prop} (hx : p.tables.exec = Jvm.exec) (hb : c.code = cc) (hr : meth.sig.returnType = none) (hlocks : meth.locks = false) (hW : hx_W tb tys D cl A s.heap L h s H locs) (hp : post (L, h)) (hdg : decode cc pc = .ok (.return_, 1)) :
    W p l e R s m args below meth c H locs cells slots (MQ below (va_Qv post (hx_E tb tys D cl A) A) args s cells slots A) (F0 m pc ls []) :=
  W.vret hx hb hr (fun t ht hw => ⟨⟨(L, h), rfl, hp, by rw [ht]; exact hW.2.1, va_K.moved hw.alike hW.1, hW.2.2.1⟩, hW.2.2.2.1.F ht⟩) hW.2.2.2.1.2.2 hdg hlocks
theorem hx_retq {post : Option Nat → List Nat × hx_h → Prop} {v : Option Nat} {rt : FieldType} (hx : p.tables.exec = Jvm.exec) (hb : c.code = cc) (hr : meth.sig.returnType = some rt) (hrt : (∃ n, rt = .object n) ∨ ∃ t, rt = .array t) (hlocks : meth.locks = false) (hW : hx_W tb tys D cl A s.heap L h s H locs) (hp : post v (L, h)) (hdg : decode cc pc = .ok (.areturn, 1)) :
    W p l e R s m args below meth c H locs cells slots (MQ below (va_Qq post (hx_E tb tys D cl A) A) args s cells slots A) (F0 m pc ls [va_rf v]) :=
  W.aret hx hb hr hrt (by cases v <;> simp [va_rf]) (fun t ht hw => ⟨⟨v, (L, h), rfl, hp, by rw [ht]; exact hW.2.1, va_K.moved hw.alike hW.1, hW.2.2.1⟩, hW.2.2.2.1.F ht⟩) hW.2.2.2.1.2.2 hdg hlocks
end HXC
theorem hx_met {l : Launch} {y : MethodName} {ws ws' : List Cond} {rm : Room} {mc ms : Nat} {cc : ByteArray} {maxL : Nat} {ret : Option FieldType} {tb : List hx_d} {tys : hx_y} {D : va_G} {cl : List vw_C} {L : List Nat} {h : hx_h} {sz : Nat} {av : List Value} {Qc : Array Value → State → Outcome → State → Prop} {lv : List (Nat × Value)}
    (hy : plainName y.cls = true) (hw : ws = Cond.code y cc maxL ret :: ws') (hlen : (lg_sl av).length ≤ maxL) (hlv : lv_args 0 av = lv)
    (body : ∀ (p : Program) (e : Env) (s : State) (m : MethodId) (below : List Frame) (meth : Method) (c : Code), p.tables.exec = Jvm.exec → c.code = cc → c.maxLocals = maxL → meth.sig.returnType = ret → meth.locks = false → (∀ w ∈ ws, w.before av.toArray s = true) → s.vm.findClass y.cls = some m.cls → meth.name = y.name → s.heap.size = sz →
      hx_W tb tys D cl (hx_A L sz) s.heap L h s s.heap [] → ∀ ls : Array Slot, lv_has ls maxL lv → W p l e rm s m av.toArray below meth c s.heap [] 0 0 (MQ below Qc av.toArray s mc ms (hx_A L sz)) (F0 m 0 ls [])) :
    Met l y ws rm (va_Pc av (hx_B tb tys D cl L h sz)) Qc mc ms (hx_A L sz) := by
  refine Met.ofW (cc := cc) (maxL := maxL) (ret := ret) hy hw ?_
  intro p e s m args below meth c s₁ B hml hv
  obtain ⟨rfl, hsz, hP, hK, hD0⟩ := hv
  have hl := lv_entry av (n := maxL) hlen
  rw [lg_entry_eq]
  refine body p e s m below meth c B.exec B.bytes hml B.returns B.notSynchronized (atoms_spec (ws := ws) B.pre) (findClass_of_methodNamed B.named) (name_of_methodNamed B.named B.method).1 hsz ⟨hK, hP, hD0.weaken (fun k q hk _ => ?_), va_S.rf, fun q hq => Or.inr (by rw [← hsz]; exact hq)⟩ _ (by rw [← hlv]; exact hl)
  refine Or.inl ?_
  have hmem := List.mem_of_getElem? hk
  obtain ⟨b, hb, hbq⟩ := List.mem_map.mp hmem
  rw [← hbq]
  exact hb
