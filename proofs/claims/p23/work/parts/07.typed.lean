/-! small facts for the typed walk -/
theorem hx_andR {x y : Int32} {K : Int} (h1 : 0 ≤ y.toInt) (h2 : y.toInt = K) : 0 ≤ (x &&& y).toInt ∧ (x &&& y).toInt ≤ K := by
  subst h2
  have n1 : (x.toBitVec &&& y.toBitVec).toNat ≤ y.toBitVec.toNat := by rw [BitVec.toNat_and]; exact Nat.and_le_right
  have b1 := y.toBitVec.isLt
  have e1 : y.toInt = y.toBitVec.toInt := rfl
  have e2 : (x &&& y).toInt = (x.toBitVec &&& y.toBitVec).toInt := rfl
  rw [e1] at h1 ⊢
  rw [e2]
  rw [BitVec.toInt_eq_toNat_cond] at h1 ⊢
  rw [BitVec.toInt_eq_toNat_cond]
  split at h1 <;> split <;> (try split) <;> omega
theorem hx_nar01 {v : Int32} (h : v.toInt = 0 ∨ v.toInt = 1) : narrow .boolean (.int v) = .int v := by
  rcases h with h | h
  · have : v = 0 := Int32.toInt_inj.mp (h.trans (by decide))
    subst this; rfl
  · have : v = 1 := Int32.toInt_inj.mp (h.trans (by decide))
    subst this; rfl
theorem hx_ne0 {y : Int32} (h : y.toInt ≠ 0) : ¬ y = 0 := fun z => h (by rw [z]; decide)
section HXN
variable {p : Program} {l : Launch} {e : Env} {R : Room} {s : State} {m : MethodId} {args : Array Value} {below : List Frame} {meth : Method} {c : Code} {H : Heap} {locs : List Loc} {cells slots : Nat} {Q : State → Prop}
variable {cc : ByteArray} {pc : Nat} {ls : Array Slot} {rest st0 : List Value} {D : va_G} {cl : List vw_C} {A : Nat → Prop} {a : Nat} {tys : hx_y} {H0 : Heap} {tb : List hx_d} {L : List Nat} {h : hx_h}
variable {y : MethodName} {bytes : ByteArray} {maxL nL mc ms n index : Nat} {ret : Option FieldType} {ws : List Cond} {rm : Room} {Ts : List Cond} {own C host : String} {As : List Value} {Qc : Array Value → State → Outcome → State → Prop}
theorem hx_runSN (S : CallFix p m c cc nL s args Ts own) (hW : hx_W tb tys D cl A H0 L h s H locs) (hM : Met l y ws rm (va_Pc As (hx_B tb tys D cl L h H.size)) Qc mc ms (hx_A L H.size)) (cw : va_CN R s args own index y host bytes maxL ret ws rm mc ms n ∧ (Cond.static y).before args s = true ∧ True) (hn : As.length = n) (hsize : ls.size = nL) (hst : st0 = As.reverse ++ rest) (hR : (rest.map fun v => v.category).sum ≤ 8) (hdg : decode cc pc = .ok (.invokestatic index, 3)) (hf : cells + mc ≤ R.cells ∧ slots + ms ≤ R.slots) :
    va_Run p l e R s m args below meth c H locs cells slots mc ms (F0 m pc ls st0) rest (Qc As.toArray) (hx_A L H.size) :=
  va_runSN S hM cw ⟨hx_blind, hx_pre hW⟩ rfl hn hsize hst (lv_room hR) hdg hf
theorem hx_aaldN (hx : p.tables.exec = Jvm.exec) (hb : c.code = cc) (hW : hx_W tb tys D cl A H0 L h s H locs) (hT : hx_T tb L h) {t : Nat} (g : hx_g L h a t) {t0 n0 : Nat} {nn : Bool} {t1 : Nat} (hd : tb[t]? = some (.inr (t0, n0, .inr (nn, [t1])))) {cA : ClassId} {C : String} (ht : tys[t0]? = some (cA, .object C)) {i : Int32} (hin : 0 ≤ i.toInt ∧ i.toInt < n0) (hne : h.2.2 a i.toNatClampNeg ≠ none) (hdg : decode cc pc = .ok (.aaload, 1))
    (kk : ∀ q : Nat, h.2.2 a i.toNatClampNeg = some q → hx_g L h q t1 → W p l e R s m args below meth c H locs cells slots Q (F0 m (pc + 1) ls (.ref q :: rest))) : W p l e R s m args below meth c H locs cells slots Q (F0 m pc ls (.int i :: .ref a :: rest)) := by
  refine hx_aald hx hb hW hT g hd ht hin hdg fun r hr _ h2 => ?_
  rcases r with _ | q
  · exact absurd hr.symm hne
  · obtain ⟨u1, u2⟩ := h2 q rfl
    exact kk q hr.symm ⟨u1, by simpa using u2⟩
end HXN
theorem hx_tnI {i c : Int32} (h1 : 0 ≤ i.toInt) (h2 : i.toInt < c.toInt) : (i.toNatClampNeg : Int) < c.toInt := by unfold Int32.toNatClampNeg; omega
