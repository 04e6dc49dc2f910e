/-! small facts for the typed walk -/
theorem hx_andR {x y : Int32} {K : Int} (h1 : 0 ≤ y.toInt) (h2 : y.toInt = K) : 0 ≤ (x &&& y).toInt ∧ (x &&& y).toInt ≤ K := by
  subst h2
  have n1 : (x.toBitVec &&& y.toBitVec).toNat ≤ y.toBitVec.toNat := by rw [BitVec.toNat_and]; exact Nat.and_le_right
  have b1 := y.toBitVec.isLt
  have e1 : y.toInt = y.toBitVec.toInt := rfl
  have e2 : (x &&& y).toInt = (x.toBitVec &&& y.toBitVec).toInt := rfl
  rw [e1] at h1 ⊢
  rw [e2]
  rw [BitVec.toInt_eq_toNat_cond] at h1 ⊢
  rw [BitVec.toInt_eq_toNat_cond]
  split at h1 <;> split <;> (try split) <;> omega
theorem hx_nar01 {v : Int32} (h : v.toInt = 0 ∨ v.toInt = 1) : narrow .boolean (.int v) = .int v := by
  rcases h with h | h
  · have : v = 0 := Int32.toInt_inj.mp (h.trans (by decide))
    subst this; rfl
  · have : v = 1 := Int32.toInt_inj.mp (h.trans (by decide))
    subst this; rfl
theorem hx_ne0 {y : Int32} (h : y.toInt ≠ 0) : ¬ y = 0 := fun z => h (by rw [z]; decide)
section HXN
variable {p : Program} {l : Launch} {e : Env} {R : Room} {s : State} {m : MethodId} {args : Array Value} {below : List Frame} {meth : Method} {c : Code} {H : Heap} {locs : List Loc} {cells slots : Nat} {Q : State → Prop}
variable {cc : ByteArray} {pc : Nat} {ls : Array Slot} {rest st0 : List Value} {D : va_G} {cl : List vw_C} {A : Nat → Prop} {a : Nat} {tys : hx_y} {H0 : Heap} {tb : List hx_d} {L : List Nat} {h : hx_h}
variable {y : MethodName} {bytes : ByteArray} {maxL nL mc ms n index : Nat} {ret : Option FieldType} {ws : List Cond} {rm : Room} {Ts : List Cond} {own C host : String} {As : List Value} {Qc : Array Value → State → Outcome → State → Prop}
theorem hx_runSN (S : CallFix p m c cc nL s args Ts own) (hW : hx_W tb tys D cl A H0 L h s H locs) (hM : Met l y ws rm (va_Pc As (hx_B tb tys D cl L h H.size)) Qc mc ms (hx_A L H.size)) (cw : va_CN R s args own index y host bytes maxL ret ws rm mc ms n ∧ (Cond.static y).before args s = true ∧ True) (hn : As.length = n) (hsize : ls.size = nL) (hst : st0 = As.reverse ++ rest) (hR : (rest.map fun v => v.category).sum ≤ 8) (hdg : decode cc pc = .ok (.invokestatic index, 3)) (hf : cells + mc ≤ R.cells ∧ slots + ms ≤ R.slots) :
    va_Run p l e R s m args below meth c H locs cells slots mc ms (F0 m pc ls st0) rest (Qc As.toArray) (hx_A L H.size) :=
  va_runSN S hM cw ⟨hx_blind, hx_pre hW⟩ rfl hn hsize hst (lv_room hR) hdg hf
/-- System.arraycopy from one owned array of numbers to another, from the start of both -/
theorem hx_copyi (hx : p.tables.exec = Jvm.exec) (hb : c.code = cc) (hml : c.maxLocals = ls.size) (hown : s.vm.findClass own = some m.cls) (hlink : (Cond.methodLink own index arraycopyName).before args s = true) (hnat : (Cond.native arraycopyName).before args s = true) (hstat : (Cond.static arraycopyName).before args s = true) (hini : (Cond.initialized "java/lang/System").before args s = true)
    (hW : hx_W tb tys D cl A H0 L h s H locs) (hT : hx_T tb L h) {a0 t t1 : Nat} (g0 : hx_g L h a0 t) (g1 : hx_g L h a t1) {t0 n0 n1 : Nat} {b0 b1 : Int × Int} (hd0 : tb[t]? = some (.inr (t0, n0, .inl b0))) (hd1 : tb[t1]? = some (.inr (t0, n1, .inl b1))) {cA : ClassId} (ht : tys[t0]? = some (cA, .int)) (hbb : b1.1 ≤ b0.1 ∧ b0.2 ≤ b1.2) {z1 z2 z3 : Int32} (e1 : z1 = 0) (e2 : z2 = 0) (h0 : 0 ≤ z3.toInt) (h3 : z3.toInt ≤ n0) (h4 : z3.toInt ≤ n1)
    (hframes : 1 ≤ R.frames) (hlocals : (rest.map fun v => v.category).sum + (nativeFrameWords "java/lang/System" "arraycopy" 5 + 11) ≤ R.locals) (hdg : decode cc pc = .ok (.invokestatic index, 3))
    (kk : ∀ (H1 : Heap) (locs1 : List Loc) (h1 : hx_h), hx_W tb tys D cl A H0 L h1 s H1 locs1 → hx_T tb L h1 → hx_S tb [(t1, 0)] L h L h1 → W p l e R s m args below meth c H1 locs1 cells slots Q (F0 m (pc + 3) ls rest)) : W p l e R s m args below meth c H locs cells slots Q (F0 m pc ls (.int z3 :: .int z2 :: .ref a :: .int z1 :: .ref a0 :: rest)) := by
  subst e1; subst e2
  obtain ⟨k0, hk0⟩ := hx_at (tb := tb) (tys := tys) (h := h) g0.1
  obtain ⟨k1, hk1⟩ := hx_at (tb := tb) (tys := tys) (h := h) g1.1
  have hk2 := hk1
  have hcA : hx_t tys t0 = cA := by simp [hx_t, ht]
  rw [hx_e_arr g0.2 hd0, hcA] at hk0
  rw [hx_e_arr g1.2 hd1, hcA] at hk1
  obtain ⟨hK, hP, hD, hS, hA⟩ := hW
  have hcl : z3.toNatClampNeg = z3.toInt.toNat := rfl
  have hneg : ¬ z3 < 0 := by rw [Int32.lt_iff_toInt_lt]; simp; omega
  have z0 : (0 : Int32).toNatClampNeg = 0 := by decide
  refine va_copyi hx hb hml hown hlink hnat hstat hini hK hP hD hS k0 k1 t0 t0 hk0 hk1 ht ht rfl (by decide) (by decide) hneg (by rw [z0, hcl]; omega) (by rw [z0, hcl]; omega) (fun _ _ => rfl) hframes hlocals hdg (fun H1 locs1 hP2 hD2 hS2 => ?_)
  rw [z0] at hP2 hD2
  have he : hx_e tb tys (h.1, fun x j => if x = a then va_cpy (h.2.1 a0) (h.2.1 a) 0 0 z3.toNatClampNeg j else h.2.1 x j, h.2.2) a = .inl (cA, n1, .inl (va_cpy (h.2.1 a0) (h.2.1 a) 0 0 z3.toNatClampNeg)) := by
    rw [hx_e_arr (h := (h.1, fun x j => if x = a then va_cpy (h.2.1 a0) (h.2.1 a) 0 0 z3.toNatClampNeg j else h.2.1 x j, h.2.2)) g1.2 hd1, hcA]
    simp [hx_a]
  rw [hx_set (h1 := (h.1, fun x j => if x = a then va_cpy (h.2.1 a0) (h.2.1 a) 0 0 z3.toNatClampNeg j else h.2.1 x j, h.2.2)) hD g1.1 hk2 he (fun x hxa => by simp [hx_e, hx_fs, hx_a, hxa])] at hP2 hD2
  refine kk H1 locs1 _ ⟨hK, hP2, hD2, hS2, hA⟩ (fun q hq => ?_) ⟨fun q hq => ⟨hq, rfl⟩, fun q hq k hk => ⟨?_, rfl⟩⟩
  · by_cases hqa : q = a
    · subst hqa
      unfold hx_c
      show (match tb[h.1 q]? with | some (.inl (_, fs)) => _ | some (.inr (_, n, f)) => _ | none => False)
      rw [g1.2, hd1]
      intro k hk
      simp only [if_true]
      show b1.1 ≤ _ ∧ _ ≤ b1.2
      by_cases hkz : k < z3.toNatClampNeg
      · have e : va_cpy (h.2.1 a0) (h.2.1 q) 0 0 z3.toNatClampNeg k = h.2.1 a0 k := by simp [va_cpy, hkz]
        rw [e]
        have := hT.ei g0 hd0 (k := k) (by rw [hcl] at hkz; omega)
        exact ⟨Int.le_trans hbb.1 this.1, Int.le_trans this.2 hbb.2⟩
      · have e : va_cpy (h.2.1 a0) (h.2.1 q) 0 0 z3.toNatClampNeg k = h.2.1 q k := by simp [va_cpy, hkz]
        rw [e]
        exact hT.ei g1 hd1 hk
    · have h1 := hT q hq
      unfold hx_c at h1 ⊢
      simp only [hqa, if_false]
      exact h1
  · have hqa : q ≠ a := by
      intro z
      rw [z, g1.2, hd1] at hk
      exact hk (List.mem_singleton.mpr rfl)
    simp [hqa]
theorem hx_aaldN (hx : p.tables.exec = Jvm.exec) (hb : c.code = cc) (hW : hx_W tb tys D cl A H0 L h s H locs) (hT : hx_T tb L h) {t : Nat} (g : hx_g L h a t) {t0 n0 : Nat} {nn : Bool} {t1 : Nat} (hd : tb[t]? = some (.inr (t0, n0, .inr (nn, [t1])))) {cA : ClassId} {C : String} (ht : tys[t0]? = some (cA, .object C)) {i : Int32} (hin : 0 ≤ i.toInt ∧ i.toInt < n0) (hne : h.2.2 a i.toNatClampNeg ≠ none) (hdg : decode cc pc = .ok (.aaload, 1))
    (kk : ∀ q : Nat, h.2.2 a i.toNatClampNeg = some q → hx_g L h q t1 → W p l e R s m args below meth c H locs cells slots Q (F0 m (pc + 1) ls (.ref q :: rest))) : W p l e R s m args below meth c H locs cells slots Q (F0 m pc ls (.int i :: .ref a :: rest)) := by
  refine hx_aald hx hb hW hT g hd ht hin hdg fun r hr _ h2 => ?_
  rcases r with _ | q
  · exact absurd hr.symm hne
  · obtain ⟨u1, u2⟩ := h2 q rfl
    exact kk q hr.symm ⟨u1, by simpa using u2⟩
end HXN
theorem hx_tnI {i c : Int32} (h1 : 0 ≤ i.toInt) (h2 : i.toInt < c.toInt) : (i.toNatClampNeg : Int) < c.toInt := by unfold Int32.toNatClampNeg; omega
