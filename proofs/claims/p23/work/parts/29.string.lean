/-! STRING CONSTANTS: calls on them -/
section HXSTR
variable {p : Program} {l : Launch} {e : Env} {R : Room} {s : State} {m : MethodId} {args : Array Value} {below : List Frame} {meth : Method} {c : Code} {H : Heap} {locs : List Loc} {cells slots : Nat} {Q : State → Prop}
variable {cc : ByteArray} {pc : Nat} {ls : Array Slot} {rest st0 : List Value} {D : va_G} {cl : List vw_C} {A : Nat → Prop} {a : Nat} {tys : hx_y} {H0 : Heap} {tb : List hx_d} {L : List Nat} {h : hx_h}
variable {y : MethodName} {bytes : ByteArray} {maxL nL mc ms n index : Nat} {ret : Option FieldType} {ws : List Cond} {rm : Room} {Ts : List Cond} {own C : String} {As : List Value} {Qc : Array Value → State → Outcome → State → Prop}
theorem hx_runVS (S : CallFix p m c cc nL s args Ts own) (hW : hx_W tb tys D cl A s.heap L h s H locs) {b0 : hx_z} (hZ : hx_Xt A b0 s) {i : Nat} (hi : i < 6) (hM : Met l y ws rm (va_Pc (.ref (b0.2.2.2.1 i) :: As) (hx_BX tb tys D cl L h H.size b0)) Qc mc ms (hx_A L H.size)) (cw : CallW R s args own "java/lang/String" index y bytes maxL ret ws rm mc ms n) (hn : As.length = n) (hsize : ls.size = nL) (hst : st0 = As.reverse ++ .ref (b0.2.2.2.1 i) :: rest) (hR : (rest.map fun v => v.category).sum ≤ 8) (hdg : decode cc pc = .ok (.invokevirtual index, 3)) (hf : cells + mc ≤ R.cells ∧ slots + ms ≤ R.slots) :
    va_Run p l e R s m args below meth c H locs cells slots mc ms (F0 m pc ls st0) rest (Qc (Value.ref (b0.2.2.2.1 i) :: As).toArray) (hx_A L H.size) :=
  va_runV S hM cw ⟨hx_blindX, vk_recv hZ.2.2.2.2.2.2.2.2.2.2.2.2.1 hi hW.2.2.2.1, hx_preX hW hZ⟩ rfl hn hsize hst (lv_room hR) hdg hf
theorem hx_runSX (S : CallFix p m c cc nL s args Ts own) (hW : hx_W tb tys D cl A s.heap L h s H locs) {b0 : hx_z} (hM : Met l y ws rm (va_Pc As (hx_BX tb tys D cl L h H.size b0)) Qc mc ms (hx_A L H.size)) (hZ : hx_Xt A b0 s) (cw : CallB R s args own index y bytes maxL ret ws rm mc ms n ∧ (Cond.static y).before args s = true) (hn : As.length = n) (hsize : ls.size = nL) (hst : st0 = As.reverse ++ rest) (hR : (rest.map fun v => v.category).sum ≤ 8) (hdg : decode cc pc = .ok (.invokestatic index, 3)) (hf : cells + mc ≤ R.cells ∧ slots + ms ≤ R.slots) :
    va_Run p l e R s m args below meth c H locs cells slots mc ms (F0 m pc ls st0) rest (Qc As.toArray) (hx_A L H.size) :=
  va_runS S hM cw ⟨hx_blindX, hx_preX hW hZ⟩ rfl hn hsize hst (lv_room hR) hdg hf
end HXSTR
theorem hx_ln : ∀ i, i < 6 → (Int32.ofNat (P_ln.getD i 0)).toInt = ((P_ln.getD i 0 : Nat) : Int) ∧ 0 ≤ (Int32.ofNat (P_ln.getD i 0)).toInt ∧ (Int32.ofNat (P_ln.getD i 0)).toInt ≤ 96 := by decide +kernel
theorem hx_shr0 (x : Int32) : x >>> ((0 : Int32) &&& 31) = x := by
  have e : ((0 : Int32) &&& 31) = 0 := by decide
  rw [e]; exact Int32.shiftRight_zero
theorem hx_narc (x : Int32) : narrow .char (.int (x.toUInt32 % 65536).toInt32) = .int (x.toUInt32 % 65536).toInt32 := by
  show Value.int ((x.toUInt32 % 65536).toInt32).toUInt32.toUInt16.toUInt32.toInt32 = _
  congr 1
  rw [← lg_i2c_nf]
  congr 1
  apply UInt32.toNat_inj.mp
  simp
theorem hx_cl {i : Int32} (h : 0 ≤ i.toInt) : (i.toNatClampNeg : Int) = i.toInt := by unfold Int32.toNatClampNeg; omega
theorem hx_hole {h h1 : hx_h} {q v : Nat} {i : Int32} {c : Int} (hp : ∀ j : Nat, (j : Int) < c → (j : Int) ≠ i.toInt → h.2.2 q j ≠ none) (h0 : 0 ≤ i.toInt) (eh : h1 = hx_pr h q i.toNatClampNeg (some v)) : ∀ j : Nat, (j : Int) < c → h1.2.2 q j ≠ none := by
  subst eh
  intro j hj
  by_cases z : j = i.toNatClampNeg
  · subst z; rw [hx_pr_at]; nofun
  · rw [hx_pr_ne _ _ (fun w => z w.2)]
    exact hp j hj (fun w => z (by unfold Int32.toNatClampNeg; omega))
