theorem kz_155 : Cond.laysStatic "SmallCourt" "WITHOUT" "[I" ∈ lw_tbl := kt_1 (List.mem_of_getElem? (i := 62) rfl)
theorem kz_463 : Cond.stringRef "SmallCourt$Reader" 49 "-       most    split   week    keep    late    gaol    -       longest age     cost    prove   " ∈ lw_tbl := kt_2 (List.mem_of_getElem? (i := 130) rfl)
theorem kz_532 : Cond.stringRef "SmallCourt$Reader" 73 "summons hearing order   seizure " ∈ lw_tbl := kt_2 (List.mem_of_getElem? (i := 199) rfl)
theorem kz_584 : Cond.stringRef "SmallCourt$Reader" 99 "and     " ∈ lw_tbl := kt_3 (List.mem_of_getElem? (i := 11) rfl)
theorem kz_585 : Cond.stringRef "SmallCourt$Reader" 105 "or      " ∈ lw_tbl := kt_3 (List.mem_of_getElem? (i := 12) rfl)
theorem kz_561 : Cond.stringRef "SmallCourt$Reader" 107 "not     " ∈ lw_tbl := kt_2 (List.mem_of_getElem? (i := 228) rfl)
theorem kz_574 : Cond.stringRef "SmallCourt$Reader" 116 "oath    denied  note    witness own     other   alike   claimed " ∈ lw_tbl := kt_3 (List.mem_of_getElem? (i := 1) rfl)
theorem kz_550 : Cond.laysStatic "SmallCourt" "LEAST_TOLD" "[I" ∈ lw_tbl := kt_2 (List.mem_of_getElem? (i := 217) rfl)
theorem kz_552 : Cond.laysStatic "SmallCourt" "MOST_TOLD" "[I" ∈ lw_tbl := kt_2 (List.mem_of_getElem? (i := 219) rfl)
theorem kz_481 : Cond.laysStatic "java/lang/String" "COMPACT_STRINGS" "Z" ∈ lw_tbl := kt_2 (List.mem_of_getElem? (i := 148) rfl)
theorem kz_501 : Cond.laysStatic "jdk/internal/util/Preconditions" "SIOOBE_FORMATTER" "Ljava/util/function/BiFunction;" ∈ lw_tbl := kt_2 (List.mem_of_getElem? (i := 168) rfl)

theorem hx_lenS {args : Array Value} {s : State} {t : Term} {v : Value} (h : (Term.length t).eval args s none [] s = some v) : ∃ a cell, t.eval args s none [] s = some (.ref a) ∧ s.arrayAt? a = some cell ∧ cell.slots.size < 2 ^ 31 ∧ v = .int cell.slots.size.toInt32 := by
  obtain ⟨a, cell, h1, h2, h3⟩ := Term.length_spec h
  refine ⟨a, cell, h1, h2, ?_, h3⟩
  simp only [Term.eval, h1, Option.bind_eq_bind, Option.bind_some, h2] at h
  by_cases hs : cell.slots.size < 2 ^ 31
  · exact hs
  · rw [if_neg hs] at h; cases h
theorem hx_nest {args : Array Value} {s : State} (htl : ∀ w ∈ lw_tbl, w.before args s = true) : ∀ w ∈ hx_N, va_Nw w s := by
  intro w hw
  unfold hx_N at hw
  simp only [List.mem_cons, List.not_mem_nil, or_false] at hw
  rcases hw with rfl | rfl | rfl | rfl | rfl | rfl | rfl | rfl | rfl | rfl | rfl <;> first | exact va_Nw.of rfl (htl _ kw_121) | exact va_Nw.of rfl (htl _ kw_154) | exact va_Nw.of rfl (htl _ kw_192) | exact va_Nw.of rfl (htl _ kw_227) | exact va_Nw.of rfl (htl _ kw_254) | exact va_Nw.of rfl (htl _ kw_305) | exact va_Nw.of rfl (htl _ kw_340) | exact va_Nw.of rfl (htl _ kw_549) | exact va_Nw.of rfl (htl _ kw_551) | exact va_Nw.of rfl (htl _ kw_919) | exact va_Nw.of rfl (htl _ kw_975)
theorem hx_wo {args : Array Value} {s : State} (hgv : (Jvm.Cond.and given_1 narrow_1).before args s = true) (htl : ∀ w ∈ lw_tbl, w.before args s = true) : ∃ b0, va_Z "SmallCourt" "WITHOUT" "[I" (.ref b0) (fun q : Nat => s.heap.size ≤ q) s s.heap ∧ va_X b0 14 P_wo s s.heap ∧ b0 < s.heap.size := by
  have hs := flat_of_before _ hgv
  have harr : (Cond.arrayOf (Term.static "SmallCourt" "WITHOUT" "[I") .int).before args s = true := hs _ (by decide +kernel)
  have hlen : (Term.length (Term.static "SmallCourt" "WITHOUT" "[I")).eval args s none [] s = some (.int 14) := va_eqt (hs _ (by decide +kernel))
  have el : ∀ (j v : Int32), (Cond.eq (Term.elem (Term.static "SmallCourt" "WITHOUT" "[I") (.int j)) (.int v)) ∈ flatC (Jvm.Cond.and given_1 narrow_1) → (Term.elem (Term.static "SmallCourt" "WITHOUT" "[I") (.int j)).eval args s none [] s = some (.int v) := fun j v h => va_eqt (hs _ h)
  have hel : ∀ j : Nat, j < 14 → (Term.elem (Term.static "SmallCourt" "WITHOUT" "[I") (.int (Int32.ofNat j))).eval args s none [] s = some (.int (P_wo j)) := by
    intro j hj
    match j, hj with
    | 0, _ => exact el 0 0 (by decide +kernel)
    | 1, _ => exact el 1 480 (by decide +kernel)
    | 2, _ => exact el 2 30 (by decide +kernel)
    | 3, _ => exact el 3 12 (by decide +kernel)
    | 4, _ => exact el 4 60 (by decide +kernel)
    | 5, _ => exact el 5 2 (by decide +kernel)
    | 6, _ => exact el 6 4 (by decide +kernel)
    | 7, _ => exact el 7 1 (by decide +kernel)
    | 8, _ => exact el 8 40 (by decide +kernel)
    | 9, _ => exact el 9 21 (by decide +kernel)
    | 10, _ => exact el 10 0 (by decide +kernel)
    | 11, _ => exact el 11 0 (by decide +kernel)
    | 12, _ => exact el 12 0 (by decide +kernel)
    | 13, _ => exact el 13 0 (by decide +kernel)
    | k + 14, hk => exact absurd hk (by omega)
  obtain ⟨t, ht, cell, h1, h2, h3, h4, h5, h6, h7⟩ := va_Tof (N := 14) (f := fun j => .int (P_wo j)) (A := fun q : Nat => s.heap.size ≤ q) (by decide) harr hlen hel (fun a h => Nat.not_le.mpr h)
  obtain ⟨a, cell2, e1, e2, e3, e4⟩ := hx_lenS hlen
  have ea : a = t := by
    have := e1.symm.trans ht
    cases this
    rfl
  subst ea
  have ec : cell2 = cell := Option.some.inj ((State.arrayAt?_spec e2).1.symm.trans h1)
  subst ec
  have hsz : cell2.slots.size = 14 := by
    have q1 : (14 : Int32) = cell2.slots.size.toInt32 := Value.int.inj e4
    have q2 : (cell2.slots.size.toInt32).toInt = (cell2.slots.size : Int) := nI_toInt e3
    rw [← q1] at q2
    have q3 : (14 : Int32).toInt = 14 := by decide
    omega
  exact ⟨a, va_Zof (htl _ kz_155) (htl _ (hx_sub _ kw_94)) ht (fun a h => Nat.not_le.mpr h), ⟨cell2, h1, h2, h3, hsz, h6⟩, (Array.getElem?_eq_some_iff.mp h1).1⟩
theorem hx_AR {args : Array Value} {s : State} {ty : FieldType} (h : (Cond.arrayClass ty).before args s = true) (hr : ∀ c1 : ClassId, s.vm.findClass ("[" ++ ty.toString) = some c1 → va_RA s c1 ty) : ∃ cA : ClassId, ArrOfT s cA ty ∧ va_RA s cA ty := by
  obtain ⟨cA, kA, comp, h1, h2, h3⟩ := Cond.arrayClass_spec h
  exact ⟨cA, fun n z => ⟨fun k h => (by cases h), kA, h2, comp, h3⟩, hr cA h1⟩
theorem hx_AQ {args : Array Value} {s : State} {C : String} (h : (Cond.arrayOver (.object C)).before args s = true) : ∃ cA : ClassId, ArrOfT s cA (.object C) ∧ va_RA s cA (.object C) := by
  obtain ⟨comp, cA, kA, h1, h2, h3, h4, h5⟩ := Cond.arrayOver_spec h
  exact ⟨cA, fun n z => ⟨fun k h => (by cases h), kA, h3, comp, h4⟩, kA, comp, h3, h4, h1, h5⟩
set_option maxHeartbeats 4000000 in
theorem hx_K0 {args : Array Value} {s : State} (htl : ∀ w ∈ lw_tbl, w.before args s = true) : ∃ (dC : Nat → ClassId) (dI : Nat → Nat → Nat) (dA : Nat → ClassId), va_K (dC, dI) vwCl (P_ty dA) s := by
  have hts : ∀ w ∈ hx_all, w.before args s = true := fun w hw => htl w (hx_sub w hw)
  obtain ⟨c0, iS0, hKn0⟩ := u_known (C := RX0) (T := TX0) (N := 5) (n := 5) hts kc_0 (hts _ kw_149)
  obtain ⟨c1, iS1, hKn1⟩ := u_known (C := RX1) (T := TX1) (N := 8) (n := 8) hts kc_1 (hts _ kw_191)
  obtain ⟨c2, iS2, hKn2⟩ := u_known (C := RX2) (T := TX2) (N := 19) (n := 19) hts kc_2 (hts _ kw_716)
  obtain ⟨c3, iS3, hKn3⟩ := u_known (C := RX3) (T := TX3) (N := 6) (n := 6) hts kc_3 (hts _ kw_226)
  obtain ⟨c4, iS4, hKn4⟩ := u_known (C := RX4) (T := TX4) (N := 10) (n := 10) hts kc_4 (hts _ kw_605)
  obtain ⟨c5, iS5, hKn5⟩ := u_known (C := RX5) (T := TX5) (N := 13) (n := 13) hts kc_5 (hts _ kw_253)
  obtain ⟨c6, iS6, hKn6⟩ := u_known (C := RX6) (T := TX6) (N := 7) (n := 7) hts kc_6 (hts _ kw_120)
  obtain ⟨c7, iS7, hKn7⟩ := u_known (C := RX7) (T := TX7) (N := 8) (n := 8) hts kc_7 (hts _ kw_304)
  obtain ⟨c8, iS8, hKn8⟩ := u_known (C := RX8) (T := TX8) (N := 5) (n := 5) hts kc_8 (hts _ kw_339)
  obtain ⟨c9, iS9, hKn9⟩ := u_known (C := RX9) (T := TX9) (N := 20) (n := 20) hts kc_9 (hts _ kw_112)
  obtain ⟨c10, iS10, hKn10⟩ := u_known (C := RX10) (T := TX10) (N := 98) (n := 98) hts kc_10 (hts _ kw_1114)
  obtain ⟨a0, A0, B0⟩ := hx_AR (ty := .int) (hts _ kw_186) (fun _ h => h)
  obtain ⟨a1, A1, B1⟩ := hx_AR (ty := .byte) (hts _ kw_147) (fun _ h => h)
  obtain ⟨a2, A2, B2⟩ := hx_AR (ty := .boolean) (hts _ kw_222) (fun _ h => h)
  obtain ⟨a3, A3, B3⟩ := hx_AR (ty := .long) (hts _ kw_1438) (fun _ h => h)
  obtain ⟨a4, A4, B4⟩ := hx_AQ (C := "SmallCourt$Act") (htl _ kw_187)
  obtain ⟨a5, A5, B5⟩ := hx_AQ (C := "SmallCourt$Person") (htl _ kw_189)
  obtain ⟨a6, A6, B6⟩ := hx_AQ (C := "SmallCourt$Claim") (htl _ kw_224)
  refine ⟨fun k => match k with | 0 => c0 | 1 => c1 | 2 => c2 | 3 => c3 | 4 => c4 | 5 => c5 | 6 => c6 | 7 => c7 | 8 => c8 | 9 => c9 | _ => c10, fun k => match k with | 0 => iS0 | 1 => iS1 | 2 => iS2 | 3 => iS3 | 4 => iS4 | 5 => iS5 | 6 => iS6 | 7 => iS7 | 8 => iS8 | 9 => iS9 | _ => iS10, fun k => match k with | 0 => a0 | 1 => a1 | 2 => a2 | 3 => a3 | 4 => a4 | 5 => a5 | _ => a6, fun k q hq => ?_, fun k q hq => ?_⟩
  · match k, hq with
    | 0, hq => cases hq; exact hKn0
    | 1, hq => cases hq; exact hKn1
    | 2, hq => cases hq; exact hKn2
    | 3, hq => cases hq; exact hKn3
    | 4, hq => cases hq; exact hKn4
    | 5, hq => cases hq; exact hKn5
    | 6, hq => cases hq; exact hKn6
    | 7, hq => cases hq; exact hKn7
    | 8, hq => cases hq; exact hKn8
    | 9, hq => cases hq; exact hKn9
    | 10, hq => cases hq; exact hKn10
    | k + 11, hq => simp [vwCl] at hq
  · match k, hq with
    | 0, hq => cases hq; exact ⟨A0, B0⟩
    | 1, hq => cases hq; exact ⟨A1, B1⟩
    | 2, hq => cases hq; exact ⟨A2, B2⟩
    | 3, hq => cases hq; exact ⟨A3, B3⟩
    | 4, hq => cases hq; exact ⟨A4, B4⟩
    | 5, hq => cases hq; exact ⟨A5, B5⟩
    | 6, hq => cases hq; exact ⟨A6, B6⟩
    | k + 7, hq => simp [P_ty] at hq

theorem hx_xs {b : Nat} {s : State} (hgv : (Jvm.Cond.and given_1 narrow_1).before #[Value.ref b] s = true) (htl : ∀ w ∈ lw_tbl, w.before #[Value.ref b] s = true) : ∃ (t1 t2 : Nat) (kf vf : Nat → Nat), ∀ b0 : Nat, hx_Xs (fun q : Nat => s.heap.size ≤ q) (b0, t1, t2, kf, vf) s := by
  have hs := flat_of_before _ hgv
  have G : ∀ (i : Nat) {w : Cond}, (flatC (Jvm.Cond.and given_1 narrow_1))[i]? = some w → w.before #[Value.ref b] s = true := fun i w h => hs w (List.mem_of_getElem? h)
  have hA : ∀ a : Nat, a < s.heap.size → ¬ (fun q : Nat => s.heap.size ≤ q) a := fun a h => Nat.not_le.mpr h
  obtain ⟨t1, ht1, hT1⟩ := va_Tof (tm := Term.static "SmallCourt" "LEAST_TOLD" "[I") (ty := .int) (N := 14) (f := P_lt) (A := (fun q : Nat => s.heap.size ≤ q)) (by decide) (G 27 (by decide +kernel)) (va_eqt (G 28 (by decide +kernel))) (fun j hj => match j, hj with | 0, _ => va_eqt (G 29 (by decide +kernel)) | 1, _ => va_eqt (G 30 (by decide +kernel)) | 2, _ => va_eqt (G 31 (by decide +kernel)) | 3, _ => va_eqt (G 32 (by decide +kernel)) | 4, _ => va_eqt (G 33 (by decide +kernel)) | 5, _ => va_eqt (G 34 (by decide +kernel)) | 6, _ => va_eqt (G 35 (by decide +kernel)) | 7, _ => va_eqt (G 36 (by decide +kernel)) | 8, _ => va_eqt (G 37 (by decide +kernel)) | 9, _ => va_eqt (G 38 (by decide +kernel)) | 10, _ => va_eqt (G 39 (by decide +kernel)) | 11, _ => va_eqt (G 40 (by decide +kernel)) | 12, _ => va_eqt (G 41 (by decide +kernel)) | 13, _ => va_eqt (G 42 (by decide +kernel)) | k + 14, hk => absurd hk (by omega)) hA
  obtain ⟨t2, ht2, hT2⟩ := va_Tof (tm := Term.static "SmallCourt" "MOST_TOLD" "[I") (ty := .int) (N := 14) (f := P_mt) (A := (fun q : Nat => s.heap.size ≤ q)) (by decide) (G 44 (by decide +kernel)) (va_eqt (G 45 (by decide +kernel))) (fun j hj => match j, hj with | 0, _ => va_eqt (G 46 (by decide +kernel)) | 1, _ => va_eqt (G 47 (by decide +kernel)) | 2, _ => va_eqt (G 48 (by decide +kernel)) | 3, _ => va_eqt (G 49 (by decide +kernel)) | 4, _ => va_eqt (G 50 (by decide +kernel)) | 5, _ => va_eqt (G 51 (by decide +kernel)) | 6, _ => va_eqt (G 52 (by decide +kernel)) | 7, _ => va_eqt (G 53 (by decide +kernel)) | 8, _ => va_eqt (G 54 (by decide +kernel)) | 9, _ => va_eqt (G 55 (by decide +kernel)) | 10, _ => va_eqt (G 56 (by decide +kernel)) | 11, _ => va_eqt (G 57 (by decide +kernel)) | 12, _ => va_eqt (G 58 (by decide +kernel)) | 13, _ => va_eqt (G 59 (by decide +kernel)) | k + 14, hk => absurd hk (by omega)) hA
  have he0 : ∀ q : Nat, q < 96 → (Cond.eq (.elem (.field (Term.string "SmallCourt$Reader" 49) "java/lang/String" "value" "[B") (.int (Int32.ofNat q))) (.int ((P_by.getD 0 []).getD q 0))).before #[Value.ref b] s = true := fun q hq => match q, hq with | 0, _ => G 97 (by decide +kernel) | 1, _ => G 98 (by decide +kernel) | 2, _ => G 99 (by decide +kernel) | 3, _ => G 100 (by decide +kernel) | 4, _ => G 101 (by decide +kernel) | 5, _ => G 102 (by decide +kernel) | 6, _ => G 103 (by decide +kernel) | 7, _ => G 104 (by decide +kernel) | 8, _ => G 105 (by decide +kernel) | 9, _ => G 106 (by decide +kernel) | 10, _ => G 107 (by decide +kernel) | 11, _ => G 108 (by decide +kernel) | 12, _ => G 109 (by decide +kernel) | 13, _ => G 110 (by decide +kernel) | 14, _ => G 111 (by decide +kernel) | 15, _ => G 112 (by decide +kernel) | 16, _ => G 113 (by decide +kernel) | 17, _ => G 114 (by decide +kernel) | 18, _ => G 115 (by decide +kernel) | 19, _ => G 116 (by decide +kernel) | 20, _ => G 117 (by decide +kernel) | 21, _ => G 118 (by decide +kernel) | 22, _ => G 119 (by decide +kernel) | 23, _ => G 120 (by decide +kernel) | 24, _ => G 121 (by decide +kernel) | 25, _ => G 122 (by decide +kernel) | 26, _ => G 123 (by decide +kernel) | 27, _ => G 124 (by decide +kernel) | 28, _ => G 125 (by decide +kernel) | 29, _ => G 126 (by decide +kernel) | 30, _ => G 127 (by decide +kernel) | 31, _ => G 128 (by decide +kernel) | 32, _ => G 129 (by decide +kernel) | 33, _ => G 130 (by decide +kernel) | 34, _ => G 131 (by decide +kernel) | 35, _ => G 132 (by decide +kernel) | 36, _ => G 133 (by decide +kernel) | 37, _ => G 134 (by decide +kernel) | 38, _ => G 135 (by decide +kernel) | 39, _ => G 136 (by decide +kernel) | 40, _ => G 137 (by decide +kernel) | 41, _ => G 138 (by decide +kernel) | 42, _ => G 139 (by decide +kernel) | 43, _ => G 140 (by decide +kernel) | 44, _ => G 141 (by decide +kernel) | 45, _ => G 142 (by decide +kernel) | 46, _ => G 143 (by decide +kernel) | 47, _ => G 144 (by decide +kernel) | 48, _ => G 145 (by decide +kernel) | 49, _ => G 146 (by decide +kernel) | 50, _ => G 147 (by decide +kernel) | 51, _ => G 148 (by decide +kernel) | 52, _ => G 149 (by decide +kernel) | 53, _ => G 150 (by decide +kernel) | 54, _ => G 151 (by decide +kernel) | 55, _ => G 152 (by decide +kernel) | 56, _ => G 153 (by decide +kernel) | 57, _ => G 154 (by decide +kernel) | 58, _ => G 155 (by decide +kernel) | 59, _ => G 156 (by decide +kernel) | 60, _ => G 157 (by decide +kernel) | 61, _ => G 158 (by decide +kernel) | 62, _ => G 159 (by decide +kernel) | 63, _ => G 160 (by decide +kernel) | 64, _ => G 161 (by decide +kernel) | 65, _ => G 162 (by decide +kernel) | 66, _ => G 163 (by decide +kernel) | 67, _ => G 164 (by decide +kernel) | 68, _ => G 165 (by decide +kernel) | 69, _ => G 166 (by decide +kernel) | 70, _ => G 167 (by decide +kernel) | 71, _ => G 168 (by decide +kernel) | 72, _ => G 169 (by decide +kernel) | 73, _ => G 170 (by decide +kernel) | 74, _ => G 171 (by decide +kernel) | 75, _ => G 172 (by decide +kernel) | 76, _ => G 173 (by decide +kernel) | 77, _ => G 174 (by decide +kernel) | 78, _ => G 175 (by decide +kernel) | 79, _ => G 176 (by decide +kernel) | 80, _ => G 177 (by decide +kernel) | 81, _ => G 178 (by decide +kernel) | 82, _ => G 179 (by decide +kernel) | 83, _ => G 180 (by decide +kernel) | 84, _ => G 181 (by decide +kernel) | 85, _ => G 182 (by decide +kernel) | 86, _ => G 183 (by decide +kernel) | 87, _ => G 184 (by decide +kernel) | 88, _ => G 185 (by decide +kernel) | 89, _ => G 186 (by decide +kernel) | 90, _ => G 187 (by decide +kernel) | 91, _ => G 188 (by decide +kernel) | 92, _ => G 189 (by decide +kernel) | 93, _ => G 190 (by decide +kernel) | 94, _ => G 191 (by decide +kernel) | 95, _ => G 192 (by decide +kernel) | k + 96, hk => absurd hk (by omega)
  have he1 : ∀ q : Nat, q < 32 → (Cond.eq (.elem (.field (Term.string "SmallCourt$Reader" 73) "java/lang/String" "value" "[B") (.int (Int32.ofNat q))) (.int ((P_by.getD 1 []).getD q 0))).before #[Value.ref b] s = true := fun q hq => match q, hq with | 0, _ => G 197 (by decide +kernel) | 1, _ => G 198 (by decide +kernel) | 2, _ => G 199 (by decide +kernel) | 3, _ => G 200 (by decide +kernel) | 4, _ => G 201 (by decide +kernel) | 5, _ => G 202 (by decide +kernel) | 6, _ => G 203 (by decide +kernel) | 7, _ => G 204 (by decide +kernel) | 8, _ => G 205 (by decide +kernel) | 9, _ => G 206 (by decide +kernel) | 10, _ => G 207 (by decide +kernel) | 11, _ => G 208 (by decide +kernel) | 12, _ => G 209 (by decide +kernel) | 13, _ => G 210 (by decide +kernel) | 14, _ => G 211 (by decide +kernel) | 15, _ => G 212 (by decide +kernel) | 16, _ => G 213 (by decide +kernel) | 17, _ => G 214 (by decide +kernel) | 18, _ => G 215 (by decide +kernel) | 19, _ => G 216 (by decide +kernel) | 20, _ => G 217 (by decide +kernel) | 21, _ => G 218 (by decide +kernel) | 22, _ => G 219 (by decide +kernel) | 23, _ => G 220 (by decide +kernel) | 24, _ => G 221 (by decide +kernel) | 25, _ => G 222 (by decide +kernel) | 26, _ => G 223 (by decide +kernel) | 27, _ => G 224 (by decide +kernel) | 28, _ => G 225 (by decide +kernel) | 29, _ => G 226 (by decide +kernel) | 30, _ => G 227 (by decide +kernel) | 31, _ => G 228 (by decide +kernel) | k + 32, hk => absurd hk (by omega)
  have he2 : ∀ q : Nat, q < 8 → (Cond.eq (.elem (.field (Term.string "SmallCourt$Reader" 99) "java/lang/String" "value" "[B") (.int (Int32.ofNat q))) (.int ((P_by.getD 2 []).getD q 0))).before #[Value.ref b] s = true := fun q hq => match q, hq with | 0, _ => G 319 (by decide +kernel) | 1, _ => G 320 (by decide +kernel) | 2, _ => G 321 (by decide +kernel) | 3, _ => G 322 (by decide +kernel) | 4, _ => G 323 (by decide +kernel) | 5, _ => G 324 (by decide +kernel) | 6, _ => G 325 (by decide +kernel) | 7, _ => G 326 (by decide +kernel) | k + 8, hk => absurd hk (by omega)
  have he3 : ∀ q : Nat, q < 8 → (Cond.eq (.elem (.field (Term.string "SmallCourt$Reader" 105) "java/lang/String" "value" "[B") (.int (Int32.ofNat q))) (.int ((P_by.getD 3 []).getD q 0))).before #[Value.ref b] s = true := fun q hq => match q, hq with | 0, _ => G 335 (by decide +kernel) | 1, _ => G 336 (by decide +kernel) | 2, _ => G 337 (by decide +kernel) | 3, _ => G 338 (by decide +kernel) | 4, _ => G 339 (by decide +kernel) | 5, _ => G 340 (by decide +kernel) | 6, _ => G 341 (by decide +kernel) | 7, _ => G 342 (by decide +kernel) | k + 8, hk => absurd hk (by omega)
  have he4 : ∀ q : Nat, q < 8 → (Cond.eq (.elem (.field (Term.string "SmallCourt$Reader" 107) "java/lang/String" "value" "[B") (.int (Int32.ofNat q))) (.int ((P_by.getD 4 []).getD q 0))).before #[Value.ref b] s = true := fun q hq => match q, hq with | 0, _ => G 234 (by decide +kernel) | 1, _ => G 235 (by decide +kernel) | 2, _ => G 236 (by decide +kernel) | 3, _ => G 237 (by decide +kernel) | 4, _ => G 238 (by decide +kernel) | 5, _ => G 239 (by decide +kernel) | 6, _ => G 240 (by decide +kernel) | 7, _ => G 241 (by decide +kernel) | k + 8, hk => absurd hk (by omega)
  have he5 : ∀ q : Nat, q < 64 → (Cond.eq (.elem (.field (Term.string "SmallCourt$Reader" 116) "java/lang/String" "value" "[B") (.int (Int32.ofNat q))) (.int ((P_by.getD 5 []).getD q 0))).before #[Value.ref b] s = true := fun q hq => match q, hq with | 0, _ => G 248 (by decide +kernel) | 1, _ => G 249 (by decide +kernel) | 2, _ => G 250 (by decide +kernel) | 3, _ => G 251 (by decide +kernel) | 4, _ => G 252 (by decide +kernel) | 5, _ => G 253 (by decide +kernel) | 6, _ => G 254 (by decide +kernel) | 7, _ => G 255 (by decide +kernel) | 8, _ => G 256 (by decide +kernel) | 9, _ => G 257 (by decide +kernel) | 10, _ => G 258 (by decide +kernel) | 11, _ => G 259 (by decide +kernel) | 12, _ => G 260 (by decide +kernel) | 13, _ => G 261 (by decide +kernel) | 14, _ => G 262 (by decide +kernel) | 15, _ => G 263 (by decide +kernel) | 16, _ => G 264 (by decide +kernel) | 17, _ => G 265 (by decide +kernel) | 18, _ => G 266 (by decide +kernel) | 19, _ => G 267 (by decide +kernel) | 20, _ => G 268 (by decide +kernel) | 21, _ => G 269 (by decide +kernel) | 22, _ => G 270 (by decide +kernel) | 23, _ => G 271 (by decide +kernel) | 24, _ => G 272 (by decide +kernel) | 25, _ => G 273 (by decide +kernel) | 26, _ => G 274 (by decide +kernel) | 27, _ => G 275 (by decide +kernel) | 28, _ => G 276 (by decide +kernel) | 29, _ => G 277 (by decide +kernel) | 30, _ => G 278 (by decide +kernel) | 31, _ => G 279 (by decide +kernel) | 32, _ => G 280 (by decide +kernel) | 33, _ => G 281 (by decide +kernel) | 34, _ => G 282 (by decide +kernel) | 35, _ => G 283 (by decide +kernel) | 36, _ => G 284 (by decide +kernel) | 37, _ => G 285 (by decide +kernel) | 38, _ => G 286 (by decide +kernel) | 39, _ => G 287 (by decide +kernel) | 40, _ => G 288 (by decide +kernel) | 41, _ => G 289 (by decide +kernel) | 42, _ => G 290 (by decide +kernel) | 43, _ => G 291 (by decide +kernel) | 44, _ => G 292 (by decide +kernel) | 45, _ => G 293 (by decide +kernel) | 46, _ => G 294 (by decide +kernel) | 47, _ => G 295 (by decide +kernel) | 48, _ => G 296 (by decide +kernel) | 49, _ => G 297 (by decide +kernel) | 50, _ => G 298 (by decide +kernel) | 51, _ => G 299 (by decide +kernel) | 52, _ => G 300 (by decide +kernel) | 53, _ => G 301 (by decide +kernel) | 54, _ => G 302 (by decide +kernel) | 55, _ => G 303 (by decide +kernel) | 56, _ => G 304 (by decide +kernel) | 57, _ => G 305 (by decide +kernel) | 58, _ => G 306 (by decide +kernel) | 59, _ => G 307 (by decide +kernel) | 60, _ => G 308 (by decide +kernel) | 61, _ => G 309 (by decide +kernel) | 62, _ => G 310 (by decide +kernel) | 63, _ => G 311 (by decide +kernel) | k + 64, hk => absurd hk (by omega)
  obtain ⟨kf, vf, hvs, hve⟩ := vk_Sof (N := 6) (tm := fun i => Term.string "SmallCourt$Reader" (P_si.getD i 0)) (len := P_ln) (byt := P_by) (A := (fun q : Nat => s.heap.size ≤ q)) (s := s) (args := #[Value.ref b]) (by decide) (fun i hi => match i, hi with | 0, _ => (G 93 (by decide +kernel)) | 1, _ => (G 193 (by decide +kernel)) | 2, _ => (G 315 (by decide +kernel)) | 3, _ => (G 331 (by decide +kernel)) | 4, _ => (G 230 (by decide +kernel)) | 5, _ => (G 244 (by decide +kernel)) | k + 6, hk => absurd hk (by omega)) (fun i hi => match i, hi with | 0, _ => (G 94 (by decide +kernel)) | 1, _ => (G 194 (by decide +kernel)) | 2, _ => (G 316 (by decide +kernel)) | 3, _ => (G 332 (by decide +kernel)) | 4, _ => (G 231 (by decide +kernel)) | 5, _ => (G 245 (by decide +kernel)) | k + 6, hk => absurd hk (by omega)) (fun i hi => match i, hi with | 0, _ => (G 95 (by decide +kernel)) | 1, _ => (G 195 (by decide +kernel)) | 2, _ => (G 317 (by decide +kernel)) | 3, _ => (G 333 (by decide +kernel)) | 4, _ => (G 232 (by decide +kernel)) | 5, _ => (G 246 (by decide +kernel)) | k + 6, hk => absurd hk (by omega)) (fun i hi => match i, hi with | 0, _ => (G 96 (by decide +kernel)) | 1, _ => (G 196 (by decide +kernel)) | 2, _ => (G 318 (by decide +kernel)) | 3, _ => (G 334 (by decide +kernel)) | 4, _ => (G 233 (by decide +kernel)) | 5, _ => (G 247 (by decide +kernel)) | k + 6, hk => absurd hk (by omega)) (fun i hi => match i, hi with | 0, _ => he0 | 1, _ => he1 | 2, _ => he2 | 3, _ => he3 | 4, _ => he4 | 5, _ => he5 | k + 6, hk => absurd hk (by omega)) (fun i j hi hj hij => match i, j, hi, hj with | 0, 0, _, _ => absurd rfl hij | 0, 1, _, _ => Or.inl (G 229 (by decide +kernel)) | 0, 2, _, _ => Or.inl (G 327 (by decide +kernel)) | 0, 3, _, _ => Or.inl (G 343 (by decide +kernel)) | 0, 4, _, _ => Or.inl (G 242 (by decide +kernel)) | 0, 5, _, _ => Or.inl (G 312 (by decide +kernel)) | 1, 0, _, _ => Or.inr (G 229 (by decide +kernel)) | 1, 1, _, _ => absurd rfl hij | 1, 2, _, _ => Or.inl (G 328 (by decide +kernel)) | 1, 3, _, _ => Or.inl (G 344 (by decide +kernel)) | 1, 4, _, _ => Or.inl (G 243 (by decide +kernel)) | 1, 5, _, _ => Or.inl (G 313 (by decide +kernel)) | 2, 0, _, _ => Or.inr (G 327 (by decide +kernel)) | 2, 1, _, _ => Or.inr (G 328 (by decide +kernel)) | 2, 2, _, _ => absurd rfl hij | 2, 3, _, _ => Or.inl (G 347 (by decide +kernel)) | 2, 4, _, _ => Or.inr (G 329 (by decide +kernel)) | 2, 5, _, _ => Or.inr (G 330 (by decide +kernel)) | 3, 0, _, _ => Or.inr (G 343 (by decide +kernel)) | 3, 1, _, _ => Or.inr (G 344 (by decide +kernel)) | 3, 2, _, _ => Or.inr (G 347 (by decide +kernel)) | 3, 3, _, _ => absurd rfl hij | 3, 4, _, _ => Or.inr (G 345 (by decide +kernel)) | 3, 5, _, _ => Or.inr (G 346 (by decide +kernel)) | 4, 0, _, _ => Or.inr (G 242 (by decide +kernel)) | 4, 1, _, _ => Or.inr (G 243 (by decide +kernel)) | 4, 2, _, _ => Or.inl (G 329 (by decide +kernel)) | 4, 3, _, _ => Or.inl (G 345 (by decide +kernel)) | 4, 4, _, _ => absurd rfl hij | 4, 5, _, _ => Or.inl (G 314 (by decide +kernel)) | 5, 0, _, _ => Or.inr (G 312 (by decide +kernel)) | 5, 1, _, _ => Or.inr (G 313 (by decide +kernel)) | 5, 2, _, _ => Or.inl (G 330 (by decide +kernel)) | 5, 3, _, _ => Or.inl (G 346 (by decide +kernel)) | 5, 4, _, _ => Or.inr (G 314 (by decide +kernel)) | 5, 5, _, _ => absurd rfl hij | k + 6, _, hk, _ => absurd hk (by omega) | _, k + 6, _, hk => absurd hk (by omega)) hA
  exact ⟨t1, t2, kf, vf, fun b0 => ⟨va_Zof (htl _ kz_550) (htl _ (hx_sub _ kw_94)) ht1 hA, hT1, va_Zof (htl _ kz_552) (htl _ (hx_sub _ kw_94)) ht2 hA, hT2, va_Zof (htl _ kz_481) (htl _ (hx_sub _ kw_104)) (va_eqt (G 21 (by decide +kernel))) hA, va_Zqof (htl _ kz_501) (htl _ (hx_sub _ kw_106)) (G 22 (by decide +kernel)) hA, hvs, (fun i hi => match i, hi with | 0, _ => vk_R.of (htl _ kz_463) (hve 0 (by decide)) | 1, _ => vk_R.of (htl _ kz_532) (hve 1 (by decide)) | 2, _ => vk_R.of (htl _ kz_584) (hve 2 (by decide)) | 3, _ => vk_R.of (htl _ kz_585) (hve 3 (by decide)) | 4, _ => vk_R.of (htl _ kz_561) (hve 4 (by decide)) | 5, _ => vk_R.of (htl _ kz_574) (hve 5 (by decide)) | k + 6, hk => absurd hk (by omega))⟩⟩
